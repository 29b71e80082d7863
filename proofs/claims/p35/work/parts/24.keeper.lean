theorem rng_up {F : aI1} {k q : Nat} {lo hi v : Int} (hv : lo ≤ v ∧ v ≤ hi) (h : ∀ j, j < 8 → lo ≤ F k j ∧ F k j ≤ hi) : ∀ j, j < 8 → lo ≤ up2 F k q v k j ∧ up2 F k q v k j ≤ hi := by
  intro j hj
  by_cases e : j = q
  · subst e; rw [up2_s]; exact hv
  · rw [up2_n _ _ (Or.inr e)]; exact h j hj
set_option maxHeartbeats 4000000 in
set_option maxRecDepth 20000 in
theorem c_X4_lastsBy (l0 : Launch) {Ia Ja : aI1} {Ra : aR1} {Sa : aS1} (hL : LY Ra Sa) (hI : XI Ia) {a : Int} (ha0 : -1 ≤ a) (ha1 : a ≤ 255)  : CT l0 0 0 0 mX4_lastsBy [kR (some 18), kI a] Ia Ja Ra Sa (cI (fun x I' J' => Ia = I' ∧ Ja = J' ∧ True) Ra Sa) := by
  refine ct_in pn_X4 (Nat.le_of_ble_eq_true rfl) (fun X hX hT hIn => ?_)
  have hX : aK l0 X cX4_lastsBy 2 RX4 (some .int) 0 0 0 := hX
  change WW X 0 [some (kR (some 18)), some (kI a)] [] Ia Ja Ra Sa 0 0
  obtain ⟨hn1, hn2⟩ := hI.1
  obtain ⟨hk1, hk2⟩ := hI.2.1
  obtain ⟨hf1, hf2⟩ := hI.fu
  refine ww_iload_n hX (pc := 0) dX4_lastsBy_0 rfl ?_
  refine ww_iconst hX (pc := 1) (x := (-1)) dX4_lastsBy_1 rfl ?_
  refine ww_icmp_ne hX (pc := 2) (tgt := 9) dX4_lastsBy_2 (by decide) (fun h_2 => ?_) (fun h_2 => ?_)
  · simp only [w32_mod] at h_2
    refine ww_aload_n hX (pc := 9) dX4_lastsBy_9 rfl ?_
    refine ww_getR hX (pc := 10) fX4_26 (by decide) (xs_18 hL) (xr_18_4 hL) dX4_lastsBy_10 ?_
    refine ww_getR hX (pc := 13) fX4_67 (by decide) (xs_22 hL) (xr_22_0 hL) dX4_lastsBy_13 ?_
    refine ww_iload_n hX (pc := 16) dX4_lastsBy_16 rfl ?_
    refine ww_iald hX (pc := 17) (xs_24 hL) (by decide) (by omega) (by omega) dX4_lastsBy_17 ?_
    refine rI hX (pc := 18) hT (Nat.le_refl 0) (Nat.le_refl 0) dX4_lastsBy_18 ?_
    exact ⟨rfl, rfl, trivial⟩
  · simp only [w32_mod] at h_2
    refine ww_iconst hX (pc := 5) (x := (-1)) dX4_lastsBy_5 rfl ?_
    refine ww_goto hX (pc := 6) (tgt := 18) dX4_lastsBy_6 (by decide) ?_
    refine rI hX (pc := 18) hT (Nat.le_refl 0) (Nat.le_refl 0) dX4_lastsBy_18 ?_
    exact ⟨rfl, rfl, trivial⟩
set_option maxHeartbeats 4000000 in
set_option maxRecDepth 20000 in
theorem c_X4_isBetter (l0 : Launch) {Ia Ja : aI1} {Ra : aR1} {Sa : aS1} (hL : LY Ra Sa) (hI : XI Ia) {a b m : Int} (ha0 : 0 ≤ a) (ha1 : a ≤ 255) (hb0 : 0 ≤ b) (hb1 : b ≤ 255)  : CT l0 1 0 0 mX4_isBetter [kR (some 18), kI a, kI b, kI m] Ia Ja Ra Sa (cI (fun x I' J' => Ia = I' ∧ Ja = J' ∧ (x = 0 ∨ x = 1)) Ra Sa) := by
  refine ct_in pn_X4 (Nat.le_of_ble_eq_true rfl) (fun X hX hT hIn => ?_)
  have hX : aK l0 X cX4_isBetter 4 RX4 (some .boolean) 1 0 0 := hX
  change WW X 0 [some (kR (some 18)), some (kI a), some (kI b), some (kI m)] [] Ia Ja Ra Sa 0 0
  obtain ⟨hn1, hn2⟩ := hI.1
  obtain ⟨hk1, hk2⟩ := hI.2.1
  obtain ⟨hf1, hf2⟩ := hI.fu
  refine ww_iload_n hX (pc := 0) dX4_isBetter_0 rfl ?_
  refine ww_table hX (pc := 1) dX4_isBetter_1 130 (by decide) (fun h_1 => ?_) (fun i_1 h_1 e_1 => ?_)
  · simp only [w32_mod] at h_1
    refine ww_iload_n hX (pc := 130) dX4_isBetter_130 rfl ?_
    refine sI1 hX (pc := 131) sX4_138 (c_J6_bitCount_0f7a4 l0) (by decide) (Nat.le_refl 0) (Nat.le_refl 0) (Nat.le_of_ble_eq_true rfl) dX4_isBetter_131 (fun x_131 I_131 J_131 h_131 => ?_)
    obtain ⟨rfl, rfl, h_131⟩ := h_131
    refine ww_iload_n hX (pc := 134) dX4_isBetter_134 rfl ?_
    refine sI1 hX (pc := 135) sX4_138 (c_J6_bitCount_0f7a4 l0) (by decide) (Nat.le_refl 0) (Nat.le_refl 0) (Nat.le_of_ble_eq_true rfl) dX4_isBetter_135 (fun x_135 I_135 J_135 h_135 => ?_)
    obtain ⟨rfl, rfl, h_135⟩ := h_135
    refine ww_icmp_ge hX (pc := 138) (tgt := 145) dX4_isBetter_138 (by decide) (fun h_138 => ?_) (fun h_138 => ?_)
    · simp only [w32_mod] at h_138
      refine ww_iconst hX (pc := 145) (x := 0) dX4_isBetter_145 rfl ?_
      refine rZ hX (pc := 146) hT (Nat.le_refl 0) (Nat.le_refl 0) dX4_isBetter_146 (by decide) ?_
      exact ⟨rfl, rfl, by omega⟩
    · simp only [w32_mod] at h_138
      refine ww_iconst hX (pc := 141) (x := 1) dX4_isBetter_141 rfl ?_
      refine ww_goto hX (pc := 142) (tgt := 146) dX4_isBetter_142 (by decide) ?_
      refine rZ hX (pc := 146) hT (Nat.le_refl 0) (Nat.le_refl 0) dX4_isBetter_146 (by decide) ?_
      exact ⟨rfl, rfl, by omega⟩
  · simp only [w32_mod] at e_1
    rcases (show i_1 = 0 ∨ i_1 = 1 ∨ i_1 = 2 by omega) with rfl | rfl | rfl
    · refine ⟨27, 28, rfl, by decide, ?_⟩
      refine ww_aload_n hX (pc := 28) dX4_isBetter_28 rfl ?_
      refine ww_getR hX (pc := 29) fX4_9 (by decide) (xs_18 hL) (xr_18_1 hL) dX4_isBetter_29 ?_
      refine ww_iload_n hX (pc := 32) dX4_isBetter_32 rfl ?_
      refine ww_iald hX (pc := 33) (xs_19 hL) (by decide) (by omega) (by omega) dX4_isBetter_33 ?_
      refine ww_aload_n hX (pc := 34) dX4_isBetter_34 rfl ?_
      refine ww_getR hX (pc := 35) fX4_9 (by decide) (xs_18 hL) (xr_18_1 hL) dX4_isBetter_35 ?_
      refine ww_iload_n hX (pc := 38) dX4_isBetter_38 rfl ?_
      refine ww_iald hX (pc := 39) (xs_19 hL) (by decide) (by omega) (by omega) dX4_isBetter_39 ?_
      refine ww_icmp_ge hX (pc := 40) (tgt := 47) dX4_isBetter_40 (by decide) (fun h_40 => ?_) (fun h_40 => ?_)
      · simp only [w32_mod] at h_40
        refine ww_iconst hX (pc := 47) (x := 0) dX4_isBetter_47 rfl ?_
        refine rZ hX (pc := 48) hT (Nat.le_refl 0) (Nat.le_refl 0) dX4_isBetter_48 (by decide) ?_
        exact ⟨rfl, rfl, by omega⟩
      · simp only [w32_mod] at h_40
        refine ww_iconst hX (pc := 43) (x := 1) dX4_isBetter_43 rfl ?_
        refine ww_goto hX (pc := 44) (tgt := 48) dX4_isBetter_44 (by decide) ?_
        refine rZ hX (pc := 48) hT (Nat.le_refl 0) (Nat.le_refl 0) dX4_isBetter_48 (by decide) ?_
        exact ⟨rfl, rfl, by omega⟩
    · refine ⟨48, 49, rfl, by decide, ?_⟩
      refine ww_aload_n hX (pc := 49) dX4_isBetter_49 rfl ?_
      refine ww_getR hX (pc := 50) fX4_26 (by decide) (xs_18 hL) (xr_18_4 hL) dX4_isBetter_50 ?_
      refine ww_getR hX (pc := 53) fX4_67 (by decide) (xs_22 hL) (xr_22_0 hL) dX4_isBetter_53 ?_
      refine ww_iload_n hX (pc := 56) dX4_isBetter_56 rfl ?_
      refine ww_iald hX (pc := 57) (xs_24 hL) (by decide) (by omega) (by omega) dX4_isBetter_57 ?_
      refine ww_aload_n hX (pc := 58) dX4_isBetter_58 rfl ?_
      refine ww_getR hX (pc := 59) fX4_26 (by decide) (xs_18 hL) (xr_18_4 hL) dX4_isBetter_59 ?_
      refine ww_getR hX (pc := 62) fX4_67 (by decide) (xs_22 hL) (xr_22_0 hL) dX4_isBetter_62 ?_
      refine ww_iload_n hX (pc := 65) dX4_isBetter_65 rfl ?_
      refine ww_iald hX (pc := 66) (xs_24 hL) (by decide) (by omega) (by omega) dX4_isBetter_66 ?_
      refine ww_icmp_gt hX (pc := 67) (tgt := 102) dX4_isBetter_67 (by decide) (fun h_67 => ?_) (fun h_67 => ?_)
      · simp only [w32_mod] at h_67
        refine ww_iconst hX (pc := 102) (x := 1) dX4_isBetter_102 rfl ?_
        refine ww_goto hX (pc := 103) (tgt := 107) dX4_isBetter_103 (by decide) ?_
        refine rZ hX (pc := 107) hT (Nat.le_refl 0) (Nat.le_refl 0) dX4_isBetter_107 (by decide) ?_
        exact ⟨rfl, rfl, by omega⟩
      · simp only [w32_mod] at h_67
        refine ww_aload_n hX (pc := 70) dX4_isBetter_70 rfl ?_
        refine ww_getR hX (pc := 71) fX4_26 (by decide) (xs_18 hL) (xr_18_4 hL) dX4_isBetter_71 ?_
        refine ww_getR hX (pc := 74) fX4_67 (by decide) (xs_22 hL) (xr_22_0 hL) dX4_isBetter_74 ?_
        refine ww_iload_n hX (pc := 77) dX4_isBetter_77 rfl ?_
        refine ww_iald hX (pc := 78) (xs_24 hL) (by decide) (by omega) (by omega) dX4_isBetter_78 ?_
        refine ww_aload_n hX (pc := 79) dX4_isBetter_79 rfl ?_
        refine ww_getR hX (pc := 80) fX4_26 (by decide) (xs_18 hL) (xr_18_4 hL) dX4_isBetter_80 ?_
        refine ww_getR hX (pc := 83) fX4_67 (by decide) (xs_22 hL) (xr_22_0 hL) dX4_isBetter_83 ?_
        refine ww_iload_n hX (pc := 86) dX4_isBetter_86 rfl ?_
        refine ww_iald hX (pc := 87) (xs_24 hL) (by decide) (by omega) (by omega) dX4_isBetter_87 ?_
        refine ww_icmp_ne hX (pc := 88) (tgt := 106) dX4_isBetter_88 (by decide) (fun h_88 => ?_) (fun h_88 => ?_)
        · simp only [w32_mod] at h_88
          refine ww_iconst hX (pc := 106) (x := 0) dX4_isBetter_106 rfl ?_
          refine rZ hX (pc := 107) hT (Nat.le_refl 0) (Nat.le_refl 0) dX4_isBetter_107 (by decide) ?_
          exact ⟨rfl, rfl, by omega⟩
        · simp only [w32_mod] at h_88
          refine ww_iload_n hX (pc := 91) dX4_isBetter_91 rfl ?_
          refine sI1 hX (pc := 92) sX4_138 (c_J6_bitCount_0f7a4 l0) (by decide) (Nat.le_refl 0) (Nat.le_refl 0) (Nat.le_of_ble_eq_true rfl) dX4_isBetter_92 (fun x_92 I_92 J_92 h_92 => ?_)
          obtain ⟨rfl, rfl, h_92⟩ := h_92
          refine ww_iload_n hX (pc := 95) dX4_isBetter_95 rfl ?_
          refine sI1 hX (pc := 96) sX4_138 (c_J6_bitCount_0f7a4 l0) (by decide) (Nat.le_refl 0) (Nat.le_refl 0) (Nat.le_of_ble_eq_true rfl) dX4_isBetter_96 (fun x_96 I_96 J_96 h_96 => ?_)
          obtain ⟨rfl, rfl, h_96⟩ := h_96
          refine ww_icmp_ge hX (pc := 99) (tgt := 106) dX4_isBetter_99 (by decide) (fun h_99 => ?_) (fun h_99 => ?_)
          · simp only [w32_mod] at h_99
            refine ww_iconst hX (pc := 106) (x := 0) dX4_isBetter_106 rfl ?_
            refine rZ hX (pc := 107) hT (Nat.le_refl 0) (Nat.le_refl 0) dX4_isBetter_107 (by decide) ?_
            exact ⟨rfl, rfl, by omega⟩
          · simp only [w32_mod] at h_99
            refine ww_iconst hX (pc := 102) (x := 1) dX4_isBetter_102 rfl ?_
            refine ww_goto hX (pc := 103) (tgt := 107) dX4_isBetter_103 (by decide) ?_
            refine rZ hX (pc := 107) hT (Nat.le_refl 0) (Nat.le_refl 0) dX4_isBetter_107 (by decide) ?_
            exact ⟨rfl, rfl, by omega⟩
    · refine ⟨107, 108, rfl, by decide, ?_⟩
      refine ww_aload_n hX (pc := 108) dX4_isBetter_108 rfl ?_
      refine ww_getR hX (pc := 109) fX4_33 (by decide) (xs_18 hL) (xr_18_6 hL) dX4_isBetter_109 ?_
      refine ww_iload_n hX (pc := 112) dX4_isBetter_112 rfl ?_
      refine ww_lald hX (pc := 113) (xs_28 hL) (by decide) (by omega) (by omega) dX4_isBetter_113 ?_
      refine ww_aload_n hX (pc := 114) dX4_isBetter_114 rfl ?_
      refine ww_getR hX (pc := 115) fX4_33 (by decide) (xs_18 hL) (xr_18_6 hL) dX4_isBetter_115 ?_
      refine ww_iload_n hX (pc := 118) dX4_isBetter_118 rfl ?_
      refine ww_lald hX (pc := 119) (xs_28 hL) (by decide) (by omega) (by omega) dX4_isBetter_119 ?_
      refine ww_lcmp hX (pc := 120) dX4_isBetter_120 ?_
      refine ww_if_le hX (pc := 121) (tgt := 128) dX4_isBetter_121 (by decide) (fun h_121 => ?_) (fun h_121 => ?_)
      · simp only [w32_mod] at h_121
        refine ww_iconst hX (pc := 128) (x := 0) dX4_isBetter_128 rfl ?_
        refine rZ hX (pc := 129) hT (Nat.le_refl 0) (Nat.le_refl 0) dX4_isBetter_129 (by decide) ?_
        exact ⟨rfl, rfl, by omega⟩
      · simp only [w32_mod] at h_121
        refine ww_iconst hX (pc := 124) (x := 1) dX4_isBetter_124 rfl ?_
        refine ww_goto hX (pc := 125) (tgt := 129) dX4_isBetter_125 (by decide) ?_
        refine rZ hX (pc := 129) hT (Nat.le_refl 0) (Nat.le_refl 0) dX4_isBetter_129 (by decide) ?_
        exact ⟨rfl, rfl, by omega⟩
set_option maxHeartbeats 4000000 in
set_option maxRecDepth 20000 in
theorem c_X4_commonDivisor (l0 : Launch) {Ia Ja : aI1} {Ra : aR1} {Sa : aS1} {a b : Int}  : CT l0 0 0 0 mX4_commonDivisor [kL a, kL b] Ia Ja Ra Sa (cJ (fun x I' J' => Ia = I' ∧ Ja = J' ∧ True) Ra Sa) := by
  refine ct_in pn_X4 (Nat.le_of_ble_eq_true rfl) (fun X hX hT hIn => ?_)
  have hX : aK l0 X cX4_commonDivisor 7 RX4 (some .long) 0 0 0 := hX
  change WW X 0 [some (kL a), none, some (kL b), none, none, none, none] [] Ia Ja Ra Sa 0 0
  refine ww_iconst hX (pc := 0) (x := 0) dX4_commonDivisor_0 rfl ?_
  refine ww_istore hX (pc := 1) (lv' := [some (kL a), none, some (kL b), none, some (kI 0), none, none]) dX4_commonDivisor_1 (by decide) rfl rfl ?_
  have hl_3 : ∀ (n_3 : Nat) (y : Int) (z : Int) (i : Int), (200 - i).toNat = n_3 → (0 ≤ i ∧ i ≤ 200) → WW X 3 [some (kL y), none, some (kL z), none, some (kI i), none, none] [] Ia Ja Ra Sa 0 0 := by
    intro n_3
    induction n_3 using Nat.strongRecOn with
    | ind n_3 ih_3 =>
      intro y z i hm_3 hv_3
      have hq_3 := Sh0_i hm_3
      clear hm_3
      obtain ⟨hi0, hi1⟩ := hv_3
      refine ww_iload hX (pc := 3) dX4_commonDivisor_3 rfl ?_
      refine ww_sipush hX (pc := 5) (x := 200) dX4_commonDivisor_5 (by decide) ?_
      refine ww_icmp_ge hX (pc := 8) (tgt := 33) dX4_commonDivisor_8 (by decide) (fun h_8 => ?_) (fun h_8 => ?_)
      · simp only [w32_mod] at h_8
        refine ww_lload_n hX (pc := 33) dX4_commonDivisor_33 rfl ?_
        refine rJ hX (pc := 34) hT (Nat.le_refl 0) (Nat.le_refl 0) dX4_commonDivisor_34 ?_
        exact ⟨rfl, rfl, trivial⟩
      · simp only [w32_mod] at h_8
        refine ww_lload_n hX (pc := 11) dX4_commonDivisor_11 rfl ?_
        refine ww_lconst hX (pc := 12) (x := 0) dX4_commonDivisor_12 (by decide) ?_
        refine ww_lcmp hX (pc := 13) dX4_commonDivisor_13 ?_
        refine ww_if_eq hX (pc := 14) (tgt := 33) dX4_commonDivisor_14 (by decide) (fun h_14 => ?_) (fun h_14 => ?_)
        · simp only [w32_mod] at h_14
          refine ww_lload_n hX (pc := 33) dX4_commonDivisor_33 rfl ?_
          refine rJ hX (pc := 34) hT (Nat.le_refl 0) (Nat.le_refl 0) dX4_commonDivisor_34 ?_
          exact ⟨rfl, rfl, trivial⟩
        · simp only [w32_mod] at h_14
          have hne := l_cmp_ne h_14
          refine ww_lload_n hX (pc := 17) dX4_commonDivisor_17 rfl ?_
          refine ww_lload_n hX (pc := 18) dX4_commonDivisor_18 rfl ?_
          refine ww_lrem hX (pc := 19) dX4_commonDivisor_19 (by simpa [show w64 0 = 0 from rfl] using hne) ?_
          refine ww_nmL (fun v_20 hv_20 => ?_)
          refine ww_lstore hX (pc := 20) (lv' := [some (kL y), none, some (kL z), none, some (kI i), some (kL v_20), none]) dX4_commonDivisor_20 (by decide) rfl rfl ?_
          refine ww_lload_n hX (pc := 22) dX4_commonDivisor_22 rfl ?_
          refine ww_lstore_n hX (pc := 23) (lv' := [some (kL z), none, some (kL z), none, some (kI i), some (kL v_20), none]) dX4_commonDivisor_23 (by decide) rfl rfl ?_
          refine ww_lload hX (pc := 24) dX4_commonDivisor_24 rfl ?_
          refine ww_lstore_n hX (pc := 26) (lv' := [some (kL z), none, some (kL v_20), none, some (kI i), some (kL v_20), none]) dX4_commonDivisor_26 (by decide) rfl rfl ?_
          refine ww_iinc hX (pc := 27) (lv' := [some (kL z), none, some (kL v_20), none, some (kI (i + 1)), some (kL v_20), none]) dX4_commonDivisor_27 rfl (by decide) rfl rfl ?_
          refine ww_goto hX (pc := 30) (tgt := 3) dX4_commonDivisor_30 (by decide) ?_
          refine ww_sub [some (kL z), none, some (kL v_20), none, some (kI (i + 1)), none, none] (aLe_s (aLe_n (aLe_s (aLe_n (aLe_s (aLe_n (aLe_n aLe_0))))))) ?_
          exact ih_3 _ (by have hm9 := Sh0_e hq_3; omega) z v_20 (i + 1) rfl ⟨by omega, by omega⟩
  exact hl_3 _ a b 0 rfl ⟨by omega, by omega⟩
set_option maxHeartbeats 4000000 in
set_option maxRecDepth 20000 in
theorem c_X4_forgetTables (l0 : Launch) {Ia Ja : aI1} {Ra : aR1} {Sa : aS1} (hL : LY Ra Sa)  : CT l0 0 0 0 mX4_forgetTables [kR (some 18)] Ia Ja Ra Sa (cV (fun I' J' => Kp 18 37 Ia I' ∧ Kp 18 37 Ja J' ∧ True) Ra Sa) := by
  refine ct_in pn_X4 (Nat.le_of_ble_eq_true rfl) (fun X hX hT hIn => ?_)
  have hX : aK l0 X cX4_forgetTables 1 RX4 none 0 0 0 := hX
  change WW X 0 [some (kR (some 18))] [] Ia Ja Ra Sa 0 0
  refine ww_aload_n hX (pc := 0) dX4_forgetTables_0 rfl ?_
  refine ww_iconst hX (pc := 1) (x := 0) dX4_forgetTables_1 rfl ?_
  refine ww_putZ hX (pc := 2) (fun h9 => absurd h9 (by decide)) gX4_51 rfl (by decide) (xs_18 hL) dX4_forgetTables_2 ?_
  refine ww_nmH (fun I_2 eI_2 => ?_)
  have kI_2 : Kp 18 37 Ia I_2 := by rw [eI_2]; exact Kp_up (Kp_rf (a := 18) (b := 37)) _ _ (by decide)
  refine ww_aload_n hX (pc := 5) dX4_forgetTables_5 rfl ?_
  refine ww_iconst hX (pc := 6) (x := 0) dX4_forgetTables_6 rfl ?_
  refine ww_putZ hX (pc := 7) (fun h9 => absurd h9 (by decide)) gX4_55 rfl (by decide) (xs_18 hL) dX4_forgetTables_7 ?_
  refine ww_nmH (fun I_7 eI_7 => ?_)
  have kI_7 : Kp 18 37 Ia I_7 := by rw [eI_7]; exact Kp_up kI_2 _ _ (by decide)
  refine ww_aload_n hX (pc := 10) dX4_forgetTables_10 rfl ?_
  refine ww_iconst hX (pc := 11) (x := 0) dX4_forgetTables_11 rfl ?_
  refine ww_putZ hX (pc := 12) (fun h9 => absurd h9 (by decide)) gX4_58 rfl (by decide) (xs_18 hL) dX4_forgetTables_12 ?_
  refine ww_nmH (fun I_12 eI_12 => ?_)
  have kI_12 : Kp 18 37 Ia I_12 := by rw [eI_12]; exact Kp_up kI_7 _ _ (by decide)
  refine rV hX (pc := 15) hT (Nat.le_refl 0) (Nat.le_refl 0) dX4_forgetTables_15 ?_
  exact ⟨kI_12, (Kp_rf (a := 18) (b := 37)), trivial⟩
set_option maxHeartbeats 4000000 in
set_option maxRecDepth 20000 in
theorem c_X4_fillOil (l0 : Launch) {Ia Ja : aI1} {Ra : aR1} {Sa : aS1} (hL : LY Ra Sa) (hI : XI Ia)  : CT l0 0 0 0 mX4_fillOil [kR (some 18)] Ia Ja Ra Sa (cV (fun I' J' => Kp 18 37 Ia I' ∧ Kp 18 37 Ja J' ∧ True) Ra Sa) := by
  refine ct_in pn_X4 (Nat.le_of_ble_eq_true rfl) (fun X hX hT hIn => ?_)
  have hX : aK l0 X cX4_fillOil 4 RX4 none 0 0 0 := hX
  change WW X 0 [some (kR (some 18)), none, none, none] [] Ia Ja Ra Sa 0 0
  obtain ⟨hn1, hn2⟩ := hI.1
  obtain ⟨hk1, hk2⟩ := hI.2.1
  obtain ⟨hf1, hf2⟩ := hI.fu
  refine ww_aload_n hX (pc := 0) dX4_fillOil_0 rfl ?_
  refine ww_getI hX (pc := 1) fX4_51 (by decide) (xs_18 hL) dX4_fillOil_1 ?_
  refine ww_if_eq hX (pc := 4) (tgt := 8) dX4_fillOil_4 (by decide) (fun h_4 => ?_) (fun h_4 => ?_)
  · simp only [w32_mod] at h_4
    refine ww_aload_n hX (pc := 8) dX4_fillOil_8 rfl ?_
    refine ww_iconst hX (pc := 9) (x := 1) dX4_fillOil_9 rfl ?_
    refine ww_putZ hX (pc := 10) (fun h9 => absurd h9 (by decide)) gX4_51 rfl (by decide) (xs_18 hL) dX4_fillOil_10 ?_
    refine ww_nmH (fun I_10 eI_10 => ?_)
    have kI_10 : Kp 18 37 Ia I_10 := by rw [eI_10]; exact Kp_up (Kp_rf (a := 18) (b := 37)) _ _ (by decide)
    have r1_5_I_10 : I_10 1 5 = Ia 1 5 := Kp_at kI_10 1 5 (by decide)
    have r1_6_I_10 : I_10 1 6 = Ia 1 6 := Kp_at kI_10 1 6 (by decide)
    have rf_I_10 : FU (I_10 1 5) = FU (Ia 1 5) := by rw [r1_5_I_10]
    refine ww_aload_n hX (pc := 13) dX4_fillOil_13 rfl ?_
    refine ww_getR hX (pc := 14) fX4_9 (by decide) (xs_18 hL) (xr_18_1 hL) dX4_fillOil_14 ?_
    refine ww_iconst hX (pc := 17) (x := 0) dX4_fillOil_17 rfl ?_
    refine ww_iconst hX (pc := 18) (x := 0) dX4_fillOil_18 rfl ?_
    refine ww_iast hX (pc := 19) (xs_19 hL) (by decide) (by omega) (by omega) dX4_fillOil_19 ?_
    refine ww_nmH (fun I_19 eI_19 => ?_)
    have kI_19 : Kp 18 37 Ia I_19 := by rw [eI_19]; exact Kp_up kI_10 _ _ (by decide)
    have r1_5_I_19 : I_19 1 5 = Ia 1 5 := Kp_at kI_19 1 5 (by decide)
    have r1_6_I_19 : I_19 1 6 = Ia 1 6 := Kp_at kI_19 1 6 (by decide)
    have rf_I_19 : FU (I_19 1 5) = FU (Ia 1 5) := by rw [r1_5_I_19]
    refine ww_iconst hX (pc := 20) (x := 0) dX4_fillOil_20 rfl ?_
    refine ww_istore_n hX (pc := 21) (lv' := [some (kR (some 18)), some (kI 0), none, none]) dX4_fillOil_21 (by decide) rfl rfl ?_
    have hl_22 : ∀ (n_22 : Nat) (la : Int) (I2 : aI1) (J2 : aI1), (Ia 1 5 - la).toNat = n_22 → (Kp 18 37 Ia I2 ∧ Kp 18 37 Ja J2 ∧ (0 ≤ la ∧ la ≤ Ia 1 5)) → WW X 22 [some (kR (some 18)), some (kI la), none, none] [] I2 J2 Ra Sa 0 0 := by
      intro n_22
      induction n_22 using Nat.strongRecOn with
      | ind n_22 ih_22 =>
        intro la I2 J2 hm_22 hv_22
        have hq_22 := Sh0_i hm_22
        clear hm_22
        obtain ⟨kI2, kJ2, hla⟩ := hv_22
        have r1_5_I2 : I2 1 5 = Ia 1 5 := Kp_at kI2 1 5 (by decide)
        have r1_6_I2 : I2 1 6 = Ia 1 6 := Kp_at kI2 1 6 (by decide)
        have rf_I2 : FU (I2 1 5) = FU (Ia 1 5) := by rw [r1_5_I2]
        refine ww_iload_n hX (pc := 22) dX4_fillOil_22 rfl ?_
        refine ww_aload_n hX (pc := 23) dX4_fillOil_23 rfl ?_
        refine ww_getR hX (pc := 24) fX4_47 (by decide) (xs_18 hL) (xr_18_0 hL) dX4_fillOil_24 ?_
        refine ww_getI hX (pc := 27) fX4_146 (by decide) (xs_1 hL) dX4_fillOil_27 ?_
        refine ww_icmp_ge hX (pc := 30) (tgt := 80) dX4_fillOil_30 (by decide) (fun h_30 => ?_) (fun h_30 => ?_)
        · simp only [w32_mod] at h_30
          refine rV hX (pc := 80) hT (Nat.le_refl 0) (Nat.le_refl 0) dX4_fillOil_80 ?_
          exact ⟨kI2, kJ2, trivial⟩
        · simp only [w32_mod] at h_30
          refine ww_iconst hX (pc := 33) (x := 1) dX4_fillOil_33 rfl ?_
          refine ww_iload_n hX (pc := 34) dX4_fillOil_34 rfl ?_
          refine ww_ishl hX (pc := 35) dX4_fillOil_35 ?_
          refine ww_nmI (fun v_36 hv_36 => ?_)
          refine ww_istore_n hX (pc := 36) (lv' := [some (kR (some 18)), some (kI la), some (kI v_36), none]) dX4_fillOil_36 (by decide) rfl rfl ?_
          have hbt := i_shl_128 (n := la) (by omega) (by omega)
          refine ww_iconst hX (pc := 37) (x := 0) dX4_fillOil_37 rfl ?_
          refine ww_istore_n hX (pc := 38) (lv' := [some (kR (some 18)), some (kI la), some (kI v_36), some (kI 0)]) dX4_fillOil_38 (by decide) rfl rfl ?_
          have hl_39 : ∀ (n_39 : Nat) (q : Int) (I2 : aI1) (J2 : aI1), (v_36 - q).toNat = n_39 → (Kp 18 37 Ia I2 ∧ Kp 18 37 Ja J2 ∧ (0 ≤ q ∧ q ≤ v_36)) → WW X 39 [some (kR (some 18)), some (kI la), some (kI v_36), some (kI q)] [] I2 J2 Ra Sa 0 0 := by
            intro n_39
            induction n_39 using Nat.strongRecOn with
            | ind n_39 ih_39 =>
              intro q I2 J2 hm_39 hv_39
              have hq_39 := Sh0_i hm_39
              clear hm_39
              obtain ⟨kI2, kJ2, hq⟩ := hv_39
              have r1_5_I2 : I2 1 5 = Ia 1 5 := Kp_at kI2 1 5 (by decide)
              have r1_6_I2 : I2 1 6 = Ia 1 6 := Kp_at kI2 1 6 (by decide)
              have rf_I2 : FU (I2 1 5) = FU (Ia 1 5) := by rw [r1_5_I2]
              refine ww_iload_n hX (pc := 39) dX4_fillOil_39 rfl ?_
              refine ww_iload_n hX (pc := 40) dX4_fillOil_40 rfl ?_
              refine ww_icmp_ge hX (pc := 41) (tgt := 74) dX4_fillOil_41 (by decide) (fun h_41 => ?_) (fun h_41 => ?_)
              · simp only [w32_mod] at h_41
                refine ww_iinc hX (pc := 74) (lv' := [some (kR (some 18)), some (kI (la + 1)), some (kI v_36), some (kI q)]) dX4_fillOil_74 rfl (by decide) rfl rfl ?_
                refine ww_goto hX (pc := 77) (tgt := 22) dX4_fillOil_77 (by decide) ?_
                refine ww_sub [some (kR (some 18)), some (kI (la + 1)), none, none] (aLe_s (aLe_s (aLe_n (aLe_n aLe_0)))) ?_
                exact ih_22 _ (by have hm9 := Sh0_e hq_22; omega) (la + 1) I2 J2 rfl ⟨kI2, kJ2, ⟨by omega, by omega⟩⟩
              · simp only [w32_mod] at h_41
                have hio := i_or_256 (a := v_36) (b := q) (by omega) (by omega) (by omega) (by omega)
                refine ww_aload_n hX (pc := 44) dX4_fillOil_44 rfl ?_
                refine ww_getR hX (pc := 45) fX4_9 (by decide) (xs_18 hL) (xr_18_1 hL) dX4_fillOil_45 ?_
                refine ww_iload_n hX (pc := 48) dX4_fillOil_48 rfl ?_
                refine ww_iload_n hX (pc := 49) dX4_fillOil_49 rfl ?_
                refine ww_ior hX (pc := 50) dX4_fillOil_50 ?_
                refine ww_aload_n hX (pc := 51) dX4_fillOil_51 rfl ?_
                refine ww_getR hX (pc := 52) fX4_9 (by decide) (xs_18 hL) (xr_18_1 hL) dX4_fillOil_52 ?_
                refine ww_iload_n hX (pc := 55) dX4_fillOil_55 rfl ?_
                refine ww_iald hX (pc := 56) (xs_19 hL) (by decide) (by omega) (by omega) dX4_fillOil_56 ?_
                refine ww_aload_n hX (pc := 57) dX4_fillOil_57 rfl ?_
                refine ww_getR hX (pc := 58) fX4_47 (by decide) (xs_18 hL) (xr_18_0 hL) dX4_fillOil_58 ?_
                refine ww_getR hX (pc := 61) fX4_149 (by decide) (xs_1 hL) (xr_1_0 hL) dX4_fillOil_61 ?_
                refine ww_iload_n hX (pc := 64) dX4_fillOil_64 rfl ?_
                refine ww_iald hX (pc := 65) (xs_2 hL) (by decide) (by omega) (by omega) dX4_fillOil_65 ?_
                refine ww_iadd hX (pc := 66) dX4_fillOil_66 ?_
                refine ww_iast hX (pc := 67) (xs_19 hL) (by decide) (by omega) (by omega) dX4_fillOil_67 ?_
                refine ww_nmH (fun I_67 eI_67 => ?_)
                have kI_67 : Kp 18 37 Ia I_67 := by rw [eI_67]; exact Kp_up kI2 _ _ (by decide)
                have r1_5_I_67 : I_67 1 5 = Ia 1 5 := Kp_at kI_67 1 5 (by decide)
                have r1_6_I_67 : I_67 1 6 = Ia 1 6 := Kp_at kI_67 1 6 (by decide)
                have rf_I_67 : FU (I_67 1 5) = FU (Ia 1 5) := by rw [r1_5_I_67]
                refine ww_iinc hX (pc := 68) (lv' := [some (kR (some 18)), some (kI la), some (kI v_36), some (kI (q + 1))]) dX4_fillOil_68 rfl (by decide) rfl rfl ?_
                refine ww_goto hX (pc := 71) (tgt := 39) dX4_fillOil_71 (by decide) ?_
                exact ih_39 _ (by have hm9 := Sh0_e hq_39; omega) (q + 1) I_67 J2 rfl ⟨kI_67, kJ2, ⟨by omega, by omega⟩⟩
          exact hl_39 _ 0 I2 J2 rfl ⟨kI2, kJ2, ⟨by omega, by omega⟩⟩
    exact hl_22 _ 0 I_19 Ja rfl ⟨kI_19, (Kp_rf (a := 18) (b := 37)), ⟨by omega, by omega⟩⟩
  · simp only [w32_mod] at h_4
    refine rV hX (pc := 7) hT (Nat.le_refl 0) (Nat.le_refl 0) dX4_fillOil_7 ?_
    exact ⟨(Kp_rf (a := 18) (b := 37)), (Kp_rf (a := 18) (b := 37)), trivial⟩
set_option maxHeartbeats 4000000 in
set_option maxRecDepth 20000 in
theorem c_X4_fillLasting (l0 : Launch) {Ia Ja : aI1} {Ra : aR1} {Sa : aS1} (hL : LY Ra Sa) (hI : XI Ia)  : CT l0 3 0 0 mX4_fillLasting [kR (some 18)] Ia Ja Ra Sa (cV (fun I' J' => Kp 18 37 Ia I' ∧ Kp 18 37 Ja J' ∧ True) Ra Sa) := by
  refine ct_in pn_X4 (Nat.le_of_ble_eq_true rfl) (fun X hX hT hIn => ?_)
  have hX : aK l0 X cX4_fillLasting 1 RX4 none 3 0 0 := hX
  change WW X 0 [some (kR (some 18))] [] Ia Ja Ra Sa 0 0
  obtain ⟨hn1, hn2⟩ := hI.1
  obtain ⟨hk1, hk2⟩ := hI.2.1
  obtain ⟨hf1, hf2⟩ := hI.fu
  refine ww_aload_n hX (pc := 0) dX4_fillLasting_0 rfl ?_
  refine ww_getI hX (pc := 1) fX4_55 (by decide) (xs_18 hL) dX4_fillLasting_1 ?_
  refine ww_if_ne hX (pc := 4) (tgt := 47) dX4_fillLasting_4 (by decide) (fun h_4 => ?_) (fun h_4 => ?_)
  · simp only [w32_mod] at h_4
    refine rV hX (pc := 47) hT (Nat.le_refl 0) (Nat.le_refl 0) dX4_fillLasting_47 ?_
    exact ⟨(Kp_rf (a := 18) (b := 37)), (Kp_rf (a := 18) (b := 37)), trivial⟩
  · simp only [w32_mod] at h_4
    refine ww_aload_n hX (pc := 7) dX4_fillLasting_7 rfl ?_
    refine ww_iconst hX (pc := 8) (x := 1) dX4_fillLasting_8 rfl ?_
    refine ww_putZ hX (pc := 9) (fun h9 => absurd h9 (by decide)) gX4_55 rfl (by decide) (xs_18 hL) dX4_fillLasting_9 ?_
    refine ww_nmH (fun I_9 eI_9 => ?_)
    have kI_9 : Kp 18 37 Ia I_9 := by rw [eI_9]; exact Kp_up (Kp_rf (a := 18) (b := 37)) _ _ (by decide)
    have r1_5_I_9 : I_9 1 5 = Ia 1 5 := Kp_at kI_9 1 5 (by decide)
    have r1_6_I_9 : I_9 1 6 = Ia 1 6 := Kp_at kI_9 1 6 (by decide)
    have rf_I_9 : FU (I_9 1 5) = FU (Ia 1 5) := by rw [r1_5_I_9]
    refine ww_aload_n hX (pc := 12) dX4_fillLasting_12 rfl ?_
    refine ww_getR hX (pc := 13) fX4_26 (by decide) (xs_18 hL) (xr_18_4 hL) dX4_fillLasting_13 ?_
    refine ww_aload_n hX (pc := 16) dX4_fillLasting_16 rfl ?_
    refine ww_getR hX (pc := 17) fX4_47 (by decide) (xs_18 hL) (xr_18_0 hL) dX4_fillLasting_17 ?_
    refine ww_getR hX (pc := 20) fX4_70 (by decide) (xs_1 hL) (xr_1_1 hL) dX4_fillLasting_20 ?_
    refine ww_aload_n hX (pc := 23) dX4_fillLasting_23 rfl ?_
    refine ww_getR hX (pc := 24) fX4_47 (by decide) (xs_18 hL) (xr_18_0 hL) dX4_fillLasting_24 ?_
    refine vI0 hX (pc := 27) sX4_75 (xs_1 hL) (c_X1_full l0 hL (XI_kp hI kI_9 (by decide))) (by decide) (Nat.le_refl 0) (Nat.le_refl 0) (Nat.le_of_ble_eq_true rfl) dX4_fillLasting_27 (fun x_27 I_27 J_27 h_27 => ?_)
    obtain ⟨rfl, rfl, h_27⟩ := h_27
    refine ww_aload_n hX (pc := 30) dX4_fillLasting_30 rfl ?_
    refine ww_getR hX (pc := 31) fX4_47 (by decide) (xs_18 hL) (xr_18_0 hL) dX4_fillLasting_31 ?_
    refine ww_getI hX (pc := 34) fX4_79 (by decide) (xs_1 hL) dX4_fillLasting_34 ?_
    refine ww_aload_n hX (pc := 37) dX4_fillLasting_37 rfl ?_
    refine ww_getR hX (pc := 38) fX4_47 (by decide) (xs_18 hL) (xr_18_0 hL) dX4_fillLasting_38 ?_
    refine ww_getI hX (pc := 41) fX4_83 (by decide) (xs_1 hL) dX4_fillLasting_41 ?_
    refine vV4 hX (pc := 44) sX4_86 (xs_22 hL) (c_X5_fill l0 (Ia := I_9) (xs_22 hL) (xr_22_0 hL) (xr_22_1 hL) (xs_24 hL) (xs_23 hL) (xs_3 hL) (by decide) (by decide) (by decide) (by decide) (fun j hj => by have := (XI_kp hI kI_9 (by decide)).2.2.2.2.2.2.2.2.2.1 j hj; omega) (by omega) (by omega) (by decide) (by decide)) (by decide) (Nat.le_refl 0) (Nat.le_refl 0) (Nat.le_of_ble_eq_true rfl) dX4_fillLasting_44 (fun I_44 J_44 h_44 => ?_)
    obtain ⟨rfl, h_44⟩ := h_44
    have kI_44 : Kp 18 37 Ia I_44 := Kp_tr kI_9 (Kq_kp h_44 (by decide) (by decide))
    have r1_5_I_44 : I_44 1 5 = Ia 1 5 := Kp_at kI_44 1 5 (by decide)
    have r1_6_I_44 : I_44 1 6 = Ia 1 6 := Kp_at kI_44 1 6 (by decide)
    have rf_I_44 : FU (I_44 1 5) = FU (Ia 1 5) := by rw [r1_5_I_44]
    refine rV hX (pc := 47) hT (Nat.le_refl 0) (Nat.le_refl 0) dX4_fillLasting_47 ?_
    exact ⟨kI_44, (Kp_rf (a := 18) (b := 37)), trivial⟩
set_option maxHeartbeats 4000000 in
set_option maxRecDepth 20000 in
theorem c_X4_lastingWithout (l0 : Launch) {Ia Ja : aI1} {Ra : aR1} {Sa : aS1} (hL : LY Ra Sa) (hI : XI Ia) {a : Int}  : CT l0 3 0 0 mX4_lastingWithout [kR (some 18), kI a] Ia Ja Ra Sa (cI (fun x I' J' => Kp 18 37 Ia I' ∧ Kp 18 37 Ja J' ∧ True) Ra Sa) := by
  refine ct_in pn_X4 (Nat.le_of_ble_eq_true rfl) (fun X hX hT hIn => ?_)
  have hX : aK l0 X cX4_lastingWithout 2 RX4 (some .int) 3 0 0 := hX
  change WW X 0 [some (kR (some 18)), some (kI a)] [] Ia Ja Ra Sa 0 0
  obtain ⟨hn1, hn2⟩ := hI.1
  obtain ⟨hk1, hk2⟩ := hI.2.1
  obtain ⟨hf1, hf2⟩ := hI.fu
  refine ww_aload_n hX (pc := 0) dX4_lastingWithout_0 rfl ?_
  refine ww_getR hX (pc := 1) fX4_30 (by decide) (xs_18 hL) (xr_18_5 hL) dX4_lastingWithout_1 ?_
  refine ww_aload_n hX (pc := 4) dX4_lastingWithout_4 rfl ?_
  refine ww_getR hX (pc := 5) fX4_47 (by decide) (xs_18 hL) (xr_18_0 hL) dX4_lastingWithout_5 ?_
  refine ww_getR hX (pc := 8) fX4_70 (by decide) (xs_1 hL) (xr_1_1 hL) dX4_lastingWithout_8 ?_
  refine ww_aload_n hX (pc := 11) dX4_lastingWithout_11 rfl ?_
  refine ww_getR hX (pc := 12) fX4_47 (by decide) (xs_18 hL) (xr_18_0 hL) dX4_lastingWithout_12 ?_
  refine vI0 hX (pc := 15) sX4_75 (xs_1 hL) (c_X1_full l0 hL hI) (by decide) (Nat.le_refl 0) (Nat.le_refl 0) (Nat.le_of_ble_eq_true rfl) dX4_lastingWithout_15 (fun x_15 I_15 J_15 h_15 => ?_)
  obtain ⟨rfl, rfl, h_15⟩ := h_15
  refine ww_aload_n hX (pc := 18) dX4_lastingWithout_18 rfl ?_
  refine ww_getR hX (pc := 19) fX4_47 (by decide) (xs_18 hL) (xr_18_0 hL) dX4_lastingWithout_19 ?_
  refine ww_getI hX (pc := 22) fX4_79 (by decide) (xs_1 hL) dX4_lastingWithout_22 ?_
  refine ww_iconst hX (pc := 25) (x := 1) dX4_lastingWithout_25 rfl ?_
  refine ww_iload_n hX (pc := 26) dX4_lastingWithout_26 rfl ?_
  refine ww_ishl hX (pc := 27) dX4_lastingWithout_27 ?_
  refine ww_ior hX (pc := 28) dX4_lastingWithout_28 ?_
  refine ww_aload_n hX (pc := 29) dX4_lastingWithout_29 rfl ?_
  refine ww_getR hX (pc := 30) fX4_47 (by decide) (xs_18 hL) (xr_18_0 hL) dX4_lastingWithout_30 ?_
  refine ww_getI hX (pc := 33) fX4_83 (by decide) (xs_1 hL) dX4_lastingWithout_33 ?_
  refine vV4 hX (pc := 36) sX4_86 (xs_25 hL) (c_X5_fill l0 (Ia := Ia) (xs_25 hL) (xr_25_0 hL) (xr_25_1 hL) (xs_27 hL) (xs_26 hL) (xs_3 hL) (by decide) (by decide) (by decide) (by decide) (fun j hj => by have := hI.2.2.2.2.2.2.2.2.2.1 j hj; omega) (by omega) (by omega) (by decide) (by decide)) (by decide) (Nat.le_refl 0) (Nat.le_refl 0) (Nat.le_of_ble_eq_true rfl) dX4_lastingWithout_36 (fun I_36 J_36 h_36 => ?_)
  obtain ⟨rfl, h_36⟩ := h_36
  have kI_36 : Kp 18 37 Ia I_36 := Kp_tr (Kp_rf (a := 18) (b := 37)) (Kq_kp h_36 (by decide) (by decide))
  have r1_5_I_36 : I_36 1 5 = Ia 1 5 := Kp_at kI_36 1 5 (by decide)
  have r1_6_I_36 : I_36 1 6 = Ia 1 6 := Kp_at kI_36 1 6 (by decide)
  have rf_I_36 : FU (I_36 1 5) = FU (Ia 1 5) := by rw [r1_5_I_36]
  refine ww_aload_n hX (pc := 39) dX4_lastingWithout_39 rfl ?_
  refine ww_getR hX (pc := 40) fX4_30 (by decide) (xs_18 hL) (xr_18_5 hL) dX4_lastingWithout_40 ?_
  refine ww_getR hX (pc := 43) fX4_67 (by decide) (xs_25 hL) (xr_25_0 hL) dX4_lastingWithout_43 ?_
  refine ww_iconst hX (pc := 46) (x := 0) dX4_lastingWithout_46 rfl ?_
  refine ww_iald hX (pc := 47) (xs_27 hL) (by decide) (by omega) (by omega) dX4_lastingWithout_47 ?_
  refine rI hX (pc := 48) hT (Nat.le_refl 0) (Nat.le_refl 0) dX4_lastingWithout_48 ?_
  exact ⟨kI_36, (Kp_rf (a := 18) (b := 37)), trivial⟩
set_option maxHeartbeats 4000000 in
set_option maxRecDepth 20000 in
theorem c_X4_oilOf (l0 : Launch) {Ia Ja : aI1} {Ra : aR1} {Sa : aS1} (hL : LY Ra Sa) (hI : XI Ia) {a : Int} (ha0 : 0 ≤ a) (ha1 : a ≤ 255)  : CT l0 1 0 0 mX4_oilOf [kR (some 18), kI a] Ia Ja Ra Sa (cI (fun x I' J' => Kp 18 37 Ia I' ∧ Kp 18 37 Ja J' ∧ True) Ra Sa) := by
  refine ct_in pn_X4 (Nat.le_of_ble_eq_true rfl) (fun X hX hT hIn => ?_)
  have hX : aK l0 X cX4_oilOf 2 RX4 (some .int) 1 0 0 := hX
  change WW X 0 [some (kR (some 18)), some (kI a)] [] Ia Ja Ra Sa 0 0
  obtain ⟨hn1, hn2⟩ := hI.1
  obtain ⟨hk1, hk2⟩ := hI.2.1
  obtain ⟨hf1, hf2⟩ := hI.fu
  refine ww_aload_n hX (pc := 0) dX4_oilOf_0 rfl ?_
  refine vV0 hX (pc := 1) sX4_61 (xs_18 hL) (c_X4_fillOil l0 hL hI) (by decide) (Nat.le_refl 0) (Nat.le_refl 0) (Nat.le_of_ble_eq_true rfl) dX4_oilOf_1 (fun I_1 J_1 h_1 => ?_)
  have kI_1 : Kp 18 37 Ia I_1 := Kp_tr (Kp_rf (a := 18) (b := 37)) (Kp_wd h_1.1 (by decide) (by decide))
  have kJ_1 : Kp 18 37 Ja J_1 := Kp_tr (Kp_rf (a := 18) (b := 37)) (Kp_wd h_1.2.1 (by decide) (by decide))
  have r1_5_I_1 : I_1 1 5 = Ia 1 5 := Kp_at kI_1 1 5 (by decide)
  have r1_6_I_1 : I_1 1 6 = Ia 1 6 := Kp_at kI_1 1 6 (by decide)
  have rf_I_1 : FU (I_1 1 5) = FU (Ia 1 5) := by rw [r1_5_I_1]
  refine ww_aload_n hX (pc := 4) dX4_oilOf_4 rfl ?_
  refine ww_getR hX (pc := 5) fX4_9 (by decide) (xs_18 hL) (xr_18_1 hL) dX4_oilOf_5 ?_
  refine ww_iload_n hX (pc := 8) dX4_oilOf_8 rfl ?_
  refine ww_iald hX (pc := 9) (xs_19 hL) (by decide) (by omega) (by omega) dX4_oilOf_9 ?_
  refine rI hX (pc := 10) hT (Nat.le_refl 0) (Nat.le_refl 0) dX4_oilOf_10 ?_
  exact ⟨kI_1, kJ_1, trivial⟩
set_option maxHeartbeats 4000000 in
set_option maxRecDepth 20000 in
theorem c_X4_lastingOf (l0 : Launch) {Ia Ja : aI1} {Ra : aR1} {Sa : aS1} (hL : LY Ra Sa) (hI : XI Ia) {a : Int} (ha0 : 0 ≤ a) (ha1 : a ≤ 255)  : CT l0 4 0 0 mX4_lastingOf [kR (some 18), kI a] Ia Ja Ra Sa (cI (fun x I' J' => Kp 18 37 Ia I' ∧ Kp 18 37 Ja J' ∧ True) Ra Sa) := by
  refine ct_in pn_X4 (Nat.le_of_ble_eq_true rfl) (fun X hX hT hIn => ?_)
  have hX : aK l0 X cX4_lastingOf 2 RX4 (some .int) 4 0 0 := hX
  change WW X 0 [some (kR (some 18)), some (kI a)] [] Ia Ja Ra Sa 0 0
  obtain ⟨hn1, hn2⟩ := hI.1
  obtain ⟨hk1, hk2⟩ := hI.2.1
  obtain ⟨hf1, hf2⟩ := hI.fu
  refine ww_aload_n hX (pc := 0) dX4_lastingOf_0 rfl ?_
  refine vV0 hX (pc := 1) sX4_64 (xs_18 hL) (c_X4_fillLasting l0 hL hI) (by decide) (Nat.le_refl 0) (Nat.le_refl 0) (Nat.le_of_ble_eq_true rfl) dX4_lastingOf_1 (fun I_1 J_1 h_1 => ?_)
  have kI_1 : Kp 18 37 Ia I_1 := Kp_tr (Kp_rf (a := 18) (b := 37)) (Kp_wd h_1.1 (by decide) (by decide))
  have kJ_1 : Kp 18 37 Ja J_1 := Kp_tr (Kp_rf (a := 18) (b := 37)) (Kp_wd h_1.2.1 (by decide) (by decide))
  have r1_5_I_1 : I_1 1 5 = Ia 1 5 := Kp_at kI_1 1 5 (by decide)
  have r1_6_I_1 : I_1 1 6 = Ia 1 6 := Kp_at kI_1 1 6 (by decide)
  have rf_I_1 : FU (I_1 1 5) = FU (Ia 1 5) := by rw [r1_5_I_1]
  refine ww_aload_n hX (pc := 4) dX4_lastingOf_4 rfl ?_
  refine ww_getR hX (pc := 5) fX4_26 (by decide) (xs_18 hL) (xr_18_4 hL) dX4_lastingOf_5 ?_
  refine ww_getR hX (pc := 8) fX4_67 (by decide) (xs_22 hL) (xr_22_0 hL) dX4_lastingOf_8 ?_
  refine ww_iload_n hX (pc := 11) dX4_lastingOf_11 rfl ?_
  refine ww_iald hX (pc := 12) (xs_24 hL) (by decide) (by omega) (by omega) dX4_lastingOf_12 ?_
  refine rI hX (pc := 13) hT (Nat.le_refl 0) (Nat.le_refl 0) dX4_lastingOf_13 ?_
  exact ⟨kI_1, kJ_1, trivial⟩
set_option maxHeartbeats 4000000 in
set_option maxRecDepth 20000 in
theorem c_X4_fillRichest (l0 : Launch) {Ia Ja : aI1} {Ra : aR1} {Sa : aS1} (hL : LY Ra Sa) (hI : XI Ia) {a : Int} (ha0 : 0 ≤ a) (ha1 : a ≤ 255)  : CT l0 1 0 0 mX4_fillRichest [kR (some 18), kI a] Ia Ja Ra Sa (cV (fun I' J' => Kp 18 37 Ia I' ∧ Kp 18 37 Ja J' ∧ True) Ra Sa) := by
  refine ct_in pn_X4 (Nat.le_of_ble_eq_true rfl) (fun X hX hT hIn => ?_)
  have hX : aK l0 X cX4_fillRichest 5 RX4 none 1 0 0 := hX
  change WW X 0 [some (kR (some 18)), some (kI a), none, none, none] [] Ia Ja Ra Sa 0 0
  obtain ⟨hn1, hn2⟩ := hI.1
  obtain ⟨hk1, hk2⟩ := hI.2.1
  obtain ⟨hf1, hf2⟩ := hI.fu
  refine ww_aload_n hX (pc := 0) dX4_fillRichest_0 rfl ?_
  refine ww_getR hX (pc := 1) fX4_37 (by decide) (xs_18 hL) (xr_18_7 hL) dX4_fillRichest_1 ?_
  refine ww_ldc2 hX (pc := 4) (x := (-1)) dX4_fillRichest_4 tb_763 ?_
  refine sV2 hX (pc := 7) sX4_163 (c_J7_fill_d0a16 l0 (xs_29 hL) (by decide)) (by decide) (Nat.le_refl 0) (Nat.le_refl 0) (Nat.le_of_ble_eq_true rfl) dX4_fillRichest_7 (fun I_7 J_7 h_7 => ?_)
  obtain ⟨rfl, eJ_7⟩ := h_7
  have kJ_7 : Kp 18 37 Ja J_7 := by rw [eJ_7]; exact Kp_upR (Kp_rf (a := 18) (b := 37)) _ (by decide)
  refine ww_aload_n hX (pc := 10) dX4_fillRichest_10 rfl ?_
  refine ww_getR hX (pc := 11) fX4_47 (by decide) (xs_18 hL) (xr_18_0 hL) dX4_fillRichest_11 ?_
  refine vI0 hX (pc := 14) sX4_75 (xs_1 hL) (c_X1_full l0 hL hI) (by decide) (Nat.le_refl 0) (Nat.le_refl 0) (Nat.le_of_ble_eq_true rfl) dX4_fillRichest_14 (fun x_14 I_14 J_14 h_14 => ?_)
  obtain ⟨rfl, rfl, h_14⟩ := h_14
  refine ww_istore_n hX (pc := 17) (lv' := [some (kR (some 18)), some (kI a), some (kI x_14), none, none]) dX4_fillRichest_17 (by decide) rfl rfl ?_
  refine ww_iload_n hX (pc := 18) dX4_fillRichest_18 rfl ?_
  refine ww_iconst hX (pc := 19) (x := 1) dX4_fillRichest_19 rfl ?_
  refine ww_iadd hX (pc := 20) dX4_fillRichest_20 ?_
  refine ww_iload_n hX (pc := 21) dX4_fillRichest_21 rfl ?_
  refine ww_ior hX (pc := 22) dX4_fillRichest_22 ?_
  refine ww_nmI (fun v_23 hv_23 => ?_)
  refine ww_istore_n hX (pc := 23) (lv' := [some (kR (some 18)), some (kI a), some (kI x_14), some (kI v_23), none]) dX4_fillRichest_23 (by decide) rfl rfl ?_
  have hor0 := i_or_ge (a := a + 1) (b := a) (by omega) (by omega) (by omega) (by omega)
  have hl_24 : ∀ (n_24 : Nat) (to : Int) (I2 : aI1) (J2 : aI1), (x_14 + 1 - to).toNat = n_24 → (Kp 18 37 Ia I2 ∧ Kp 18 37 Ja J2 ∧ (0 ≤ to ∧ to < 2147483648)) → WW X 24 [some (kR (some 18)), some (kI a), some (kI x_14), some (kI to), none] [] I2 J2 Ra Sa 0 0 := by
    intro n_24
    induction n_24 using Nat.strongRecOn with
    | ind n_24 ih_24 =>
      intro to I2 J2 hm_24 hv_24
      have hq_24 := Sh0_i hm_24
      clear hm_24
      obtain ⟨kI2, kJ2, hto⟩ := hv_24
      have r1_5_I2 : I2 1 5 = Ia 1 5 := Kp_at kI2 1 5 (by decide)
      have r1_6_I2 : I2 1 6 = Ia 1 6 := Kp_at kI2 1 6 (by decide)
      have rf_I2 : FU (I2 1 5) = FU (Ia 1 5) := by rw [r1_5_I2]
      refine ww_iload_n hX (pc := 24) dX4_fillRichest_24 rfl ?_
      refine ww_iload_n hX (pc := 25) dX4_fillRichest_25 rfl ?_
      refine ww_icmp_gt hX (pc := 26) (tgt := 96) dX4_fillRichest_26 (by decide) (fun h_26 => ?_) (fun h_26 => ?_)
      · simp only [w32_mod] at h_26
        refine rV hX (pc := 96) hT (Nat.le_refl 0) (Nat.le_refl 0) dX4_fillRichest_96 ?_
        exact ⟨kI2, kJ2, trivial⟩
      · simp only [w32_mod] at h_26
        have hcd := (XI_kp hI kI2 (by decide)).2.2.2.2.2.2.2.2.2.1 (to).toNat (by omega)
        refine ww_aload_n hX (pc := 29) dX4_fillRichest_29 rfl ?_
        refine ww_getR hX (pc := 30) fX4_47 (by decide) (xs_18 hL) (xr_18_0 hL) dX4_fillRichest_30 ?_
        refine ww_getR hX (pc := 33) fX4_70 (by decide) (xs_1 hL) (xr_1_1 hL) dX4_fillRichest_33 ?_
        refine ww_iload_n hX (pc := 36) dX4_fillRichest_36 rfl ?_
        refine ww_iald hX (pc := 37) (xs_3 hL) (by decide) (by omega) (by omega) dX4_fillRichest_37 ?_
        refine ww_nmI (fun v_38 hv_38 => ?_)
        refine ww_istore hX (pc := 38) (lv' := [some (kR (some 18)), some (kI a), some (kI x_14), some (kI to), some (kI v_38)]) dX4_fillRichest_38 (by decide) rfl rfl ?_
        refine ww_iload hX (pc := 40) dX4_fillRichest_40 rfl ?_
        refine ww_if_lt hX (pc := 42) (tgt := 87) dX4_fillRichest_42 (by decide) (fun h_42 => ?_) (fun h_42 => ?_)
        · simp only [w32_mod] at h_42
          refine ww_iload_n hX (pc := 87) dX4_fillRichest_87 rfl ?_
          refine ww_iconst hX (pc := 88) (x := 1) dX4_fillRichest_88 rfl ?_
          refine ww_iadd hX (pc := 89) dX4_fillRichest_89 ?_
          refine ww_iload_n hX (pc := 90) dX4_fillRichest_90 rfl ?_
          refine ww_ior hX (pc := 91) dX4_fillRichest_91 ?_
          refine ww_nmI (fun v_92 hv_92 => ?_)
          refine ww_istore_n hX (pc := 92) (lv' := [some (kR (some 18)), some (kI a), some (kI x_14), some (kI v_92), some (kI v_38)]) dX4_fillRichest_92 (by decide) rfl rfl ?_
          refine ww_goto hX (pc := 93) (tgt := 24) dX4_fillRichest_93 (by decide) ?_
          refine ww_sub [some (kR (some 18)), some (kI a), some (kI x_14), some (kI v_92), none] (aLe_s (aLe_s (aLe_s (aLe_s (aLe_n aLe_0))))) ?_
          have hor := i_or_ge (a := to + 1) (b := a) (by omega) (by omega) (by omega) (by omega)
          exact ih_24 _ (by have hm9 := Sh0_e hq_24; omega) v_92 I2 J2 rfl ⟨kI2, kJ2, ⟨by omega, by omega⟩⟩
        · simp only [w32_mod] at h_42
          refine ww_iload hX (pc := 45) dX4_fillRichest_45 rfl ?_
          refine ww_bipush hX (pc := 47) (x := 8) dX4_fillRichest_47 (by decide) ?_
          refine ww_icmp_ge hX (pc := 49) (tgt := 87) dX4_fillRichest_49 (by decide) (fun h_49 => ?_) (fun h_49 => ?_)
          · simp only [w32_mod] at h_49
            refine ww_iload_n hX (pc := 87) dX4_fillRichest_87 rfl ?_
            refine ww_iconst hX (pc := 88) (x := 1) dX4_fillRichest_88 rfl ?_
            refine ww_iadd hX (pc := 89) dX4_fillRichest_89 ?_
            refine ww_iload_n hX (pc := 90) dX4_fillRichest_90 rfl ?_
            refine ww_ior hX (pc := 91) dX4_fillRichest_91 ?_
            refine ww_nmI (fun v_92 hv_92 => ?_)
            refine ww_istore_n hX (pc := 92) (lv' := [some (kR (some 18)), some (kI a), some (kI x_14), some (kI v_92), some (kI v_38)]) dX4_fillRichest_92 (by decide) rfl rfl ?_
            refine ww_goto hX (pc := 93) (tgt := 24) dX4_fillRichest_93 (by decide) ?_
            refine ww_sub [some (kR (some 18)), some (kI a), some (kI x_14), some (kI v_92), none] (aLe_s (aLe_s (aLe_s (aLe_s (aLe_n aLe_0))))) ?_
            have hor := i_or_ge (a := to + 1) (b := a) (by omega) (by omega) (by omega) (by omega)
            exact ih_24 _ (by have hm9 := Sh0_e hq_24; omega) v_92 I2 J2 rfl ⟨kI2, kJ2, ⟨by omega, by omega⟩⟩
          · simp only [w32_mod] at h_49
            refine ww_aload_n hX (pc := 52) dX4_fillRichest_52 rfl ?_
            refine ww_getR hX (pc := 53) fX4_47 (by decide) (xs_18 hL) (xr_18_0 hL) dX4_fillRichest_53 ?_
            refine ww_iload_n hX (pc := 56) dX4_fillRichest_56 rfl ?_
            refine ww_iload_n hX (pc := 57) dX4_fillRichest_57 rfl ?_
            refine vI2 hX (pc := 58) sX4_111 (xs_1 hL) (c_X1_canLight l0 hL (XI_kp hI kI2 (by decide))) (by decide) (Nat.le_refl 0) (Nat.le_refl 0) (Nat.le_of_ble_eq_true rfl) dX4_fillRichest_58 (fun x_58 I_58 J_58 h_58 => ?_)
            obtain ⟨rfl, rfl, h_58⟩ := h_58
            refine ww_if_eq hX (pc := 61) (tgt := 87) dX4_fillRichest_61 (by decide) (fun h_61 => ?_) (fun h_61 => ?_)
            · simp only [w32_mod] at h_61
              refine ww_iload_n hX (pc := 87) dX4_fillRichest_87 rfl ?_
              refine ww_iconst hX (pc := 88) (x := 1) dX4_fillRichest_88 rfl ?_
              refine ww_iadd hX (pc := 89) dX4_fillRichest_89 ?_
              refine ww_iload_n hX (pc := 90) dX4_fillRichest_90 rfl ?_
              refine ww_ior hX (pc := 91) dX4_fillRichest_91 ?_
              refine ww_nmI (fun v_92 hv_92 => ?_)
              refine ww_istore_n hX (pc := 92) (lv' := [some (kR (some 18)), some (kI a), some (kI x_14), some (kI v_92), some (kI v_38)]) dX4_fillRichest_92 (by decide) rfl rfl ?_
              refine ww_goto hX (pc := 93) (tgt := 24) dX4_fillRichest_93 (by decide) ?_
              refine ww_sub [some (kR (some 18)), some (kI a), some (kI x_14), some (kI v_92), none] (aLe_s (aLe_s (aLe_s (aLe_s (aLe_n aLe_0))))) ?_
              have hor := i_or_ge (a := to + 1) (b := a) (by omega) (by omega) (by omega) (by omega)
              exact ih_24 _ (by have hm9 := Sh0_e hq_24; omega) v_92 I2 J2 rfl ⟨kI2, kJ2, ⟨by omega, by omega⟩⟩
            · simp only [w32_mod] at h_61
              refine ww_aload_n hX (pc := 64) dX4_fillRichest_64 rfl ?_
              refine ww_getR hX (pc := 65) fX4_37 (by decide) (xs_18 hL) (xr_18_7 hL) dX4_fillRichest_65 ?_
              refine ww_iload hX (pc := 68) dX4_fillRichest_68 rfl ?_
              refine ww_aload_n hX (pc := 70) dX4_fillRichest_70 rfl ?_
              refine ww_getR hX (pc := 71) fX4_37 (by decide) (xs_18 hL) (xr_18_7 hL) dX4_fillRichest_71 ?_
              refine ww_iload hX (pc := 74) dX4_fillRichest_74 rfl ?_
              refine ww_lald hX (pc := 76) (xs_29 hL) (by decide) (by omega) (by omega) dX4_fillRichest_76 ?_
              refine ww_aload_n hX (pc := 77) dX4_fillRichest_77 rfl ?_
              refine ww_getR hX (pc := 78) fX4_33 (by decide) (xs_18 hL) (xr_18_6 hL) dX4_fillRichest_78 ?_
              refine ww_iload_n hX (pc := 81) dX4_fillRichest_81 rfl ?_
              refine ww_lald hX (pc := 82) (xs_28 hL) (by decide) (by omega) (by omega) dX4_fillRichest_82 ?_
              refine ww_lmax hX (pc := 83) tb_771 tb_772 tb_13 tb_773 (by decide) (Nat.le_refl 0) (Nat.le_refl 0) (Nat.le_of_ble_eq_true rfl) dX4_fillRichest_83 ?_
              refine ww_last hX (pc := 86) (xs_29 hL) (by decide) (by omega) (by omega) dX4_fillRichest_86 ?_
              refine ww_nmK (fun J_86 eJ_86 => ?_)
              have kJ_86 : Kp 18 37 Ja J_86 := by rw [eJ_86]; exact Kp_up kJ2 _ _ (by decide)
              refine ww_iload_n hX (pc := 87) dX4_fillRichest_87 rfl ?_
              refine ww_iconst hX (pc := 88) (x := 1) dX4_fillRichest_88 rfl ?_
              refine ww_iadd hX (pc := 89) dX4_fillRichest_89 ?_
              refine ww_iload_n hX (pc := 90) dX4_fillRichest_90 rfl ?_
              refine ww_ior hX (pc := 91) dX4_fillRichest_91 ?_
              refine ww_nmI (fun v_92 hv_92 => ?_)
              refine ww_istore_n hX (pc := 92) (lv' := [some (kR (some 18)), some (kI a), some (kI x_14), some (kI v_92), some (kI v_38)]) dX4_fillRichest_92 (by decide) rfl rfl ?_
              refine ww_goto hX (pc := 93) (tgt := 24) dX4_fillRichest_93 (by decide) ?_
              refine ww_sub [some (kR (some 18)), some (kI a), some (kI x_14), some (kI v_92), none] (aLe_s (aLe_s (aLe_s (aLe_s (aLe_n aLe_0))))) ?_
              have hor := i_or_ge (a := to + 1) (b := a) (by omega) (by omega) (by omega) (by omega)
              exact ih_24 _ (by have hm9 := Sh0_e hq_24; omega) v_92 I2 J_86 rfl ⟨kI2, kJ_86, ⟨by omega, by omega⟩⟩
  exact hl_24 _ v_23 Ia J_7 rfl ⟨(Kp_rf (a := 18) (b := 37)), kJ_7, ⟨by omega, by omega⟩⟩
set_option maxHeartbeats 4000000 in
set_option maxRecDepth 20000 in
theorem c_X4_meanOf (l0 : Launch) {Ia Ja : aI1} {Ra : aR1} {Sa : aS1} (hL : LY Ra Sa) (hI : XI Ia) {a : Int} (ha0 : 0 ≤ a) (ha1 : a ≤ 255)  : CT l0 2 0 0 mX4_meanOf [kR (some 18), kI a] Ia Ja Ra Sa (cJ (fun x I' J' => Kp 18 37 Ia I' ∧ Kp 18 37 Ja J' ∧ True) Ra Sa) := by
  refine ct_in pn_X4 (Nat.le_of_ble_eq_true rfl) (fun X hX hT hIn => ?_)
  have hX : aK l0 X cX4_meanOf 6 RX4 (some .long) 2 0 0 := hX
  change WW X 0 [some (kR (some 18)), some (kI a), none, none, none, none] [] Ia Ja Ra Sa 0 0
  obtain ⟨hn1, hn2⟩ := hI.1
  obtain ⟨hk1, hk2⟩ := hI.2.1
  obtain ⟨hf1, hf2⟩ := hI.fu
  refine ww_aload_n hX (pc := 0) dX4_meanOf_0 rfl ?_
  refine ww_iload_n hX (pc := 1) dX4_meanOf_1 rfl ?_
  refine vV1 hX (pc := 2) sX4_156 (xs_18 hL) (c_X4_fillRichest l0 hL hI (by omega) (by omega)) (by decide) (Nat.le_refl 0) (Nat.le_refl 0) (Nat.le_of_ble_eq_true rfl) dX4_meanOf_2 (fun I_2 J_2 h_2 => ?_)
  have kI_2 : Kp 18 37 Ia I_2 := Kp_tr (Kp_rf (a := 18) (b := 37)) (Kp_wd h_2.1 (by decide) (by decide))
  have kJ_2 : Kp 18 37 Ja J_2 := Kp_tr (Kp_rf (a := 18) (b := 37)) (Kp_wd h_2.2.1 (by decide) (by decide))
  have r1_5_I_2 : I_2 1 5 = Ia 1 5 := Kp_at kI_2 1 5 (by decide)
  have r1_6_I_2 : I_2 1 6 = Ia 1 6 := Kp_at kI_2 1 6 (by decide)
  have rf_I_2 : FU (I_2 1 5) = FU (Ia 1 5) := by rw [r1_5_I_2]
  refine ww_aload_n hX (pc := 5) dX4_meanOf_5 rfl ?_
  refine ww_getR hX (pc := 6) fX4_47 (by decide) (xs_18 hL) (xr_18_0 hL) dX4_meanOf_6 ?_
  refine ww_getR hX (pc := 9) fX4_70 (by decide) (xs_1 hL) (xr_1_1 hL) dX4_meanOf_9 ?_
  refine ww_iload_n hX (pc := 12) dX4_meanOf_12 rfl ?_
  refine ww_iald hX (pc := 13) (xs_3 hL) (by decide) (by omega) (by omega) dX4_meanOf_13 ?_
  refine ww_nmI (fun v_14 hv_14 => ?_)
  refine ww_istore_n hX (pc := 14) (lv' := [some (kR (some 18)), some (kI a), some (kI v_14), none, none, none]) dX4_meanOf_14 (by decide) rfl rfl ?_
  refine ww_iload_n hX (pc := 15) dX4_meanOf_15 rfl ?_
  refine ww_iconst hX (pc := 16) (x := (-1)) dX4_meanOf_16 rfl ?_
  refine ww_icmp_ne hX (pc := 17) (tgt := 24) dX4_meanOf_17 (by decide) (fun h_17 => ?_) (fun h_17 => ?_)
  · simp only [w32_mod] at h_17
    refine ww_aload_n hX (pc := 24) dX4_meanOf_24 rfl ?_
    refine ww_getJ hX (pc := 25) fX4_43 (by decide) (xs_18 hL) dX4_meanOf_25 ?_
    refine ww_nmL (fun v_28 hv_28 => ?_)
    refine ww_lstore_n hX (pc := 28) (lv' := [some (kR (some 18)), some (kI a), some (kI v_14), some (kL v_28), none, none]) dX4_meanOf_28 (by decide) rfl rfl ?_
    refine ww_iconst hX (pc := 29) (x := 0) dX4_meanOf_29 rfl ?_
    refine ww_istore hX (pc := 30) (lv' := [some (kR (some 18)), some (kI a), some (kI v_14), some (kL v_28), none, some (kI 0)]) dX4_meanOf_30 (by decide) rfl rfl ?_
    have hl_32 : ∀ (n_32 : Nat) (tg : Int) (w : Int), (Ia 1 6 - w).toNat = n_32 → (0 ≤ w ∧ w ≤ Ia 1 6) → WW X 32 [some (kR (some 18)), some (kI a), some (kI v_14), some (kL tg), none, some (kI w)] [] I_2 J_2 Ra Sa 0 0 := by
      intro n_32
      induction n_32 using Nat.strongRecOn with
      | ind n_32 ih_32 =>
        intro tg w hm_32 hv_32
        have hq_32 := Sh0_i hm_32
        clear hm_32
        obtain ⟨hw0, hw1⟩ := hv_32
        refine ww_iload hX (pc := 32) dX4_meanOf_32 rfl ?_
        refine ww_aload_n hX (pc := 34) dX4_meanOf_34 rfl ?_
        refine ww_getR hX (pc := 35) fX4_47 (by decide) (xs_18 hL) (xr_18_0 hL) dX4_meanOf_35 ?_
        refine ww_getI hX (pc := 38) fX4_83 (by decide) (xs_1 hL) dX4_meanOf_38 ?_
        refine ww_icmp_ge hX (pc := 41) (tgt := 85) dX4_meanOf_41 (by decide) (fun h_41 => ?_) (fun h_41 => ?_)
        · simp only [w32_mod] at h_41
          refine ww_iload_n hX (pc := 85) dX4_meanOf_85 rfl ?_
          refine ww_iconst hX (pc := 86) (x := (-1)) dX4_meanOf_86 rfl ?_
          refine ww_icmp_ne hX (pc := 87) (tgt := 94) dX4_meanOf_87 (by decide) (fun h_87 => ?_) (fun h_87 => ?_)
          · simp only [w32_mod] at h_87
            refine ww_lload_n hX (pc := 94) dX4_meanOf_94 rfl ?_
            refine ww_iconst hX (pc := 95) (x := 1) dX4_meanOf_95 rfl ?_
            refine ww_aload_n hX (pc := 96) dX4_meanOf_96 rfl ?_
            refine ww_getR hX (pc := 97) fX4_47 (by decide) (xs_18 hL) (xr_18_0 hL) dX4_meanOf_97 ?_
            refine ww_getI hX (pc := 100) fX4_83 (by decide) (xs_1 hL) dX4_meanOf_100 ?_
            refine ww_iconst hX (pc := 103) (x := 1) dX4_meanOf_103 rfl ?_
            refine ww_isub hX (pc := 104) dX4_meanOf_104 ?_
            refine ww_mmax hX (pc := 105) tb_774 tb_460 tb_13 tb_461 (by decide) (Nat.le_refl 0) (Nat.le_refl 0) (Nat.le_of_ble_eq_true rfl) dX4_meanOf_105 ?_
            refine ww_i2l hX (pc := 108) dX4_meanOf_108 ?_
            refine ww_ldiv hX (pc := 109) dX4_meanOf_109 (by rw [i_max_r (by omega) (by omega) (by omega) (by omega), w32_id (by omega) (by omega), w64_id (by omega) (by omega)]; omega) ?_
            refine rJ hX (pc := 110) hT (Nat.le_refl 0) (Nat.le_refl 0) dX4_meanOf_110 ?_
            exact ⟨kI_2, kJ_2, trivial⟩
          · simp only [w32_mod] at h_87
            refine ww_lload_n hX (pc := 90) dX4_meanOf_90 rfl ?_
            refine ww_goto hX (pc := 91) (tgt := 110) dX4_meanOf_91 (by decide) ?_
            refine rJ hX (pc := 110) hT (Nat.le_refl 0) (Nat.le_refl 0) dX4_meanOf_110 ?_
            exact ⟨kI_2, kJ_2, trivial⟩
        · simp only [w32_mod] at h_41
          refine ww_iload hX (pc := 44) dX4_meanOf_44 rfl ?_
          refine ww_iload_n hX (pc := 46) dX4_meanOf_46 rfl ?_
          refine ww_icmp_eq hX (pc := 47) (tgt := 79) dX4_meanOf_47 (by decide) (fun h_47 => ?_) (fun h_47 => ?_)
          · simp only [w32_mod] at h_47
            refine ww_iinc hX (pc := 79) (lv' := [some (kR (some 18)), some (kI a), some (kI v_14), some (kL tg), none, some (kI (w + 1))]) dX4_meanOf_79 rfl (by decide) rfl rfl ?_
            refine ww_goto hX (pc := 82) (tgt := 32) dX4_meanOf_82 (by decide) ?_
            exact ih_32 _ (by have hm9 := Sh0_e hq_32; omega) tg (w + 1) rfl ⟨by omega, by omega⟩
          · simp only [w32_mod] at h_47
            refine ww_aload_n hX (pc := 50) dX4_meanOf_50 rfl ?_
            refine ww_getR hX (pc := 51) fX4_37 (by decide) (xs_18 hL) (xr_18_7 hL) dX4_meanOf_51 ?_
            refine ww_iload hX (pc := 54) dX4_meanOf_54 rfl ?_
            refine ww_lald hX (pc := 56) (xs_29 hL) (by decide) (by omega) (by omega) dX4_meanOf_56 ?_
            refine ww_ldc2 hX (pc := 57) (x := (-1)) dX4_meanOf_57 tb_763 ?_
            refine ww_lcmp hX (pc := 60) dX4_meanOf_60 ?_
            refine ww_if_eq hX (pc := 61) (tgt := 79) dX4_meanOf_61 (by decide) (fun h_61 => ?_) (fun h_61 => ?_)
            · simp only [w32_mod] at h_61
              refine ww_iinc hX (pc := 79) (lv' := [some (kR (some 18)), some (kI a), some (kI v_14), some (kL tg), none, some (kI (w + 1))]) dX4_meanOf_79 rfl (by decide) rfl rfl ?_
              refine ww_goto hX (pc := 82) (tgt := 32) dX4_meanOf_82 (by decide) ?_
              exact ih_32 _ (by have hm9 := Sh0_e hq_32; omega) tg (w + 1) rfl ⟨by omega, by omega⟩
            · simp only [w32_mod] at h_61
              refine ww_lload_n hX (pc := 64) dX4_meanOf_64 rfl ?_
              refine ww_aload_n hX (pc := 65) dX4_meanOf_65 rfl ?_
              refine ww_getJ hX (pc := 66) fX4_43 (by decide) (xs_18 hL) dX4_meanOf_66 ?_
              refine ww_aload_n hX (pc := 69) dX4_meanOf_69 rfl ?_
              refine ww_getR hX (pc := 70) fX4_37 (by decide) (xs_18 hL) (xr_18_7 hL) dX4_meanOf_70 ?_
              refine ww_iload hX (pc := 73) dX4_meanOf_73 rfl ?_
              refine ww_lald hX (pc := 75) (xs_29 hL) (by decide) (by omega) (by omega) dX4_meanOf_75 ?_
              refine ww_ladd hX (pc := 76) dX4_meanOf_76 ?_
              refine ww_ladd hX (pc := 77) dX4_meanOf_77 ?_
              refine ww_nmL (fun v_78 hv_78 => ?_)
              refine ww_lstore_n hX (pc := 78) (lv' := [some (kR (some 18)), some (kI a), some (kI v_14), some (kL v_78), none, some (kI w)]) dX4_meanOf_78 (by decide) rfl rfl ?_
              refine ww_iinc hX (pc := 79) (lv' := [some (kR (some 18)), some (kI a), some (kI v_14), some (kL v_78), none, some (kI (w + 1))]) dX4_meanOf_79 rfl (by decide) rfl rfl ?_
              refine ww_goto hX (pc := 82) (tgt := 32) dX4_meanOf_82 (by decide) ?_
              exact ih_32 _ (by have hm9 := Sh0_e hq_32; omega) v_78 (w + 1) rfl ⟨by omega, by omega⟩
    exact hl_32 _ v_28 0 rfl ⟨by omega, by omega⟩
  · simp only [w32_mod] at h_17
    refine ww_lconst hX (pc := 20) (x := 0) dX4_meanOf_20 (by decide) ?_
    refine ww_goto hX (pc := 21) (tgt := 28) dX4_meanOf_21 (by decide) ?_
    refine ww_lstore_n hX (pc := 28) (lv' := [some (kR (some 18)), some (kI a), some (kI v_14), some (kL 0), none, none]) dX4_meanOf_28 (by decide) rfl rfl ?_
    refine ww_iconst hX (pc := 29) (x := 0) dX4_meanOf_29 rfl ?_
    refine ww_istore hX (pc := 30) (lv' := [some (kR (some 18)), some (kI a), some (kI v_14), some (kL 0), none, some (kI 0)]) dX4_meanOf_30 (by decide) rfl rfl ?_
    have hl_32 : ∀ (n_32 : Nat) (tg : Int) (w : Int), (Ia 1 6 - w).toNat = n_32 → (0 ≤ w ∧ w ≤ Ia 1 6) → WW X 32 [some (kR (some 18)), some (kI a), some (kI v_14), some (kL tg), none, some (kI w)] [] I_2 J_2 Ra Sa 0 0 := by
      intro n_32
      induction n_32 using Nat.strongRecOn with
      | ind n_32 ih_32 =>
        intro tg w hm_32 hv_32
        have hq_32 := Sh0_i hm_32
        clear hm_32
        obtain ⟨hw0, hw1⟩ := hv_32
        refine ww_iload hX (pc := 32) dX4_meanOf_32 rfl ?_
        refine ww_aload_n hX (pc := 34) dX4_meanOf_34 rfl ?_
        refine ww_getR hX (pc := 35) fX4_47 (by decide) (xs_18 hL) (xr_18_0 hL) dX4_meanOf_35 ?_
        refine ww_getI hX (pc := 38) fX4_83 (by decide) (xs_1 hL) dX4_meanOf_38 ?_
        refine ww_icmp_ge hX (pc := 41) (tgt := 85) dX4_meanOf_41 (by decide) (fun h_41 => ?_) (fun h_41 => ?_)
        · simp only [w32_mod] at h_41
          refine ww_iload_n hX (pc := 85) dX4_meanOf_85 rfl ?_
          refine ww_iconst hX (pc := 86) (x := (-1)) dX4_meanOf_86 rfl ?_
          refine ww_icmp_ne hX (pc := 87) (tgt := 94) dX4_meanOf_87 (by decide) (fun h_87 => ?_) (fun h_87 => ?_)
          · simp only [w32_mod] at h_87
            refine ww_lload_n hX (pc := 94) dX4_meanOf_94 rfl ?_
            refine ww_iconst hX (pc := 95) (x := 1) dX4_meanOf_95 rfl ?_
            refine ww_aload_n hX (pc := 96) dX4_meanOf_96 rfl ?_
            refine ww_getR hX (pc := 97) fX4_47 (by decide) (xs_18 hL) (xr_18_0 hL) dX4_meanOf_97 ?_
            refine ww_getI hX (pc := 100) fX4_83 (by decide) (xs_1 hL) dX4_meanOf_100 ?_
            refine ww_iconst hX (pc := 103) (x := 1) dX4_meanOf_103 rfl ?_
            refine ww_isub hX (pc := 104) dX4_meanOf_104 ?_
            refine ww_mmax hX (pc := 105) tb_774 tb_460 tb_13 tb_461 (by decide) (Nat.le_refl 0) (Nat.le_refl 0) (Nat.le_of_ble_eq_true rfl) dX4_meanOf_105 ?_
            refine ww_i2l hX (pc := 108) dX4_meanOf_108 ?_
            refine ww_ldiv hX (pc := 109) dX4_meanOf_109 (by rw [i_max_r (by omega) (by omega) (by omega) (by omega), w32_id (by omega) (by omega), w64_id (by omega) (by omega)]; omega) ?_
            refine rJ hX (pc := 110) hT (Nat.le_refl 0) (Nat.le_refl 0) dX4_meanOf_110 ?_
            exact ⟨kI_2, kJ_2, trivial⟩
          · simp only [w32_mod] at h_87
            refine ww_lload_n hX (pc := 90) dX4_meanOf_90 rfl ?_
            refine ww_goto hX (pc := 91) (tgt := 110) dX4_meanOf_91 (by decide) ?_
            refine rJ hX (pc := 110) hT (Nat.le_refl 0) (Nat.le_refl 0) dX4_meanOf_110 ?_
            exact ⟨kI_2, kJ_2, trivial⟩
        · simp only [w32_mod] at h_41
          refine ww_iload hX (pc := 44) dX4_meanOf_44 rfl ?_
          refine ww_iload_n hX (pc := 46) dX4_meanOf_46 rfl ?_
          refine ww_icmp_eq hX (pc := 47) (tgt := 79) dX4_meanOf_47 (by decide) (fun h_47 => ?_) (fun h_47 => ?_)
          · simp only [w32_mod] at h_47
            refine ww_iinc hX (pc := 79) (lv' := [some (kR (some 18)), some (kI a), some (kI v_14), some (kL tg), none, some (kI (w + 1))]) dX4_meanOf_79 rfl (by decide) rfl rfl ?_
            refine ww_goto hX (pc := 82) (tgt := 32) dX4_meanOf_82 (by decide) ?_
            exact ih_32 _ (by have hm9 := Sh0_e hq_32; omega) tg (w + 1) rfl ⟨by omega, by omega⟩
          · simp only [w32_mod] at h_47
            refine ww_aload_n hX (pc := 50) dX4_meanOf_50 rfl ?_
            refine ww_getR hX (pc := 51) fX4_37 (by decide) (xs_18 hL) (xr_18_7 hL) dX4_meanOf_51 ?_
            refine ww_iload hX (pc := 54) dX4_meanOf_54 rfl ?_
            refine ww_lald hX (pc := 56) (xs_29 hL) (by decide) (by omega) (by omega) dX4_meanOf_56 ?_
            refine ww_ldc2 hX (pc := 57) (x := (-1)) dX4_meanOf_57 tb_763 ?_
            refine ww_lcmp hX (pc := 60) dX4_meanOf_60 ?_
            refine ww_if_eq hX (pc := 61) (tgt := 79) dX4_meanOf_61 (by decide) (fun h_61 => ?_) (fun h_61 => ?_)
            · simp only [w32_mod] at h_61
              refine ww_iinc hX (pc := 79) (lv' := [some (kR (some 18)), some (kI a), some (kI v_14), some (kL tg), none, some (kI (w + 1))]) dX4_meanOf_79 rfl (by decide) rfl rfl ?_
              refine ww_goto hX (pc := 82) (tgt := 32) dX4_meanOf_82 (by decide) ?_
              exact ih_32 _ (by have hm9 := Sh0_e hq_32; omega) tg (w + 1) rfl ⟨by omega, by omega⟩
            · simp only [w32_mod] at h_61
              refine ww_lload_n hX (pc := 64) dX4_meanOf_64 rfl ?_
              refine ww_aload_n hX (pc := 65) dX4_meanOf_65 rfl ?_
              refine ww_getJ hX (pc := 66) fX4_43 (by decide) (xs_18 hL) dX4_meanOf_66 ?_
              refine ww_aload_n hX (pc := 69) dX4_meanOf_69 rfl ?_
              refine ww_getR hX (pc := 70) fX4_37 (by decide) (xs_18 hL) (xr_18_7 hL) dX4_meanOf_70 ?_
              refine ww_iload hX (pc := 73) dX4_meanOf_73 rfl ?_
              refine ww_lald hX (pc := 75) (xs_29 hL) (by decide) (by omega) (by omega) dX4_meanOf_75 ?_
              refine ww_ladd hX (pc := 76) dX4_meanOf_76 ?_
              refine ww_ladd hX (pc := 77) dX4_meanOf_77 ?_
              refine ww_nmL (fun v_78 hv_78 => ?_)
              refine ww_lstore_n hX (pc := 78) (lv' := [some (kR (some 18)), some (kI a), some (kI v_14), some (kL v_78), none, some (kI w)]) dX4_meanOf_78 (by decide) rfl rfl ?_
              refine ww_iinc hX (pc := 79) (lv' := [some (kR (some 18)), some (kI a), some (kI v_14), some (kL v_78), none, some (kI (w + 1))]) dX4_meanOf_79 rfl (by decide) rfl rfl ?_
              refine ww_goto hX (pc := 82) (tgt := 32) dX4_meanOf_82 (by decide) ?_
              exact ih_32 _ (by have hm9 := Sh0_e hq_32; omega) v_78 (w + 1) rfl ⟨by omega, by omega⟩
    exact hl_32 _ 0 0 rfl ⟨by omega, by omega⟩
set_option maxHeartbeats 4000000 in
set_option maxRecDepth 20000 in
theorem c_X4_fillMean (l0 : Launch) {Ia Ja : aI1} {Ra : aR1} {Sa : aS1} (hL : LY Ra Sa) (hI : XI Ia)  : CT l0 3 0 0 mX4_fillMean [kR (some 18)] Ia Ja Ra Sa (cV (fun I' J' => Kp 18 37 Ia I' ∧ Kp 18 37 Ja J' ∧ True) Ra Sa) := by
  refine ct_in pn_X4 (Nat.le_of_ble_eq_true rfl) (fun X hX hT hIn => ?_)
  have hX : aK l0 X cX4_fillMean 2 RX4 none 3 0 0 := hX
  change WW X 0 [some (kR (some 18)), none] [] Ia Ja Ra Sa 0 0
  obtain ⟨hn1, hn2⟩ := hI.1
  obtain ⟨hk1, hk2⟩ := hI.2.1
  obtain ⟨hf1, hf2⟩ := hI.fu
  refine ww_aload_n hX (pc := 0) dX4_fillMean_0 rfl ?_
  refine ww_getI hX (pc := 1) fX4_58 (by decide) (xs_18 hL) dX4_fillMean_1 ?_
  refine ww_if_eq hX (pc := 4) (tgt := 8) dX4_fillMean_4 (by decide) (fun h_4 => ?_) (fun h_4 => ?_)
  · simp only [w32_mod] at h_4
    refine ww_aload_n hX (pc := 8) dX4_fillMean_8 rfl ?_
    refine ww_iconst hX (pc := 9) (x := 1) dX4_fillMean_9 rfl ?_
    refine ww_putZ hX (pc := 10) (fun h9 => absurd h9 (by decide)) gX4_58 rfl (by decide) (xs_18 hL) dX4_fillMean_10 ?_
    refine ww_nmH (fun I_10 eI_10 => ?_)
    have kI_10 : Kp 18 37 Ia I_10 := by rw [eI_10]; exact Kp_up (Kp_rf (a := 18) (b := 37)) _ _ (by decide)
    have r1_5_I_10 : I_10 1 5 = Ia 1 5 := Kp_at kI_10 1 5 (by decide)
    have r1_6_I_10 : I_10 1 6 = Ia 1 6 := Kp_at kI_10 1 6 (by decide)
    have rf_I_10 : FU (I_10 1 5) = FU (Ia 1 5) := by rw [r1_5_I_10]
    refine ww_aload_n hX (pc := 13) dX4_fillMean_13 rfl ?_
    refine ww_lconst hX (pc := 14) (x := 1) dX4_fillMean_14 (by decide) ?_
    refine ww_putJ hX (pc := 15) (fun h9 => absurd h9 (by decide)) gX4_43 rfl (xs_18 hL) dX4_fillMean_15 ?_
    refine ww_nmK (fun J_15 eJ_15 => ?_)
    have kJ_15 : Kp 18 37 Ja J_15 := by rw [eJ_15]; exact Kp_up (Kp_rf (a := 18) (b := 37)) _ _ (by decide)
    refine ww_iconst hX (pc := 18) (x := 0) dX4_fillMean_18 rfl ?_
    refine ww_istore_n hX (pc := 19) (lv' := [some (kR (some 18)), some (kI 0)]) dX4_fillMean_19 (by decide) rfl rfl ?_
    have hl_20 : ∀ (n_20 : Nat) (i : Int) (I2 : aI1) (J2 : aI1), (9 - i).toNat = n_20 → (Kp 18 37 Ia I2 ∧ Kp 18 37 Ja J2 ∧ (0 ≤ i ∧ i ≤ 9)) → WW X 20 [some (kR (some 18)), some (kI i)] [] I2 J2 Ra Sa 0 0 := by
      intro n_20
      induction n_20 using Nat.strongRecOn with
      | ind n_20 ih_20 =>
        intro i I2 J2 hm_20 hv_20
        have hq_20 := Sh0_i hm_20
        clear hm_20
        obtain ⟨kI2, kJ2, hi⟩ := hv_20
        have r1_5_I2 : I2 1 5 = Ia 1 5 := Kp_at kI2 1 5 (by decide)
        have r1_6_I2 : I2 1 6 = Ia 1 6 := Kp_at kI2 1 6 (by decide)
        have rf_I2 : FU (I2 1 5) = FU (Ia 1 5) := by rw [r1_5_I2]
        refine ww_iload_n hX (pc := 20) dX4_fillMean_20 rfl ?_
        refine ww_bipush hX (pc := 21) (x := 9) dX4_fillMean_21 (by decide) ?_
        refine ww_icmp_ge hX (pc := 23) (tgt := 51) dX4_fillMean_23 (by decide) (fun h_23 => ?_) (fun h_23 => ?_)
        · simp only [w32_mod] at h_23
          refine ww_aload_n hX (pc := 51) dX4_fillMean_51 rfl ?_
          refine ww_getR hX (pc := 52) fX4_47 (by decide) (xs_18 hL) (xr_18_0 hL) dX4_fillMean_52 ?_
          refine vI0 hX (pc := 55) sX4_75 (xs_1 hL) (c_X1_full l0 hL (XI_kp hI kI2 (by decide))) (by decide) (Nat.le_refl 0) (Nat.le_refl 0) (Nat.le_of_ble_eq_true rfl) dX4_fillMean_55 (fun x_55 I_55 J_55 h_55 => ?_)
          obtain ⟨rfl, rfl, h_55⟩ := h_55
          refine ww_istore_n hX (pc := 58) (lv' := [some (kR (some 18)), some (kI x_55)]) dX4_fillMean_58 (by decide) rfl rfl ?_
          have hl_59 : ∀ (n_59 : Nat) (i : Int) (I2 : aI1) (J2 : aI1), (i + 1).toNat = n_59 → (Kp 18 37 Ia I2 ∧ Kp 18 37 Ja J2 ∧ (-1 ≤ i ∧ i ≤ 255)) → WW X 59 [some (kR (some 18)), some (kI i)] [] I2 J2 Ra Sa 0 0 := by
            intro n_59
            induction n_59 using Nat.strongRecOn with
            | ind n_59 ih_59 =>
              intro i I2 J2 hm_59 hv_59
              have hq_59 := Sh0_i hm_59
              clear hm_59
              obtain ⟨kI2, kJ2, hi⟩ := hv_59
              have r1_5_I2 : I2 1 5 = Ia 1 5 := Kp_at kI2 1 5 (by decide)
              have r1_6_I2 : I2 1 6 = Ia 1 6 := Kp_at kI2 1 6 (by decide)
              have rf_I2 : FU (I2 1 5) = FU (Ia 1 5) := by rw [r1_5_I2]
              refine ww_iload_n hX (pc := 59) dX4_fillMean_59 rfl ?_
              refine ww_if_lt hX (pc := 60) (tgt := 80) dX4_fillMean_60 (by decide) (fun h_60 => ?_) (fun h_60 => ?_)
              · simp only [w32_mod] at h_60
                refine rV hX (pc := 80) hT (Nat.le_refl 0) (Nat.le_refl 0) dX4_fillMean_80 ?_
                exact ⟨kI2, kJ2, trivial⟩
              · simp only [w32_mod] at h_60
                refine ww_aload_n hX (pc := 63) dX4_fillMean_63 rfl ?_
                refine ww_getR hX (pc := 64) fX4_33 (by decide) (xs_18 hL) (xr_18_6 hL) dX4_fillMean_64 ?_
                refine ww_iload_n hX (pc := 67) dX4_fillMean_67 rfl ?_
                refine ww_aload_n hX (pc := 68) dX4_fillMean_68 rfl ?_
                refine ww_iload_n hX (pc := 69) dX4_fillMean_69 rfl ?_
                refine vJ1 hX (pc := 70) sX4_152 (xs_18 hL) (c_X4_meanOf l0 hL (XI_kp hI kI2 (by decide)) (by omega) (by omega)) (by decide) (Nat.le_refl 0) (Nat.le_refl 0) (Nat.le_of_ble_eq_true rfl) dX4_fillMean_70 (fun x_70 I_70 J_70 h_70 => ?_)
                have kI_70 : Kp 18 37 Ia I_70 := Kp_tr kI2 (Kp_wd h_70.1 (by decide) (by decide))
                have kJ_70 : Kp 18 37 Ja J_70 := Kp_tr kJ2 (Kp_wd h_70.2.1 (by decide) (by decide))
                have r1_5_I_70 : I_70 1 5 = Ia 1 5 := Kp_at kI_70 1 5 (by decide)
                have r1_6_I_70 : I_70 1 6 = Ia 1 6 := Kp_at kI_70 1 6 (by decide)
                have rf_I_70 : FU (I_70 1 5) = FU (Ia 1 5) := by rw [r1_5_I_70]
                refine ww_last hX (pc := 73) (xs_28 hL) (by decide) (by omega) (by omega) dX4_fillMean_73 ?_
                refine ww_nmK (fun J_73 eJ_73 => ?_)
                have kJ_73 : Kp 18 37 Ja J_73 := by rw [eJ_73]; exact Kp_up kJ_70 _ _ (by decide)
                refine ww_iinc hX (pc := 74) (lv' := [some (kR (some 18)), some (kI (i + (-1)))]) dX4_fillMean_74 rfl (by decide) rfl rfl ?_
                refine ww_goto hX (pc := 77) (tgt := 59) dX4_fillMean_77 (by decide) ?_
                exact ih_59 _ (by have hm9 := Sh0_e hq_59; omega) (i + (-1)) I_70 J_73 rfl ⟨kI_70, kJ_73, ⟨by omega, by omega⟩⟩
          exact hl_59 _ x_55 I2 J2 rfl ⟨kI2, kJ2, ⟨by omega, by omega⟩⟩
        · simp only [w32_mod] at h_23
          refine ww_aload_n hX (pc := 26) dX4_fillMean_26 rfl ?_
          refine ww_dupR hX (pc := 27) dX4_fillMean_27 ?_
          refine ww_getJ hX (pc := 28) fX4_43 (by decide) (xs_18 hL) dX4_fillMean_28 ?_
          refine ww_aload_n hX (pc := 31) dX4_fillMean_31 rfl ?_
          refine ww_getR hX (pc := 32) fX4_47 (by decide) (xs_18 hL) (xr_18_0 hL) dX4_fillMean_32 ?_
          refine ww_getI hX (pc := 35) fX4_83 (by decide) (xs_1 hL) dX4_fillMean_35 ?_
          refine ww_iconst hX (pc := 38) (x := 1) dX4_fillMean_38 rfl ?_
          refine ww_isub hX (pc := 39) dX4_fillMean_39 ?_
          refine ww_i2l hX (pc := 40) dX4_fillMean_40 ?_
          refine ww_lmul hX (pc := 41) dX4_fillMean_41 ?_
          refine ww_putJ hX (pc := 42) (fun h9 => absurd h9 (by decide)) gX4_43 rfl (xs_18 hL) dX4_fillMean_42 ?_
          refine ww_nmK (fun J_42 eJ_42 => ?_)
          have kJ_42 : Kp 18 37 Ja J_42 := by rw [eJ_42]; exact Kp_up kJ2 _ _ (by decide)
          refine ww_iinc hX (pc := 45) (lv' := [some (kR (some 18)), some (kI (i + 1))]) dX4_fillMean_45 rfl (by decide) rfl rfl ?_
          refine ww_goto hX (pc := 48) (tgt := 20) dX4_fillMean_48 (by decide) ?_
          exact ih_20 _ (by have hm9 := Sh0_e hq_20; omega) (i + 1) I2 J_42 rfl ⟨kI2, kJ_42, ⟨by omega, by omega⟩⟩
    exact hl_20 _ 0 I_10 J_15 rfl ⟨kI_10, kJ_15, ⟨by omega, by omega⟩⟩
  · simp only [w32_mod] at h_4
    refine rV hX (pc := 7) hT (Nat.le_refl 0) (Nat.le_refl 0) dX4_fillMean_7 ?_
    exact ⟨(Kp_rf (a := 18) (b := 37)), (Kp_rf (a := 18) (b := 37)), trivial⟩
set_option maxHeartbeats 4000000 in
set_option maxRecDepth 20000 in
theorem c_X4_prepare (l0 : Launch) {Ia Ja : aI1} {Ra : aR1} {Sa : aS1} (hL : LY Ra Sa) (hI : XI Ia) {m : Int}  : CT l0 5 0 0 mX4_prepare [kR (some 18), kI m] Ia Ja Ra Sa (cV (fun I' J' => Kp 18 37 Ia I' ∧ Kp 18 37 Ja J' ∧ True) Ra Sa) := by
  refine ct_in pn_X4 (Nat.le_of_ble_eq_true rfl) (fun X hX hT hIn => ?_)
  have hX : aK l0 X cX4_prepare 2 RX4 none 5 0 0 := hX
  change WW X 0 [some (kR (some 18)), some (kI m)] [] Ia Ja Ra Sa 0 0
  obtain ⟨hn1, hn2⟩ := hI.1
  obtain ⟨hk1, hk2⟩ := hI.2.1
  obtain ⟨hf1, hf2⟩ := hI.fu
  refine ww_iload_n hX (pc := 0) dX4_prepare_0 rfl ?_
  refine ww_table hX (pc := 1) dX4_prepare_1 49 (by decide) (fun h_1 => ?_) (fun i_1 h_1 e_1 => ?_)
  · simp only [w32_mod] at h_1
    refine rV hX (pc := 49) hT (Nat.le_refl 0) (Nat.le_refl 0) dX4_prepare_49 ?_
    exact ⟨(Kp_rf (a := 18) (b := 37)), (Kp_rf (a := 18) (b := 37)), trivial⟩
  · simp only [w32_mod] at e_1
    rcases (show i_1 = 0 ∨ i_1 = 1 ∨ i_1 = 2 by omega) with rfl | rfl | rfl
    · refine ⟨27, 28, rfl, by decide, ?_⟩
      refine ww_aload_n hX (pc := 28) dX4_prepare_28 rfl ?_
      refine vV0 hX (pc := 29) sX4_61 (xs_18 hL) (c_X4_fillOil l0 hL hI) (by decide) (Nat.le_refl 0) (Nat.le_refl 0) (Nat.le_of_ble_eq_true rfl) dX4_prepare_29 (fun I_29 J_29 h_29 => ?_)
      have kI_29 : Kp 18 37 Ia I_29 := Kp_tr (Kp_rf (a := 18) (b := 37)) (Kp_wd h_29.1 (by decide) (by decide))
      have kJ_29 : Kp 18 37 Ja J_29 := Kp_tr (Kp_rf (a := 18) (b := 37)) (Kp_wd h_29.2.1 (by decide) (by decide))
      have r1_5_I_29 : I_29 1 5 = Ia 1 5 := Kp_at kI_29 1 5 (by decide)
      have r1_6_I_29 : I_29 1 6 = Ia 1 6 := Kp_at kI_29 1 6 (by decide)
      have rf_I_29 : FU (I_29 1 5) = FU (Ia 1 5) := by rw [r1_5_I_29]
      refine ww_goto hX (pc := 32) (tgt := 49) dX4_prepare_32 (by decide) ?_
      refine rV hX (pc := 49) hT (Nat.le_refl 0) (Nat.le_refl 0) dX4_prepare_49 ?_
      exact ⟨kI_29, kJ_29, trivial⟩
    · refine ⟨34, 35, rfl, by decide, ?_⟩
      refine ww_aload_n hX (pc := 35) dX4_prepare_35 rfl ?_
      refine vV0 hX (pc := 36) sX4_64 (xs_18 hL) (c_X4_fillLasting l0 hL hI) (by decide) (Nat.le_refl 0) (Nat.le_refl 0) (Nat.le_of_ble_eq_true rfl) dX4_prepare_36 (fun I_36 J_36 h_36 => ?_)
      have kI_36 : Kp 18 37 Ia I_36 := Kp_tr (Kp_rf (a := 18) (b := 37)) (Kp_wd h_36.1 (by decide) (by decide))
      have kJ_36 : Kp 18 37 Ja J_36 := Kp_tr (Kp_rf (a := 18) (b := 37)) (Kp_wd h_36.2.1 (by decide) (by decide))
      have r1_5_I_36 : I_36 1 5 = Ia 1 5 := Kp_at kI_36 1 5 (by decide)
      have r1_6_I_36 : I_36 1 6 = Ia 1 6 := Kp_at kI_36 1 6 (by decide)
      have rf_I_36 : FU (I_36 1 5) = FU (Ia 1 5) := by rw [r1_5_I_36]
      refine ww_goto hX (pc := 39) (tgt := 49) dX4_prepare_39 (by decide) ?_
      refine rV hX (pc := 49) hT (Nat.le_refl 0) (Nat.le_refl 0) dX4_prepare_49 ?_
      exact ⟨kI_36, kJ_36, trivial⟩
    · refine ⟨41, 42, rfl, by decide, ?_⟩
      refine ww_aload_n hX (pc := 42) dX4_prepare_42 rfl ?_
      refine vV0 hX (pc := 43) sX4_90 (xs_18 hL) (c_X4_fillMean l0 hL hI) (by decide) (Nat.le_refl 0) (Nat.le_refl 0) (Nat.le_of_ble_eq_true rfl) dX4_prepare_43 (fun I_43 J_43 h_43 => ?_)
      have kI_43 : Kp 18 37 Ia I_43 := Kp_tr (Kp_rf (a := 18) (b := 37)) (Kp_wd h_43.1 (by decide) (by decide))
      have kJ_43 : Kp 18 37 Ja J_43 := Kp_tr (Kp_rf (a := 18) (b := 37)) (Kp_wd h_43.2.1 (by decide) (by decide))
      have r1_5_I_43 : I_43 1 5 = Ia 1 5 := Kp_at kI_43 1 5 (by decide)
      have r1_6_I_43 : I_43 1 6 = Ia 1 6 := Kp_at kI_43 1 6 (by decide)
      have rf_I_43 : FU (I_43 1 5) = FU (Ia 1 5) := by rw [r1_5_I_43]
      refine ww_goto hX (pc := 46) (tgt := 49) dX4_prepare_46 (by decide) ?_
      refine rV hX (pc := 49) hT (Nat.le_refl 0) (Nat.le_refl 0) dX4_prepare_49 ?_
      exact ⟨kI_43, kJ_43, trivial⟩
set_option maxHeartbeats 4000000 in
set_option maxRecDepth 20000 in
theorem c_X4_meanPart (l0 : Launch) {Ia Ja : aI1} {Ra : aR1} {Sa : aS1} (hL : LY Ra Sa) (hI : XI Ia) {a b : Int} (ha0 : 0 ≤ a) (ha1 : a ≤ 255)  : CT l0 4 0 0 mX4_meanPart [kR (some 18), kI a, kI b] Ia Ja Ra Sa (cJ (fun x I' J' => Kp 18 37 Ia I' ∧ Kp 18 37 Ja J' ∧ True) Ra Sa) := by
  refine ct_in pn_X4 (Nat.le_of_ble_eq_true rfl) (fun X hX hT hIn => ?_)
  have hX : aK l0 X cX4_meanPart 9 RX4 (some .long) 4 0 0 := hX
  change WW X 0 [some (kR (some 18)), some (kI a), some (kI b), none, none, none, none, none, none] [] Ia Ja Ra Sa 0 0
  obtain ⟨hn1, hn2⟩ := hI.1
  obtain ⟨hk1, hk2⟩ := hI.2.1
  obtain ⟨hf1, hf2⟩ := hI.fu
  refine ww_aload_n hX (pc := 0) dX4_meanPart_0 rfl ?_
  refine vV0 hX (pc := 1) sX4_90 (xs_18 hL) (c_X4_fillMean l0 hL hI) (by decide) (Nat.le_refl 0) (Nat.le_refl 0) (Nat.le_of_ble_eq_true rfl) dX4_meanPart_1 (fun I_1 J_1 h_1 => ?_)
  have kI_1 : Kp 18 37 Ia I_1 := Kp_tr (Kp_rf (a := 18) (b := 37)) (Kp_wd h_1.1 (by decide) (by decide))
  have kJ_1 : Kp 18 37 Ja J_1 := Kp_tr (Kp_rf (a := 18) (b := 37)) (Kp_wd h_1.2.1 (by decide) (by decide))
  have r1_5_I_1 : I_1 1 5 = Ia 1 5 := Kp_at kI_1 1 5 (by decide)
  have r1_6_I_1 : I_1 1 6 = Ia 1 6 := Kp_at kI_1 1 6 (by decide)
  have rf_I_1 : FU (I_1 1 5) = FU (Ia 1 5) := by rw [r1_5_I_1]
  refine ww_aload_n hX (pc := 4) dX4_meanPart_4 rfl ?_
  refine ww_getR hX (pc := 5) fX4_33 (by decide) (xs_18 hL) (xr_18_6 hL) dX4_meanPart_5 ?_
  refine ww_iload_n hX (pc := 8) dX4_meanPart_8 rfl ?_
  refine ww_lald hX (pc := 9) (xs_28 hL) (by decide) (by omega) (by omega) dX4_meanPart_9 ?_
  refine ww_nmL (fun v_10 hv_10 => ?_)
  refine ww_lstore_n hX (pc := 10) (lv' := [some (kR (some 18)), some (kI a), some (kI b), some (kL v_10), none, none, none, none, none]) dX4_meanPart_10 (by decide) rfl rfl ?_
  refine ww_aload_n hX (pc := 11) dX4_meanPart_11 rfl ?_
  refine ww_getR hX (pc := 12) fX4_47 (by decide) (xs_18 hL) (xr_18_0 hL) dX4_meanPart_12 ?_
  refine ww_getR hX (pc := 15) fX4_70 (by decide) (xs_1 hL) (xr_1_1 hL) dX4_meanPart_15 ?_
  refine ww_iload_n hX (pc := 18) dX4_meanPart_18 rfl ?_
  refine ww_iald hX (pc := 19) (xs_3 hL) (by decide) (by omega) (by omega) dX4_meanPart_19 ?_
  refine ww_iconst hX (pc := 20) (x := (-1)) dX4_meanPart_20 rfl ?_
  refine ww_icmp_ne hX (pc := 21) (tgt := 40) dX4_meanPart_21 (by decide) (fun h_21 => ?_) (fun h_21 => ?_)
  · simp only [w32_mod] at h_21
    refine ww_aload_n hX (pc := 40) dX4_meanPart_40 rfl ?_
    refine ww_getJ hX (pc := 41) fX4_43 (by decide) (xs_18 hL) dX4_meanPart_41 ?_
    refine ww_nmL (fun v_44 hv_44 => ?_)
    refine ww_lstore hX (pc := 44) (lv' := [some (kR (some 18)), some (kI a), some (kI b), some (kL v_10), none, some (kL v_44), none, none, none]) dX4_meanPart_44 (by decide) rfl rfl ?_
    refine ww_lconst hX (pc := 46) (x := 1) dX4_meanPart_46 (by decide) ?_
    refine ww_lload_n hX (pc := 47) dX4_meanPart_47 rfl ?_
    refine ww_lload hX (pc := 48) dX4_meanPart_48 rfl ?_
    refine sJ2 hX (pc := 50) sX4_93 (c_X4_commonDivisor l0) (by decide) (Nat.le_refl 0) (Nat.le_refl 0) (Nat.le_of_ble_eq_true rfl) dX4_meanPart_50 (fun x_50 I_50 J_50 h_50 => ?_)
    obtain ⟨rfl, rfl, h_50⟩ := h_50
    refine ww_lmax hX (pc := 53) tb_771 tb_772 tb_13 tb_773 (by decide) (Nat.le_refl 0) (Nat.le_refl 0) (Nat.le_of_ble_eq_true rfl) dX4_meanPart_53 ?_
    refine ww_nmL (fun v_56 hv_56 => ?_)
    refine ww_lstore hX (pc := 56) (lv' := [some (kR (some 18)), some (kI a), some (kI b), some (kL v_10), none, some (kL v_44), none, some (kL v_56), none]) dX4_meanPart_56 (by decide) rfl rfl ?_
    refine ww_iload_n hX (pc := 58) dX4_meanPart_58 rfl ?_
    refine ww_if_eq hX (pc := 59) (tgt := 69) dX4_meanPart_59 (by decide) (fun h_59 => ?_) (fun h_59 => ?_)
    · simp only [w32_mod] at h_59
      refine ww_lload hX (pc := 69) dX4_meanPart_69 rfl ?_
      refine ww_lload hX (pc := 71) dX4_meanPart_71 rfl ?_
      refine ww_ldiv hX (pc := 73) dX4_meanPart_73 (by rw [hv_56]; exact l_max_1 _) ?_
      refine rJ hX (pc := 74) hT (Nat.le_refl 0) (Nat.le_refl 0) dX4_meanPart_74 ?_
      exact ⟨kI_1, kJ_1, trivial⟩
    · simp only [w32_mod] at h_59
      refine ww_lload_n hX (pc := 62) dX4_meanPart_62 rfl ?_
      refine ww_lload hX (pc := 63) dX4_meanPart_63 rfl ?_
      refine ww_ldiv hX (pc := 65) dX4_meanPart_65 (by rw [hv_56]; exact l_max_1 _) ?_
      refine ww_goto hX (pc := 66) (tgt := 74) dX4_meanPart_66 (by decide) ?_
      refine rJ hX (pc := 74) hT (Nat.le_refl 0) (Nat.le_refl 0) dX4_meanPart_74 ?_
      exact ⟨kI_1, kJ_1, trivial⟩
  · simp only [w32_mod] at h_21
    refine ww_aload_n hX (pc := 24) dX4_meanPart_24 rfl ?_
    refine ww_getJ hX (pc := 25) fX4_43 (by decide) (xs_18 hL) dX4_meanPart_25 ?_
    refine ww_aload_n hX (pc := 28) dX4_meanPart_28 rfl ?_
    refine ww_getR hX (pc := 29) fX4_47 (by decide) (xs_18 hL) (xr_18_0 hL) dX4_meanPart_29 ?_
    refine ww_getI hX (pc := 32) fX4_83 (by decide) (xs_1 hL) dX4_meanPart_32 ?_
    refine ww_i2l hX (pc := 35) dX4_meanPart_35 ?_
    refine ww_lmul hX (pc := 36) dX4_meanPart_36 ?_
    refine ww_goto hX (pc := 37) (tgt := 44) dX4_meanPart_37 (by decide) ?_
    refine ww_nmL (fun v_44 hv_44 => ?_)
    refine ww_lstore hX (pc := 44) (lv' := [some (kR (some 18)), some (kI a), some (kI b), some (kL v_10), none, some (kL v_44), none, none, none]) dX4_meanPart_44 (by decide) rfl rfl ?_
    refine ww_lconst hX (pc := 46) (x := 1) dX4_meanPart_46 (by decide) ?_
    refine ww_lload_n hX (pc := 47) dX4_meanPart_47 rfl ?_
    refine ww_lload hX (pc := 48) dX4_meanPart_48 rfl ?_
    refine sJ2 hX (pc := 50) sX4_93 (c_X4_commonDivisor l0) (by decide) (Nat.le_refl 0) (Nat.le_refl 0) (Nat.le_of_ble_eq_true rfl) dX4_meanPart_50 (fun x_50 I_50 J_50 h_50 => ?_)
    obtain ⟨rfl, rfl, h_50⟩ := h_50
    refine ww_lmax hX (pc := 53) tb_771 tb_772 tb_13 tb_773 (by decide) (Nat.le_refl 0) (Nat.le_refl 0) (Nat.le_of_ble_eq_true rfl) dX4_meanPart_53 ?_
    refine ww_nmL (fun v_56 hv_56 => ?_)
    refine ww_lstore hX (pc := 56) (lv' := [some (kR (some 18)), some (kI a), some (kI b), some (kL v_10), none, some (kL v_44), none, some (kL v_56), none]) dX4_meanPart_56 (by decide) rfl rfl ?_
    refine ww_iload_n hX (pc := 58) dX4_meanPart_58 rfl ?_
    refine ww_if_eq hX (pc := 59) (tgt := 69) dX4_meanPart_59 (by decide) (fun h_59 => ?_) (fun h_59 => ?_)
    · simp only [w32_mod] at h_59
      refine ww_lload hX (pc := 69) dX4_meanPart_69 rfl ?_
      refine ww_lload hX (pc := 71) dX4_meanPart_71 rfl ?_
      refine ww_ldiv hX (pc := 73) dX4_meanPart_73 (by rw [hv_56]; exact l_max_1 _) ?_
      refine rJ hX (pc := 74) hT (Nat.le_refl 0) (Nat.le_refl 0) dX4_meanPart_74 ?_
      exact ⟨kI_1, kJ_1, trivial⟩
    · simp only [w32_mod] at h_59
      refine ww_lload_n hX (pc := 62) dX4_meanPart_62 rfl ?_
      refine ww_lload hX (pc := 63) dX4_meanPart_63 rfl ?_
      refine ww_ldiv hX (pc := 65) dX4_meanPart_65 (by rw [hv_56]; exact l_max_1 _) ?_
      refine ww_goto hX (pc := 66) (tgt := 74) dX4_meanPart_66 (by decide) ?_
      refine rJ hX (pc := 74) hT (Nat.le_refl 0) (Nat.le_refl 0) dX4_meanPart_74 ?_
      exact ⟨kI_1, kJ_1, trivial⟩
set_option maxHeartbeats 4000000 in
set_option maxRecDepth 20000 in
theorem c_X4_chooseAll (l0 : Launch) {Ia Ja : aI1} {Ra : aR1} {Sa : aS1} (hL : LY Ra Sa) (hI : XI Ia) {a m : Int} (ha0 : 0 ≤ a) (ha1 : a ≤ FU (Ia 1 5))  : CT l0 2 0 0 mX4_chooseAll [kR (some 18), kI a, kI m] Ia Ja Ra Sa (cV (fun I' J' => Kp 18 37 Ia I' ∧ Kp 18 37 Ja J' ∧ (∀ j, j < 8 → -1 ≤ I' 21 j ∧ I' 21 j ≤ FU (Ia 1 5))) Ra Sa) := by
  refine ct_in pn_X4 (Nat.le_of_ble_eq_true rfl) (fun X hX hT hIn => ?_)
  have hX : aK l0 X cX4_chooseAll 6 RX4 none 2 0 0 := hX
  change WW X 0 [some (kR (some 18)), some (kI a), some (kI m), none, none, none] [] Ia Ja Ra Sa 0 0
  obtain ⟨hn1, hn2⟩ := hI.1
  obtain ⟨hk1, hk2⟩ := hI.2.1
  obtain ⟨hf1, hf2⟩ := hI.fu
  refine ww_aload_n hX (pc := 0) dX4_chooseAll_0 rfl ?_
  refine ww_getR hX (pc := 1) fX4_18 (by decide) (xs_18 hL) (xr_18_3 hL) dX4_chooseAll_1 ?_
  refine ww_iconst hX (pc := 4) (x := (-1)) dX4_chooseAll_4 rfl ?_
  refine sV2 hX (pc := 5) sX4_106 (c_J7_fill_53178 l0 (xs_21 hL) (by decide)) (by decide) (Nat.le_refl 0) (Nat.le_refl 0) (Nat.le_of_ble_eq_true rfl) dX4_chooseAll_5 (fun I_5 J_5 h_5 => ?_)
  obtain ⟨rfl, eI_5⟩ := h_5
  have kI_5 : Kp 18 37 Ia I_5 := by rw [eI_5]; exact Kp_upR (Kp_rf (a := 18) (b := 37)) _ (by decide)
  have r1_5_I_5 : I_5 1 5 = Ia 1 5 := Kp_at kI_5 1 5 (by decide)
  have r1_6_I_5 : I_5 1 6 = Ia 1 6 := Kp_at kI_5 1 6 (by decide)
  have rf_I_5 : FU (I_5 1 5) = FU (Ia 1 5) := by rw [r1_5_I_5]
  refine ww_aload_n hX (pc := 8) dX4_chooseAll_8 rfl ?_
  refine ww_getR hX (pc := 9) fX4_47 (by decide) (xs_18 hL) (xr_18_0 hL) dX4_chooseAll_9 ?_
  refine vI0 hX (pc := 12) sX4_75 (xs_1 hL) (c_X1_full l0 hL (XI_kp hI kI_5 (by decide))) (by decide) (Nat.le_refl 0) (Nat.le_refl 0) (Nat.le_of_ble_eq_true rfl) dX4_chooseAll_12 (fun x_12 I_12 J_12 h_12 => ?_)
  obtain ⟨rfl, rfl, h_12⟩ := h_12
  refine ww_istore_n hX (pc := 15) (lv' := [some (kR (some 18)), some (kI a), some (kI m), some (kI x_12), none, none]) dX4_chooseAll_15 (by decide) rfl rfl ?_
  refine ww_iload_n hX (pc := 16) dX4_chooseAll_16 rfl ?_
  refine ww_istore hX (pc := 17) (lv' := [some (kR (some 18)), some (kI a), some (kI m), some (kI x_12), some (kI a), none]) dX4_chooseAll_17 (by decide) rfl rfl ?_
  have hl_19 : ∀ (n_19 : Nat) (to : Int) (I2 : aI1) (J2 : aI1), (x_12 + 1 - to).toNat = n_19 → (Kp 18 37 Ia I2 ∧ Kp 18 37 Ja J2 ∧ (0 ≤ to ∧ to < 2147483648) ∧ (∀ j, j < 8 → -1 ≤ I2 21 j ∧ I2 21 j ≤ FU (Ia 1 5))) → WW X 19 [some (kR (some 18)), some (kI a), some (kI m), some (kI x_12), some (kI to), none] [] I2 J2 Ra Sa 0 0 := by
    intro n_19
    induction n_19 using Nat.strongRecOn with
    | ind n_19 ih_19 =>
      intro to I2 J2 hm_19 hv_19
      have hq_19 := Sh0_i hm_19
      clear hm_19
      obtain ⟨kI2, kJ2, hto, hcr⟩ := hv_19
      have r1_5_I2 : I2 1 5 = Ia 1 5 := Kp_at kI2 1 5 (by decide)
      have r1_6_I2 : I2 1 6 = Ia 1 6 := Kp_at kI2 1 6 (by decide)
      have rf_I2 : FU (I2 1 5) = FU (Ia 1 5) := by rw [r1_5_I2]
      refine ww_iload hX (pc := 19) dX4_chooseAll_19 rfl ?_
      refine ww_iload_n hX (pc := 21) dX4_chooseAll_21 rfl ?_
      refine ww_icmp_gt hX (pc := 22) (tgt := 110) dX4_chooseAll_22 (by decide) (fun h_22 => ?_) (fun h_22 => ?_)
      · simp only [w32_mod] at h_22
        refine rV hX (pc := 110) hT (Nat.le_refl 0) (Nat.le_refl 0) dX4_chooseAll_110 ?_
        exact ⟨kI2, kJ2, hcr⟩
      · simp only [w32_mod] at h_22
        have hcd := (XI_kp hI kI2 (by decide)).2.2.2.2.2.2.2.2.2.1 (to).toNat (by omega)
        refine ww_aload_n hX (pc := 25) dX4_chooseAll_25 rfl ?_
        refine ww_getR hX (pc := 26) fX4_47 (by decide) (xs_18 hL) (xr_18_0 hL) dX4_chooseAll_26 ?_
        refine ww_getR hX (pc := 29) fX4_70 (by decide) (xs_1 hL) (xr_1_1 hL) dX4_chooseAll_29 ?_
        refine ww_iload hX (pc := 32) dX4_chooseAll_32 rfl ?_
        refine ww_iald hX (pc := 34) (xs_3 hL) (by decide) (by omega) (by omega) dX4_chooseAll_34 ?_
        refine ww_nmI (fun v_35 hv_35 => ?_)
        refine ww_istore hX (pc := 35) (lv' := [some (kR (some 18)), some (kI a), some (kI m), some (kI x_12), some (kI to), some (kI v_35)]) dX4_chooseAll_35 (by decide) rfl rfl ?_
        refine ww_iload hX (pc := 37) dX4_chooseAll_37 rfl ?_
        refine ww_if_lt hX (pc := 39) (tgt := 99) dX4_chooseAll_39 (by decide) (fun h_39 => ?_) (fun h_39 => ?_)
        · simp only [w32_mod] at h_39
          refine ww_iload hX (pc := 99) dX4_chooseAll_99 rfl ?_
          refine ww_iconst hX (pc := 101) (x := 1) dX4_chooseAll_101 rfl ?_
          refine ww_iadd hX (pc := 102) dX4_chooseAll_102 ?_
          refine ww_iload_n hX (pc := 103) dX4_chooseAll_103 rfl ?_
          refine ww_ior hX (pc := 104) dX4_chooseAll_104 ?_
          refine ww_nmI (fun v_105 hv_105 => ?_)
          refine ww_istore hX (pc := 105) (lv' := [some (kR (some 18)), some (kI a), some (kI m), some (kI x_12), some (kI v_105), some (kI v_35)]) dX4_chooseAll_105 (by decide) rfl rfl ?_
          refine ww_goto hX (pc := 107) (tgt := 19) dX4_chooseAll_107 (by decide) ?_
          refine ww_sub [some (kR (some 18)), some (kI a), some (kI m), some (kI x_12), some (kI v_105), none] (aLe_s (aLe_s (aLe_s (aLe_s (aLe_s (aLe_n aLe_0)))))) ?_
          have hor := i_or_ge (a := to + 1) (b := a) (by omega) (by omega) (by omega) (by omega)
          exact ih_19 _ (by have hm9 := Sh0_e hq_19; omega) v_105 I2 J2 rfl ⟨kI2, kJ2, ⟨by omega, by omega⟩, hcr⟩
        · simp only [w32_mod] at h_39
          refine ww_iload hX (pc := 42) dX4_chooseAll_42 rfl ?_
          refine ww_bipush hX (pc := 44) (x := 8) dX4_chooseAll_44 (by decide) ?_
          refine ww_icmp_ge hX (pc := 46) (tgt := 99) dX4_chooseAll_46 (by decide) (fun h_46 => ?_) (fun h_46 => ?_)
          · simp only [w32_mod] at h_46
            refine ww_iload hX (pc := 99) dX4_chooseAll_99 rfl ?_
            refine ww_iconst hX (pc := 101) (x := 1) dX4_chooseAll_101 rfl ?_
            refine ww_iadd hX (pc := 102) dX4_chooseAll_102 ?_
            refine ww_iload_n hX (pc := 103) dX4_chooseAll_103 rfl ?_
            refine ww_ior hX (pc := 104) dX4_chooseAll_104 ?_
            refine ww_nmI (fun v_105 hv_105 => ?_)
            refine ww_istore hX (pc := 105) (lv' := [some (kR (some 18)), some (kI a), some (kI m), some (kI x_12), some (kI v_105), some (kI v_35)]) dX4_chooseAll_105 (by decide) rfl rfl ?_
            refine ww_goto hX (pc := 107) (tgt := 19) dX4_chooseAll_107 (by decide) ?_
            refine ww_sub [some (kR (some 18)), some (kI a), some (kI m), some (kI x_12), some (kI v_105), none] (aLe_s (aLe_s (aLe_s (aLe_s (aLe_s (aLe_n aLe_0)))))) ?_
            have hor := i_or_ge (a := to + 1) (b := a) (by omega) (by omega) (by omega) (by omega)
            exact ih_19 _ (by have hm9 := Sh0_e hq_19; omega) v_105 I2 J2 rfl ⟨kI2, kJ2, ⟨by omega, by omega⟩, hcr⟩
          · simp only [w32_mod] at h_46
            refine ww_aload_n hX (pc := 49) dX4_chooseAll_49 rfl ?_
            refine ww_getR hX (pc := 50) fX4_47 (by decide) (xs_18 hL) (xr_18_0 hL) dX4_chooseAll_50 ?_
            refine ww_iload_n hX (pc := 53) dX4_chooseAll_53 rfl ?_
            refine ww_iload hX (pc := 54) dX4_chooseAll_54 rfl ?_
            refine vI2 hX (pc := 56) sX4_111 (xs_1 hL) (c_X1_canLight l0 hL (XI_kp hI kI2 (by decide))) (by decide) (Nat.le_refl 0) (Nat.le_refl 0) (Nat.le_of_ble_eq_true rfl) dX4_chooseAll_56 (fun x_56 I_56 J_56 h_56 => ?_)
            obtain ⟨rfl, rfl, h_56⟩ := h_56
            refine ww_if_eq hX (pc := 59) (tgt := 99) dX4_chooseAll_59 (by decide) (fun h_59 => ?_) (fun h_59 => ?_)
            · simp only [w32_mod] at h_59
              refine ww_iload hX (pc := 99) dX4_chooseAll_99 rfl ?_
              refine ww_iconst hX (pc := 101) (x := 1) dX4_chooseAll_101 rfl ?_
              refine ww_iadd hX (pc := 102) dX4_chooseAll_102 ?_
              refine ww_iload_n hX (pc := 103) dX4_chooseAll_103 rfl ?_
              refine ww_ior hX (pc := 104) dX4_chooseAll_104 ?_
              refine ww_nmI (fun v_105 hv_105 => ?_)
              refine ww_istore hX (pc := 105) (lv' := [some (kR (some 18)), some (kI a), some (kI m), some (kI x_12), some (kI v_105), some (kI v_35)]) dX4_chooseAll_105 (by decide) rfl rfl ?_
              refine ww_goto hX (pc := 107) (tgt := 19) dX4_chooseAll_107 (by decide) ?_
              refine ww_sub [some (kR (some 18)), some (kI a), some (kI m), some (kI x_12), some (kI v_105), none] (aLe_s (aLe_s (aLe_s (aLe_s (aLe_s (aLe_n aLe_0)))))) ?_
              have hor := i_or_ge (a := to + 1) (b := a) (by omega) (by omega) (by omega) (by omega)
              exact ih_19 _ (by have hm9 := Sh0_e hq_19; omega) v_105 I2 J2 rfl ⟨kI2, kJ2, ⟨by omega, by omega⟩, hcr⟩
            · simp only [w32_mod] at h_59
              have hc8 := hcr v_35.toNat (by omega)
              refine ww_aload_n hX (pc := 62) dX4_chooseAll_62 rfl ?_
              refine ww_getR hX (pc := 63) fX4_18 (by decide) (xs_18 hL) (xr_18_3 hL) dX4_chooseAll_63 ?_
              refine ww_iload hX (pc := 66) dX4_chooseAll_66 rfl ?_
              refine ww_iald hX (pc := 68) (xs_21 hL) (by decide) (by omega) (by omega) dX4_chooseAll_68 ?_
              refine ww_iconst hX (pc := 69) (x := (-1)) dX4_chooseAll_69 rfl ?_
              refine ww_icmp_eq hX (pc := 70) (tgt := 90) dX4_chooseAll_70 (by decide) (fun h_70 => ?_) (fun h_70 => ?_)
              · simp only [w32_mod] at h_70
                refine ww_aload_n hX (pc := 90) dX4_chooseAll_90 rfl ?_
                refine ww_getR hX (pc := 91) fX4_18 (by decide) (xs_18 hL) (xr_18_3 hL) dX4_chooseAll_91 ?_
                refine ww_iload hX (pc := 94) dX4_chooseAll_94 rfl ?_
                refine ww_iload hX (pc := 96) dX4_chooseAll_96 rfl ?_
                refine ww_iast hX (pc := 98) (xs_21 hL) (by decide) (by omega) (by omega) dX4_chooseAll_98 ?_
                refine ww_nmH (fun I_98 eI_98 => ?_)
                have kI_98 : Kp 18 37 Ia I_98 := by rw [eI_98]; exact Kp_up kI2 _ _ (by decide)
                have r1_5_I_98 : I_98 1 5 = Ia 1 5 := Kp_at kI_98 1 5 (by decide)
                have r1_6_I_98 : I_98 1 6 = Ia 1 6 := Kp_at kI_98 1 6 (by decide)
                have rf_I_98 : FU (I_98 1 5) = FU (Ia 1 5) := by rw [r1_5_I_98]
                refine ww_iload hX (pc := 99) dX4_chooseAll_99 rfl ?_
                refine ww_iconst hX (pc := 101) (x := 1) dX4_chooseAll_101 rfl ?_
                refine ww_iadd hX (pc := 102) dX4_chooseAll_102 ?_
                refine ww_iload_n hX (pc := 103) dX4_chooseAll_103 rfl ?_
                refine ww_ior hX (pc := 104) dX4_chooseAll_104 ?_
                refine ww_nmI (fun v_105 hv_105 => ?_)
                refine ww_istore hX (pc := 105) (lv' := [some (kR (some 18)), some (kI a), some (kI m), some (kI x_12), some (kI v_105), some (kI v_35)]) dX4_chooseAll_105 (by decide) rfl rfl ?_
                refine ww_goto hX (pc := 107) (tgt := 19) dX4_chooseAll_107 (by decide) ?_
                refine ww_sub [some (kR (some 18)), some (kI a), some (kI m), some (kI x_12), some (kI v_105), none] (aLe_s (aLe_s (aLe_s (aLe_s (aLe_s (aLe_n aLe_0)))))) ?_
                have hor := i_or_ge (a := to + 1) (b := a) (by omega) (by omega) (by omega) (by omega)
                exact ih_19 _ (by have hm9 := Sh0_e hq_19; omega) v_105 I_98 J2 rfl ⟨kI_98, kJ2, ⟨by omega, by omega⟩, by rw [eI_98]; exact rng_up (by omega) hcr⟩
              · simp only [w32_mod] at h_70
                refine ww_aload_n hX (pc := 73) dX4_chooseAll_73 rfl ?_
                refine ww_iload hX (pc := 74) dX4_chooseAll_74 rfl ?_
                refine ww_aload_n hX (pc := 76) dX4_chooseAll_76 rfl ?_
                refine ww_getR hX (pc := 77) fX4_18 (by decide) (xs_18 hL) (xr_18_3 hL) dX4_chooseAll_77 ?_
                refine ww_iload hX (pc := 80) dX4_chooseAll_80 rfl ?_
                refine ww_iald hX (pc := 82) (xs_21 hL) (by decide) (by omega) (by omega) dX4_chooseAll_82 ?_
                refine ww_iload_n hX (pc := 83) dX4_chooseAll_83 rfl ?_
                refine vI3 hX (pc := 84) sX4_115 (xs_18 hL) (c_X4_isBetter l0 hL (XI_kp hI kI2 (by decide)) (by omega) (by omega) (by omega) (by omega)) (by decide) (Nat.le_refl 0) (Nat.le_refl 0) (Nat.le_of_ble_eq_true rfl) dX4_chooseAll_84 (fun x_84 I_84 J_84 h_84 => ?_)
                obtain ⟨rfl, rfl, h_84⟩ := h_84
                refine ww_if_eq hX (pc := 87) (tgt := 99) dX4_chooseAll_87 (by decide) (fun h_87 => ?_) (fun h_87 => ?_)
                · simp only [w32_mod] at h_87
                  refine ww_iload hX (pc := 99) dX4_chooseAll_99 rfl ?_
                  refine ww_iconst hX (pc := 101) (x := 1) dX4_chooseAll_101 rfl ?_
                  refine ww_iadd hX (pc := 102) dX4_chooseAll_102 ?_
                  refine ww_iload_n hX (pc := 103) dX4_chooseAll_103 rfl ?_
                  refine ww_ior hX (pc := 104) dX4_chooseAll_104 ?_
                  refine ww_nmI (fun v_105 hv_105 => ?_)
                  refine ww_istore hX (pc := 105) (lv' := [some (kR (some 18)), some (kI a), some (kI m), some (kI x_12), some (kI v_105), some (kI v_35)]) dX4_chooseAll_105 (by decide) rfl rfl ?_
                  refine ww_goto hX (pc := 107) (tgt := 19) dX4_chooseAll_107 (by decide) ?_
                  refine ww_sub [some (kR (some 18)), some (kI a), some (kI m), some (kI x_12), some (kI v_105), none] (aLe_s (aLe_s (aLe_s (aLe_s (aLe_s (aLe_n aLe_0)))))) ?_
                  have hor := i_or_ge (a := to + 1) (b := a) (by omega) (by omega) (by omega) (by omega)
                  exact ih_19 _ (by have hm9 := Sh0_e hq_19; omega) v_105 I2 J2 rfl ⟨kI2, kJ2, ⟨by omega, by omega⟩, hcr⟩
                · simp only [w32_mod] at h_87
                  refine ww_aload_n hX (pc := 90) dX4_chooseAll_90 rfl ?_
                  refine ww_getR hX (pc := 91) fX4_18 (by decide) (xs_18 hL) (xr_18_3 hL) dX4_chooseAll_91 ?_
                  refine ww_iload hX (pc := 94) dX4_chooseAll_94 rfl ?_
                  refine ww_iload hX (pc := 96) dX4_chooseAll_96 rfl ?_
                  refine ww_iast hX (pc := 98) (xs_21 hL) (by decide) (by omega) (by omega) dX4_chooseAll_98 ?_
                  refine ww_nmH (fun I_98 eI_98 => ?_)
                  have kI_98 : Kp 18 37 Ia I_98 := by rw [eI_98]; exact Kp_up kI2 _ _ (by decide)
                  have r1_5_I_98 : I_98 1 5 = Ia 1 5 := Kp_at kI_98 1 5 (by decide)
                  have r1_6_I_98 : I_98 1 6 = Ia 1 6 := Kp_at kI_98 1 6 (by decide)
                  have rf_I_98 : FU (I_98 1 5) = FU (Ia 1 5) := by rw [r1_5_I_98]
                  refine ww_iload hX (pc := 99) dX4_chooseAll_99 rfl ?_
                  refine ww_iconst hX (pc := 101) (x := 1) dX4_chooseAll_101 rfl ?_
                  refine ww_iadd hX (pc := 102) dX4_chooseAll_102 ?_
                  refine ww_iload_n hX (pc := 103) dX4_chooseAll_103 rfl ?_
                  refine ww_ior hX (pc := 104) dX4_chooseAll_104 ?_
                  refine ww_nmI (fun v_105 hv_105 => ?_)
                  refine ww_istore hX (pc := 105) (lv' := [some (kR (some 18)), some (kI a), some (kI m), some (kI x_12), some (kI v_105), some (kI v_35)]) dX4_chooseAll_105 (by decide) rfl rfl ?_
                  refine ww_goto hX (pc := 107) (tgt := 19) dX4_chooseAll_107 (by decide) ?_
                  refine ww_sub [some (kR (some 18)), some (kI a), some (kI m), some (kI x_12), some (kI v_105), none] (aLe_s (aLe_s (aLe_s (aLe_s (aLe_s (aLe_n aLe_0)))))) ?_
                  have hor := i_or_ge (a := to + 1) (b := a) (by omega) (by omega) (by omega) (by omega)
                  exact ih_19 _ (by have hm9 := Sh0_e hq_19; omega) v_105 I_98 J2 rfl ⟨kI_98, kJ2, ⟨by omega, by omega⟩, by rw [eI_98]; exact rng_up (by omega) hcr⟩
  exact hl_19 _ a I_5 Ja rfl ⟨kI_5, (Kp_rf (a := 18) (b := 37)), ⟨by omega, by omega⟩, fun j hj => by rw [eI_5, upR_s, if_pos hj]; omega⟩
set_option maxHeartbeats 4000000 in
set_option maxRecDepth 20000 in
theorem c_X4_choose (l0 : Launch) {Ia Ja : aI1} {Ra : aR1} {Sa : aS1} (hL : LY Ra Sa) (hI : XI Ia) {a w m : Int} (ha0 : 0 ≤ a) (ha1 : a ≤ FU (Ia 1 5)) (hw0 : 0 ≤ w) (hw1 : w < 8)  : CT l0 3 0 0 mX4_choose [kR (some 18), kI a, kI w, kI m] Ia Ja Ra Sa (cI (fun x I' J' => Kp 18 37 Ia I' ∧ Kp 18 37 Ja J' ∧ -1 ≤ x ∧ x ≤ FU (Ia 1 5)) Ra Sa) := by
  refine ct_in pn_X4 (Nat.le_of_ble_eq_true rfl) (fun X hX hT hIn => ?_)
  have hX : aK l0 X cX4_choose 4 RX4 (some .int) 3 0 0 := hX
  change WW X 0 [some (kR (some 18)), some (kI a), some (kI w), some (kI m)] [] Ia Ja Ra Sa 0 0
  obtain ⟨hn1, hn2⟩ := hI.1
  obtain ⟨hk1, hk2⟩ := hI.2.1
  obtain ⟨hf1, hf2⟩ := hI.fu
  refine ww_aload_n hX (pc := 0) dX4_choose_0 rfl ?_
  refine ww_iload_n hX (pc := 1) dX4_choose_1 rfl ?_
  refine ww_iload_n hX (pc := 2) dX4_choose_2 rfl ?_
  refine vV2 hX (pc := 3) sX4_102 (xs_18 hL) (c_X4_chooseAll l0 hL hI (by omega) (by omega)) (by decide) (Nat.le_refl 0) (Nat.le_refl 0) (Nat.le_of_ble_eq_true rfl) dX4_choose_3 (fun I_3 J_3 h_3 => ?_)
  have kI_3 : Kp 18 37 Ia I_3 := Kp_tr (Kp_rf (a := 18) (b := 37)) (Kp_wd h_3.1 (by decide) (by decide))
  have kJ_3 : Kp 18 37 Ja J_3 := Kp_tr (Kp_rf (a := 18) (b := 37)) (Kp_wd h_3.2.1 (by decide) (by decide))
  have r1_5_I_3 : I_3 1 5 = Ia 1 5 := Kp_at kI_3 1 5 (by decide)
  have r1_6_I_3 : I_3 1 6 = Ia 1 6 := Kp_at kI_3 1 6 (by decide)
  have rf_I_3 : FU (I_3 1 5) = FU (Ia 1 5) := by rw [r1_5_I_3]
  refine ww_aload_n hX (pc := 6) dX4_choose_6 rfl ?_
  refine ww_getR hX (pc := 7) fX4_18 (by decide) (xs_18 hL) (xr_18_3 hL) dX4_choose_7 ?_
  refine ww_iload_n hX (pc := 10) dX4_choose_10 rfl ?_
  refine ww_iald hX (pc := 11) (xs_21 hL) (by decide) (by omega) (by omega) dX4_choose_11 ?_
  refine rI hX (pc := 12) hT (Nat.le_refl 0) (Nat.le_refl 0) dX4_choose_12 ?_
  have hc9 := h_3.2.2 w.toNat (by omega)
  exact ⟨kI_3, kJ_3, by omega, by omega⟩
set_option maxHeartbeats 4000000 in
set_option maxRecDepth 20000 in
theorem c_X4_wouldLight (l0 : Launch) {Ia Ja : aI1} {Ra : aR1} {Sa : aS1} (hL : LY Ra Sa) (hI : XI Ia) {a b m : Int} (ha0 : -2147483648 ≤ a) (ha1 : a < 2147483648) (hb0 : -2147483648 ≤ b) (hb1 : b < 2147483648)  : CT l0 4 0 0 mX4_wouldLight [kR (some 18), kI a, kI b, kI m] Ia Ja Ra Sa (cI (fun x I' J' => Kp 18 37 Ia I' ∧ Kp 18 37 Ja J' ∧ (x = 0 ∨ x = 1) ∧ (x = 1 → 0 ≤ b ∧ b ≤ FU (Ia 1 5))) Ra Sa) := by
  refine ct_in pn_X4 (Nat.le_of_ble_eq_true rfl) (fun X hX hT hIn => ?_)
  have hX : aK l0 X cX4_wouldLight 5 RX4 (some .boolean) 4 0 0 := hX
  change WW X 0 [some (kR (some 18)), some (kI a), some (kI b), some (kI m), none] [] Ia Ja Ra Sa 0 0
  obtain ⟨hn1, hn2⟩ := hI.1
  obtain ⟨hk1, hk2⟩ := hI.2.1
  obtain ⟨hf1, hf2⟩ := hI.fu
  refine ww_aload_n hX (pc := 0) dX4_wouldLight_0 rfl ?_
  refine ww_getR hX (pc := 1) fX4_47 (by decide) (xs_18 hL) (xr_18_0 hL) dX4_wouldLight_1 ?_
  refine ww_iload_n hX (pc := 4) dX4_wouldLight_4 rfl ?_
  refine vI1 hX (pc := 5) sX4_119 (xs_1 hL) (c_X1_isState l0 hL hI (by omega)) (by decide) (Nat.le_refl 0) (Nat.le_refl 0) (Nat.le_of_ble_eq_true rfl) dX4_wouldLight_5 (fun x_5 I_5 J_5 h_5 => ?_)
  obtain ⟨rfl, rfl, h_5⟩ := h_5
  refine ww_if_eq hX (pc := 8) (tgt := 29) dX4_wouldLight_8 (by decide) (fun h_8 => ?_) (fun h_8 => ?_)
  · simp only [w32_mod] at h_8
    refine ww_iconst hX (pc := 29) (x := 0) dX4_wouldLight_29 rfl ?_
    refine rZ hX (pc := 30) hT (Nat.le_refl 0) (Nat.le_refl 0) dX4_wouldLight_30 (by decide) ?_
    exact ⟨(Kp_rf (a := 18) (b := 37)), (Kp_rf (a := 18) (b := 37)), by omega, by omega⟩
  · simp only [w32_mod] at h_8
    have k_5 := h_5.2.mp (by omega)
    clear h_5
    refine ww_aload_n hX (pc := 11) dX4_wouldLight_11 rfl ?_
    refine ww_getR hX (pc := 12) fX4_47 (by decide) (xs_18 hL) (xr_18_0 hL) dX4_wouldLight_12 ?_
    refine ww_iload_n hX (pc := 15) dX4_wouldLight_15 rfl ?_
    refine vI1 hX (pc := 16) sX4_119 (xs_1 hL) (c_X1_isState l0 hL hI (by omega)) (by decide) (Nat.le_refl 0) (Nat.le_refl 0) (Nat.le_of_ble_eq_true rfl) dX4_wouldLight_16 (fun x_16 I_16 J_16 h_16 => ?_)
    obtain ⟨rfl, rfl, h_16⟩ := h_16
    refine ww_if_eq hX (pc := 19) (tgt := 29) dX4_wouldLight_19 (by decide) (fun h_19 => ?_) (fun h_19 => ?_)
    · simp only [w32_mod] at h_19
      refine ww_iconst hX (pc := 29) (x := 0) dX4_wouldLight_29 rfl ?_
      refine rZ hX (pc := 30) hT (Nat.le_refl 0) (Nat.le_refl 0) dX4_wouldLight_30 (by decide) ?_
      exact ⟨(Kp_rf (a := 18) (b := 37)), (Kp_rf (a := 18) (b := 37)), by omega, by omega⟩
    · simp only [w32_mod] at h_19
      have k_16 := h_16.2.mp (by omega)
      clear h_16
      refine ww_iload_n hX (pc := 22) dX4_wouldLight_22 rfl ?_
      refine ww_iload_n hX (pc := 23) dX4_wouldLight_23 rfl ?_
      refine ww_iand hX (pc := 24) dX4_wouldLight_24 ?_
      refine ww_iload_n hX (pc := 25) dX4_wouldLight_25 rfl ?_
      refine ww_icmp_eq hX (pc := 26) (tgt := 31) dX4_wouldLight_26 (by decide) (fun h_26 => ?_) (fun h_26 => ?_)
      · simp only [w32_mod] at h_26
        have hcd := hI.2.2.2.2.2.2.2.2.2.1 (b).toNat (by omega)
        refine ww_aload_n hX (pc := 31) dX4_wouldLight_31 rfl ?_
        refine ww_getR hX (pc := 32) fX4_47 (by decide) (xs_18 hL) (xr_18_0 hL) dX4_wouldLight_32 ?_
        refine ww_getR hX (pc := 35) fX4_70 (by decide) (xs_1 hL) (xr_1_1 hL) dX4_wouldLight_35 ?_
        refine ww_iload_n hX (pc := 38) dX4_wouldLight_38 rfl ?_
        refine ww_iald hX (pc := 39) (xs_3 hL) (by decide) (by omega) (by omega) dX4_wouldLight_39 ?_
        refine ww_nmI (fun v_40 hv_40 => ?_)
        refine ww_istore hX (pc := 40) (lv' := [some (kR (some 18)), some (kI a), some (kI b), some (kI m), some (kI v_40)]) dX4_wouldLight_40 (by decide) rfl rfl ?_
        refine ww_iload hX (pc := 42) dX4_wouldLight_42 rfl ?_
        refine ww_iconst hX (pc := 44) (x := (-1)) dX4_wouldLight_44 rfl ?_
        refine ww_icmp_eq hX (pc := 45) (tgt := 64) dX4_wouldLight_45 (by decide) (fun h_45 => ?_) (fun h_45 => ?_)
        · simp only [w32_mod] at h_45
          refine ww_iconst hX (pc := 64) (x := 0) dX4_wouldLight_64 rfl ?_
          refine rZ hX (pc := 65) hT (Nat.le_refl 0) (Nat.le_refl 0) dX4_wouldLight_65 (by decide) ?_
          exact ⟨(Kp_rf (a := 18) (b := 37)), (Kp_rf (a := 18) (b := 37)), by omega, by omega⟩
        · simp only [w32_mod] at h_45
          refine ww_aload_n hX (pc := 48) dX4_wouldLight_48 rfl ?_
          refine ww_iload_n hX (pc := 49) dX4_wouldLight_49 rfl ?_
          refine ww_iload hX (pc := 50) dX4_wouldLight_50 rfl ?_
          refine ww_iload_n hX (pc := 52) dX4_wouldLight_52 rfl ?_
          refine vI3 hX (pc := 53) sX4_123 (xs_18 hL) (c_X4_choose l0 hL hI (by omega) (by omega) (by omega) (by omega)) (by decide) (Nat.le_refl 0) (Nat.le_refl 0) (Nat.le_of_ble_eq_true rfl) dX4_wouldLight_53 (fun x_53 I_53 J_53 h_53 => ?_)
          have kI_53 : Kp 18 37 Ia I_53 := Kp_tr (Kp_rf (a := 18) (b := 37)) (Kp_wd h_53.1 (by decide) (by decide))
          have kJ_53 : Kp 18 37 Ja J_53 := Kp_tr (Kp_rf (a := 18) (b := 37)) (Kp_wd h_53.2.1 (by decide) (by decide))
          have r1_5_I_53 : I_53 1 5 = Ia 1 5 := Kp_at kI_53 1 5 (by decide)
          have r1_6_I_53 : I_53 1 6 = Ia 1 6 := Kp_at kI_53 1 6 (by decide)
          have rf_I_53 : FU (I_53 1 5) = FU (Ia 1 5) := by rw [r1_5_I_53]
          refine ww_iload_n hX (pc := 56) dX4_wouldLight_56 rfl ?_
          refine ww_icmp_ne hX (pc := 57) (tgt := 64) dX4_wouldLight_57 (by decide) (fun h_57 => ?_) (fun h_57 => ?_)
          · simp only [w32_mod] at h_57
            refine ww_iconst hX (pc := 64) (x := 0) dX4_wouldLight_64 rfl ?_
            refine rZ hX (pc := 65) hT (Nat.le_refl 0) (Nat.le_refl 0) dX4_wouldLight_65 (by decide) ?_
            exact ⟨kI_53, kJ_53, by omega, by omega⟩
          · simp only [w32_mod] at h_57
            refine ww_iconst hX (pc := 60) (x := 1) dX4_wouldLight_60 rfl ?_
            refine ww_goto hX (pc := 61) (tgt := 65) dX4_wouldLight_61 (by decide) ?_
            refine rZ hX (pc := 65) hT (Nat.le_refl 0) (Nat.le_refl 0) dX4_wouldLight_65 (by decide) ?_
            exact ⟨kI_53, kJ_53, by omega, by omega⟩
      · simp only [w32_mod] at h_26
        refine ww_iconst hX (pc := 29) (x := 0) dX4_wouldLight_29 rfl ?_
        refine rZ hX (pc := 30) hT (Nat.le_refl 0) (Nat.le_refl 0) dX4_wouldLight_30 (by decide) ?_
        exact ⟨(Kp_rf (a := 18) (b := 37)), (Kp_rf (a := 18) (b := 37)), by omega, by omega⟩
set_option maxHeartbeats 4000000 in
set_option maxRecDepth 20000 in
theorem c_X4_findFailing (l0 : Launch) {Ia Ja : aI1} {Ra : aR1} {Sa : aS1} (hL : LY Ra Sa) (hI : XI Ia)  : CT l0 3 0 0 mX4_findFailing [kR (some 18)] Ia Ja Ra Sa (cI (fun x I' J' => Kp 18 37 Ia I' ∧ Kp 18 37 Ja J' ∧ 0 ≤ x ∧ x ≤ 9) Ra Sa) := by
  refine ct_in pn_X4 (Nat.le_of_ble_eq_true rfl) (fun X hX hT hIn => ?_)
  have hX : aK l0 X cX4_findFailing 5 RX4 (some .int) 3 0 0 := hX
  change WW X 0 [some (kR (some 18)), none, none, none, none] [] Ia Ja Ra Sa 0 0
  obtain ⟨hn1, hn2⟩ := hI.1
  obtain ⟨hk1, hk2⟩ := hI.2.1
  obtain ⟨hf1, hf2⟩ := hI.fu
  refine ww_iconst hX (pc := 0) (x := 0) dX4_findFailing_0 rfl ?_
  refine ww_istore_n hX (pc := 1) (lv' := [some (kR (some 18)), some (kI 0), none, none, none]) dX4_findFailing_1 (by decide) rfl rfl ?_
  refine ww_iconst hX (pc := 2) (x := 0) dX4_findFailing_2 rfl ?_
  refine ww_istore_n hX (pc := 3) (lv' := [some (kR (some 18)), some (kI 0), some (kI 0), none, none]) dX4_findFailing_3 (by decide) rfl rfl ?_
  have hl_4 : ∀ (n_4 : Nat) (sa : Int) (i : Int) (I2 : aI1) (J2 : aI1), (9 - i).toNat = n_4 → (Kp 18 37 Ia I2 ∧ Kp 18 37 Ja J2 ∧ (0 ≤ i ∧ i ≤ 9) ∧ (0 ≤ sa ∧ sa ≤ FU (Ia 1 5))) → WW X 4 [some (kR (some 18)), some (kI sa), some (kI i), none, none] [] I2 J2 Ra Sa 0 0 := by
    intro n_4
    induction n_4 using Nat.strongRecOn with
    | ind n_4 ih_4 =>
      intro sa i I2 J2 hm_4 hv_4
      have hq_4 := Sh0_i hm_4
      clear hm_4
      obtain ⟨kI2, kJ2, hi, hsa⟩ := hv_4
      have r1_5_I2 : I2 1 5 = Ia 1 5 := Kp_at kI2 1 5 (by decide)
      have r1_6_I2 : I2 1 6 = Ia 1 6 := Kp_at kI2 1 6 (by decide)
      have rf_I2 : FU (I2 1 5) = FU (Ia 1 5) := by rw [r1_5_I2]
      refine ww_iload_n hX (pc := 4) dX4_findFailing_4 rfl ?_
      refine ww_bipush hX (pc := 5) (x := 9) dX4_findFailing_5 (by decide) ?_
      refine ww_icmp_ge hX (pc := 7) (tgt := 126) dX4_findFailing_7 (by decide) (fun h_7 => ?_) (fun h_7 => ?_)
      · simp only [w32_mod] at h_7
        refine ww_bipush hX (pc := 126) (x := 9) dX4_findFailing_126 (by decide) ?_
        refine rI hX (pc := 128) hT (Nat.le_refl 0) (Nat.le_refl 0) dX4_findFailing_128 ?_
        exact ⟨kI2, kJ2, by omega, by omega⟩
      · simp only [w32_mod] at h_7
        refine ww_aload_n hX (pc := 10) dX4_findFailing_10 rfl ?_
        refine ww_iload_n hX (pc := 11) dX4_findFailing_11 rfl ?_
        refine ww_iconst hX (pc := 12) (x := 2) dX4_findFailing_12 rfl ?_
        refine vV2 hX (pc := 13) sX4_102 (xs_18 hL) (c_X4_chooseAll l0 hL (XI_kp hI kI2 (by decide)) (by omega) (by omega)) (by decide) (Nat.le_refl 0) (Nat.le_refl 0) (Nat.le_of_ble_eq_true rfl) dX4_findFailing_13 (fun I_13 J_13 h_13 => ?_)
        have kI_13 : Kp 18 37 Ia I_13 := Kp_tr kI2 (Kp_wd h_13.1 (by decide) (by decide))
        have kJ_13 : Kp 18 37 Ja J_13 := Kp_tr kJ2 (Kp_wd h_13.2.1 (by decide) (by decide))
        have r1_5_I_13 : I_13 1 5 = Ia 1 5 := Kp_at kI_13 1 5 (by decide)
        have r1_6_I_13 : I_13 1 6 = Ia 1 6 := Kp_at kI_13 1 6 (by decide)
        have rf_I_13 : FU (I_13 1 5) = FU (Ia 1 5) := by rw [r1_5_I_13]
        refine ww_iconst hX (pc := 16) (x := (-1)) dX4_findFailing_16 rfl ?_
        refine ww_istore_n hX (pc := 17) (lv' := [some (kR (some 18)), some (kI sa), some (kI i), some (kI (-1)), none]) dX4_findFailing_17 (by decide) rfl rfl ?_
        refine ww_iconst hX (pc := 18) (x := 0) dX4_findFailing_18 rfl ?_
        refine ww_istore hX (pc := 19) (lv' := [some (kR (some 18)), some (kI sa), some (kI i), some (kI (-1)), some (kI 0)]) dX4_findFailing_19 (by decide) rfl rfl ?_
        have hcr := h_13.2.2
        rw [show I2 1 5 = Ia 1 5 from r1_5_I2] at hcr
        have hl_21 : ∀ (n_21 : Nat) (wo : Int) (w : Int), (Ia 1 6 - w).toNat = n_21 → ((0 ≤ w ∧ w ≤ Ia 1 6) ∧ (-1 ≤ wo ∧ wo ≤ 7)) → WW X 21 [some (kR (some 18)), some (kI sa), some (kI i), some (kI wo), some (kI w)] [] I_13 J_13 Ra Sa 0 0 := by
          intro n_21
          induction n_21 using Nat.strongRecOn with
          | ind n_21 ih_21 =>
            intro wo w hm_21 hv_21
            have hq_21 := Sh0_i hm_21
            clear hm_21
            obtain ⟨hw, hwo⟩ := hv_21
            refine ww_iload hX (pc := 21) dX4_findFailing_21 rfl ?_
            refine ww_aload_n hX (pc := 23) dX4_findFailing_23 rfl ?_
            refine ww_getR hX (pc := 24) fX4_47 (by decide) (xs_18 hL) (xr_18_0 hL) dX4_findFailing_24 ?_
            refine ww_getI hX (pc := 27) fX4_83 (by decide) (xs_1 hL) dX4_findFailing_27 ?_
            refine ww_icmp_ge hX (pc := 30) (tgt := 85) dX4_findFailing_30 (by decide) (fun h_30 => ?_) (fun h_30 => ?_)
            · simp only [w32_mod] at h_30
              refine ww_iload_n hX (pc := 85) dX4_findFailing_85 rfl ?_
              refine ww_iconst hX (pc := 86) (x := (-1)) dX4_findFailing_86 rfl ?_
              refine ww_icmp_ne hX (pc := 87) (tgt := 92) dX4_findFailing_87 (by decide) (fun h_87 => ?_) (fun h_87 => ?_)
              · simp only [w32_mod] at h_87
                refine ww_aload_n hX (pc := 92) dX4_findFailing_92 rfl ?_
                refine ww_getR hX (pc := 93) fX4_15 (by decide) (xs_18 hL) (xr_18_2 hL) dX4_findFailing_93 ?_
                refine ww_iload_n hX (pc := 96) dX4_findFailing_96 rfl ?_
                refine ww_iload_n hX (pc := 97) dX4_findFailing_97 rfl ?_
                refine ww_iast hX (pc := 98) (xs_20 hL) (by decide) (by omega) (by omega) dX4_findFailing_98 ?_
                refine ww_nmH (fun I_98 eI_98 => ?_)
                have kI_98 : Kp 18 37 Ia I_98 := by rw [eI_98]; exact Kp_up kI_13 _ _ (by decide)
                have r1_5_I_98 : I_98 1 5 = Ia 1 5 := Kp_at kI_98 1 5 (by decide)
                have r1_6_I_98 : I_98 1 6 = Ia 1 6 := Kp_at kI_98 1 6 (by decide)
                have rf_I_98 : FU (I_98 1 5) = FU (Ia 1 5) := by rw [r1_5_I_98]
                have hc3 : I_98 21 = I_13 21 := by rw [eI_98]; exact up2_off _ _ _ (by decide)
                have hc4 := hcr wo.toNat (by omega)
                rw [← hc3] at hc4
                refine ww_aload_n hX (pc := 99) dX4_findFailing_99 rfl ?_
                refine ww_getR hX (pc := 100) fX4_18 (by decide) (xs_18 hL) (xr_18_3 hL) dX4_findFailing_100 ?_
                refine ww_iload_n hX (pc := 103) dX4_findFailing_103 rfl ?_
                refine ww_iald hX (pc := 104) (xs_21 hL) (by decide) (by omega) (by omega) dX4_findFailing_104 ?_
                refine ww_iconst hX (pc := 105) (x := (-1)) dX4_findFailing_105 rfl ?_
                refine ww_icmp_ne hX (pc := 106) (tgt := 113) dX4_findFailing_106 (by decide) (fun h_106 => ?_) (fun h_106 => ?_)
                · simp only [w32_mod] at h_106
                  refine ww_aload_n hX (pc := 113) dX4_findFailing_113 rfl ?_
                  refine ww_getR hX (pc := 114) fX4_18 (by decide) (xs_18 hL) (xr_18_3 hL) dX4_findFailing_114 ?_
                  refine ww_iload_n hX (pc := 117) dX4_findFailing_117 rfl ?_
                  refine ww_iald hX (pc := 118) (xs_21 hL) (by decide) (by omega) (by omega) dX4_findFailing_118 ?_
                  refine ww_nmI (fun v_119 hv_119 => ?_)
                  refine ww_istore_n hX (pc := 119) (lv' := [some (kR (some 18)), some (kI v_119), some (kI i), some (kI wo), some (kI w)]) dX4_findFailing_119 (by decide) rfl rfl ?_
                  refine ww_iinc hX (pc := 120) (lv' := [some (kR (some 18)), some (kI v_119), some (kI (i + 1)), some (kI wo), some (kI w)]) dX4_findFailing_120 rfl (by decide) rfl rfl ?_
                  refine ww_goto hX (pc := 123) (tgt := 4) dX4_findFailing_123 (by decide) ?_
                  refine ww_sub [some (kR (some 18)), some (kI v_119), some (kI (i + 1)), none, none] (aLe_s (aLe_s (aLe_s (aLe_n (aLe_n aLe_0))))) ?_
                  exact ih_4 _ (by have hm9 := Sh0_e hq_4; omega) v_119 (i + 1) I_98 J_13 rfl ⟨kI_98, kJ_13, ⟨by omega, by omega⟩, ⟨by omega, by omega⟩⟩
                · simp only [w32_mod] at h_106
                  refine ww_iload_n hX (pc := 109) dX4_findFailing_109 rfl ?_
                  refine ww_iconst hX (pc := 110) (x := 1) dX4_findFailing_110 rfl ?_
                  refine ww_iadd hX (pc := 111) dX4_findFailing_111 ?_
                  refine rI hX (pc := 112) hT (Nat.le_refl 0) (Nat.le_refl 0) dX4_findFailing_112 ?_
                  exact ⟨kI_98, kJ_13, by omega, by omega⟩
              · simp only [w32_mod] at h_87
                refine ww_iload_n hX (pc := 90) dX4_findFailing_90 rfl ?_
                refine rI hX (pc := 91) hT (Nat.le_refl 0) (Nat.le_refl 0) dX4_findFailing_91 ?_
                exact ⟨kI_13, kJ_13, by omega, by omega⟩
            · simp only [w32_mod] at h_30
              have hcd := (XI_kp hI kI_13 (by decide)).2.2.2.2.2.2.2.2.2.1 sa.toNat (by omega)
              refine ww_iload hX (pc := 33) dX4_findFailing_33 rfl ?_
              refine ww_aload_n hX (pc := 35) dX4_findFailing_35 rfl ?_
              refine ww_getR hX (pc := 36) fX4_47 (by decide) (xs_18 hL) (xr_18_0 hL) dX4_findFailing_36 ?_
              refine ww_getR hX (pc := 39) fX4_70 (by decide) (xs_1 hL) (xr_1_1 hL) dX4_findFailing_39 ?_
              refine ww_iload_n hX (pc := 42) dX4_findFailing_42 rfl ?_
              refine ww_iald hX (pc := 43) (xs_3 hL) (by decide) (by omega) (by omega) dX4_findFailing_43 ?_
              refine ww_icmp_eq hX (pc := 44) (tgt := 79) dX4_findFailing_44 (by decide) (fun h_44 => ?_) (fun h_44 => ?_)
              · simp only [w32_mod] at h_44
                refine ww_iinc hX (pc := 79) (lv' := [some (kR (some 18)), some (kI sa), some (kI i), some (kI wo), some (kI (w + 1))]) dX4_findFailing_79 rfl (by decide) rfl rfl ?_
                refine ww_goto hX (pc := 82) (tgt := 21) dX4_findFailing_82 (by decide) ?_
                exact ih_21 _ (by have hm9 := Sh0_e hq_21; omega) wo (w + 1) rfl ⟨⟨by omega, by omega⟩, ⟨by omega, by omega⟩⟩
              · simp only [w32_mod] at h_44
                refine ww_iload_n hX (pc := 47) dX4_findFailing_47 rfl ?_
                refine ww_iconst hX (pc := 48) (x := (-1)) dX4_findFailing_48 rfl ?_
                refine ww_icmp_eq hX (pc := 49) (tgt := 76) dX4_findFailing_49 (by decide) (fun h_49 => ?_) (fun h_49 => ?_)
                · simp only [w32_mod] at h_49
                  refine ww_iload hX (pc := 76) dX4_findFailing_76 rfl ?_
                  refine ww_istore_n hX (pc := 78) (lv' := [some (kR (some 18)), some (kI sa), some (kI i), some (kI w), some (kI w)]) dX4_findFailing_78 (by decide) rfl rfl ?_
                  refine ww_iinc hX (pc := 79) (lv' := [some (kR (some 18)), some (kI sa), some (kI i), some (kI w), some (kI (w + 1))]) dX4_findFailing_79 rfl (by decide) rfl rfl ?_
                  refine ww_goto hX (pc := 82) (tgt := 21) dX4_findFailing_82 (by decide) ?_
                  exact ih_21 _ (by have hm9 := Sh0_e hq_21; omega) w (w + 1) rfl ⟨⟨by omega, by omega⟩, ⟨by omega, by omega⟩⟩
                · simp only [w32_mod] at h_49
                  have hc1 := hcr w.toNat (by omega)
                  have hc2 := hcr wo.toNat (by omega)
                  refine ww_aload_n hX (pc := 52) dX4_findFailing_52 rfl ?_
                  refine ww_aload_n hX (pc := 53) dX4_findFailing_53 rfl ?_
                  refine ww_getR hX (pc := 54) fX4_18 (by decide) (xs_18 hL) (xr_18_3 hL) dX4_findFailing_54 ?_
                  refine ww_iload hX (pc := 57) dX4_findFailing_57 rfl ?_
                  refine ww_iald hX (pc := 59) (xs_21 hL) (by decide) (by omega) (by omega) dX4_findFailing_59 ?_
                  refine vI1 hX (pc := 60) sX4_127 (xs_18 hL) (c_X4_lastsBy l0 hL (XI_kp hI kI_13 (by decide)) (by omega) (by omega)) (by decide) (Nat.le_refl 0) (Nat.le_refl 0) (Nat.le_of_ble_eq_true rfl) dX4_findFailing_60 (fun x_60 I_60 J_60 h_60 => ?_)
                  obtain ⟨rfl, rfl, h_60⟩ := h_60
                  refine ww_aload_n hX (pc := 63) dX4_findFailing_63 rfl ?_
                  refine ww_aload_n hX (pc := 64) dX4_findFailing_64 rfl ?_
                  refine ww_getR hX (pc := 65) fX4_18 (by decide) (xs_18 hL) (xr_18_3 hL) dX4_findFailing_65 ?_
                  refine ww_iload_n hX (pc := 68) dX4_findFailing_68 rfl ?_
                  refine ww_iald hX (pc := 69) (xs_21 hL) (by decide) (by omega) (by omega) dX4_findFailing_69 ?_
                  refine vI1 hX (pc := 70) sX4_127 (xs_18 hL) (c_X4_lastsBy l0 hL (XI_kp hI kI_13 (by decide)) (by omega) (by omega)) (by decide) (Nat.le_refl 0) (Nat.le_refl 0) (Nat.le_of_ble_eq_true rfl) dX4_findFailing_70 (fun x_70 I_70 J_70 h_70 => ?_)
                  obtain ⟨rfl, rfl, h_70⟩ := h_70
                  refine ww_icmp_ge hX (pc := 73) (tgt := 79) dX4_findFailing_73 (by decide) (fun h_73 => ?_) (fun h_73 => ?_)
                  · simp only [w32_mod] at h_73
                    refine ww_iinc hX (pc := 79) (lv' := [some (kR (some 18)), some (kI sa), some (kI i), some (kI wo), some (kI (w + 1))]) dX4_findFailing_79 rfl (by decide) rfl rfl ?_
                    refine ww_goto hX (pc := 82) (tgt := 21) dX4_findFailing_82 (by decide) ?_
                    exact ih_21 _ (by have hm9 := Sh0_e hq_21; omega) wo (w + 1) rfl ⟨⟨by omega, by omega⟩, ⟨by omega, by omega⟩⟩
                  · simp only [w32_mod] at h_73
                    refine ww_iload hX (pc := 76) dX4_findFailing_76 rfl ?_
                    refine ww_istore_n hX (pc := 78) (lv' := [some (kR (some 18)), some (kI sa), some (kI i), some (kI w), some (kI w)]) dX4_findFailing_78 (by decide) rfl rfl ?_
                    refine ww_iinc hX (pc := 79) (lv' := [some (kR (some 18)), some (kI sa), some (kI i), some (kI w), some (kI (w + 1))]) dX4_findFailing_79 rfl (by decide) rfl rfl ?_
                    refine ww_goto hX (pc := 82) (tgt := 21) dX4_findFailing_82 (by decide) ?_
                    exact ih_21 _ (by have hm9 := Sh0_e hq_21; omega) w (w + 1) rfl ⟨⟨by omega, by omega⟩, ⟨by omega, by omega⟩⟩
        exact hl_21 _ (-1) 0 rfl ⟨⟨by omega, by omega⟩, ⟨by omega, by omega⟩⟩
  exact hl_4 _ 0 0 Ia Ja rfl ⟨(Kp_rf (a := 18) (b := 37)), (Kp_rf (a := 18) (b := 37)), ⟨by omega, by omega⟩, ⟨by omega, by omega⟩⟩
set_option maxHeartbeats 4000000 in
set_option maxRecDepth 20000 in
theorem c_X4_firstDoubt (l0 : Launch) {Ia Ja : aI1} {Ra : aR1} {Sa : aS1} (hL : LY Ra Sa) (hI : XI Ia) {a b : Int} (ha0 : 0 ≤ a) (ha1 : a ≤ 255) (hb0 : 0 ≤ b) (hb1 : b ≤ 255)  : CT l0 2 0 0 mX4_firstDoubt [kR (some 18), kI a, kI b] Ia Ja Ra Sa (cI (fun x I' J' => Kp 18 37 Ia I' ∧ Kp 18 37 Ja J' ∧ 0 ≤ x ∧ x ≤ 9) Ra Sa) := by
  refine ct_in pn_X4 (Nat.le_of_ble_eq_true rfl) (fun X hX hT hIn => ?_)
  have hX : aK l0 X cX4_firstDoubt 5 RX4 (some .int) 2 0 0 := hX
  change WW X 0 [some (kR (some 18)), some (kI a), some (kI b), none, none] [] Ia Ja Ra Sa 0 0
  obtain ⟨hn1, hn2⟩ := hI.1
  obtain ⟨hk1, hk2⟩ := hI.2.1
  obtain ⟨hf1, hf2⟩ := hI.fu
  refine ww_aload_n hX (pc := 0) dX4_firstDoubt_0 rfl ?_
  refine ww_getR hX (pc := 1) fX4_40 (by decide) (xs_18 hL) (xr_18_8 hL) dX4_firstDoubt_1 ?_
  refine ww_iconst hX (pc := 4) (x := 0) dX4_firstDoubt_4 rfl ?_
  refine sV2 hX (pc := 5) sX4_106 (c_J7_fill_53178 l0 (xs_30 hL) (by decide)) (by decide) (Nat.le_refl 0) (Nat.le_refl 0) (Nat.le_of_ble_eq_true rfl) dX4_firstDoubt_5 (fun I_5 J_5 h_5 => ?_)
  obtain ⟨rfl, eI_5⟩ := h_5
  have kI_5 : Kp 18 37 Ia I_5 := by rw [eI_5]; exact Kp_upR (Kp_rf (a := 18) (b := 37)) _ (by decide)
  have r1_5_I_5 : I_5 1 5 = Ia 1 5 := Kp_at kI_5 1 5 (by decide)
  have r1_6_I_5 : I_5 1 6 = Ia 1 6 := Kp_at kI_5 1 6 (by decide)
  have rf_I_5 : FU (I_5 1 5) = FU (Ia 1 5) := by rw [r1_5_I_5]
  refine ww_iload_n hX (pc := 8) dX4_firstDoubt_8 rfl ?_
  refine ww_istore_n hX (pc := 9) (lv' := [some (kR (some 18)), some (kI a), some (kI b), some (kI a), none]) dX4_firstDoubt_9 (by decide) rfl rfl ?_
  have hl_10 : ∀ (n_10 : Nat) (to : Int) (I2 : aI1) (J2 : aI1), (b + 1 - to).toNat = n_10 → (Kp 18 37 Ia I2 ∧ Kp 18 37 Ja J2 ∧ (0 ≤ to ∧ to < 2147483648)) → WW X 10 [some (kR (some 18)), some (kI a), some (kI b), some (kI to), none] [] I2 J2 Ra Sa 0 0 := by
    intro n_10
    induction n_10 using Nat.strongRecOn with
    | ind n_10 ih_10 =>
      intro to I2 J2 hm_10 hv_10
      have hq_10 := Sh0_i hm_10
      clear hm_10
      obtain ⟨kI2, kJ2, hto⟩ := hv_10
      have r1_5_I2 : I2 1 5 = Ia 1 5 := Kp_at kI2 1 5 (by decide)
      have r1_6_I2 : I2 1 6 = Ia 1 6 := Kp_at kI2 1 6 (by decide)
      have rf_I2 : FU (I2 1 5) = FU (Ia 1 5) := by rw [r1_5_I2]
      refine ww_iload_n hX (pc := 10) dX4_firstDoubt_10 rfl ?_
      refine ww_iload_n hX (pc := 11) dX4_firstDoubt_11 rfl ?_
      refine ww_icmp_gt hX (pc := 12) (tgt := 46) dX4_firstDoubt_12 (by decide) (fun h_12 => ?_) (fun h_12 => ?_)
      · simp only [w32_mod] at h_12
        refine ww_iconst hX (pc := 46) (x := 0) dX4_firstDoubt_46 rfl ?_
        refine ww_istore_n hX (pc := 47) (lv' := [some (kR (some 18)), some (kI a), some (kI b), some (kI 0), none]) dX4_firstDoubt_47 (by decide) rfl rfl ?_
        refine ww_iconst hX (pc := 48) (x := 0) dX4_firstDoubt_48 rfl ?_
        refine ww_istore hX (pc := 49) (lv' := [some (kR (some 18)), some (kI a), some (kI b), some (kI 0), some (kI 0)]) dX4_firstDoubt_49 (by decide) rfl rfl ?_
        have hl_51 : ∀ (n_51 : Nat) (bt : Int) (ms9 : Int), (9 - ms9).toNat = n_51 → (0 ≤ ms9 ∧ ms9 ≤ 9) → WW X 51 [some (kR (some 18)), some (kI a), some (kI b), some (kI bt), some (kI ms9)] [] I2 J2 Ra Sa 0 0 := by
          intro n_51
          induction n_51 using Nat.strongRecOn with
          | ind n_51 ih_51 =>
            intro bt ms9 hm_51 hv_51
            have hq_51 := Sh0_i hm_51
            clear hm_51
            obtain ⟨hm0, hm1⟩ := hv_51
            refine ww_iload hX (pc := 51) dX4_firstDoubt_51 rfl ?_
            refine ww_bipush hX (pc := 53) (x := 8) dX4_firstDoubt_53 (by decide) ?_
            refine ww_icmp_gt hX (pc := 55) (tgt := 85) dX4_firstDoubt_55 (by decide) (fun h_55 => ?_) (fun h_55 => ?_)
            · simp only [w32_mod] at h_55
              refine ww_bipush hX (pc := 85) (x := 9) dX4_firstDoubt_85 (by decide) ?_
              refine rI hX (pc := 87) hT (Nat.le_refl 0) (Nat.le_refl 0) dX4_firstDoubt_87 ?_
              exact ⟨kI2, kJ2, by omega, by omega⟩
            · simp only [w32_mod] at h_55
              refine ww_iload_n hX (pc := 58) dX4_firstDoubt_58 rfl ?_
              refine ww_aload_n hX (pc := 59) dX4_firstDoubt_59 rfl ?_
              refine ww_getR hX (pc := 60) fX4_40 (by decide) (xs_18 hL) (xr_18_8 hL) dX4_firstDoubt_60 ?_
              refine ww_iload hX (pc := 63) dX4_firstDoubt_63 rfl ?_
              refine ww_iald hX (pc := 65) (xs_30 hL) (by decide) (by omega) (by omega) dX4_firstDoubt_65 ?_
              refine ww_ior hX (pc := 66) dX4_firstDoubt_66 ?_
              refine ww_nmI (fun v_67 hv_67 => ?_)
              refine ww_istore_n hX (pc := 67) (lv' := [some (kR (some 18)), some (kI a), some (kI b), some (kI v_67), some (kI ms9)]) dX4_firstDoubt_67 (by decide) rfl rfl ?_
              refine ww_iload_n hX (pc := 68) dX4_firstDoubt_68 rfl ?_
              refine sI1 hX (pc := 69) sX4_138 (c_J6_bitCount_0f7a4 l0) (by decide) (Nat.le_refl 0) (Nat.le_refl 0) (Nat.le_of_ble_eq_true rfl) dX4_firstDoubt_69 (fun x_69 I_69 J_69 h_69 => ?_)
              obtain ⟨rfl, rfl, h_69⟩ := h_69
              refine ww_iconst hX (pc := 72) (x := 1) dX4_firstDoubt_72 rfl ?_
              refine ww_icmp_le hX (pc := 73) (tgt := 79) dX4_firstDoubt_73 (by decide) (fun h_73 => ?_) (fun h_73 => ?_)
              · simp only [w32_mod] at h_73
                refine ww_iinc hX (pc := 79) (lv' := [some (kR (some 18)), some (kI a), some (kI b), some (kI v_67), some (kI (ms9 + 1))]) dX4_firstDoubt_79 rfl (by decide) rfl rfl ?_
                refine ww_goto hX (pc := 82) (tgt := 51) dX4_firstDoubt_82 (by decide) ?_
                exact ih_51 _ (by have hm9 := Sh0_e hq_51; omega) v_67 (ms9 + 1) rfl ⟨by omega, by omega⟩
              · simp only [w32_mod] at h_73
                refine ww_iload hX (pc := 76) dX4_firstDoubt_76 rfl ?_
                refine rI hX (pc := 78) hT (Nat.le_refl 0) (Nat.le_refl 0) dX4_firstDoubt_78 ?_
                exact ⟨kI2, kJ2, by omega, by omega⟩
        exact hl_51 _ 0 0 rfl ⟨by omega, by omega⟩
      · simp only [w32_mod] at h_12
        have hxr := i_xor_256 (a := to) (b := a) (by omega) (by omega) (by omega) (by omega)
        have hbc := bc_r hxr.1 hxr.2
        refine ww_aload_n hX (pc := 15) dX4_firstDoubt_15 rfl ?_
        refine ww_getR hX (pc := 16) fX4_40 (by decide) (xs_18 hL) (xr_18_8 hL) dX4_firstDoubt_16 ?_
        refine ww_iload_n hX (pc := 19) dX4_firstDoubt_19 rfl ?_
        refine ww_iload_n hX (pc := 20) dX4_firstDoubt_20 rfl ?_
        refine ww_ixor hX (pc := 21) dX4_firstDoubt_21 ?_
        refine sI1 hX (pc := 22) sX4_138 (c_J6_bitCount_0f7a4 l0) (by decide) (Nat.le_refl 0) (Nat.le_refl 0) (Nat.le_of_ble_eq_true rfl) dX4_firstDoubt_22 (fun x_22 I_22 J_22 h_22 => ?_)
        obtain ⟨rfl, rfl, h_22⟩ := h_22
        refine ww_dup2 hX (pc := 25) dX4_firstDoubt_25 ?_
        refine ww_iald hX (pc := 26) (xs_30 hL) (by decide) (by omega) (by omega) dX4_firstDoubt_26 ?_
        refine ww_aload_n hX (pc := 27) dX4_firstDoubt_27 rfl ?_
        refine ww_getR hX (pc := 28) fX4_47 (by decide) (xs_18 hL) (xr_18_0 hL) dX4_firstDoubt_28 ?_
        refine ww_iload_n hX (pc := 31) dX4_firstDoubt_31 rfl ?_
        refine vI1 hX (pc := 32) sX4_143 (xs_1 hL) (c_X1_newsBit l0 hL (XI_kp hI kI2 (by decide)) (by omega) (by omega)) (by decide) (Nat.le_refl 0) (Nat.le_refl 0) (Nat.le_of_ble_eq_true rfl) dX4_firstDoubt_32 (fun x_32 I_32 J_32 h_32 => ?_)
        obtain ⟨rfl, rfl, h_32⟩ := h_32
        refine ww_ior hX (pc := 35) dX4_firstDoubt_35 ?_
        refine ww_iast hX (pc := 36) (xs_30 hL) (by decide) (by omega) (by omega) dX4_firstDoubt_36 ?_
        refine ww_nmH (fun I_36 eI_36 => ?_)
        have kI_36 : Kp 18 37 Ia I_36 := by rw [eI_36]; exact Kp_up kI2 _ _ (by decide)
        have r1_5_I_36 : I_36 1 5 = Ia 1 5 := Kp_at kI_36 1 5 (by decide)
        have r1_6_I_36 : I_36 1 6 = Ia 1 6 := Kp_at kI_36 1 6 (by decide)
        have rf_I_36 : FU (I_36 1 5) = FU (Ia 1 5) := by rw [r1_5_I_36]
        refine ww_iload_n hX (pc := 37) dX4_firstDoubt_37 rfl ?_
        refine ww_iconst hX (pc := 38) (x := 1) dX4_firstDoubt_38 rfl ?_
        refine ww_iadd hX (pc := 39) dX4_firstDoubt_39 ?_
        refine ww_iload_n hX (pc := 40) dX4_firstDoubt_40 rfl ?_
        refine ww_ior hX (pc := 41) dX4_firstDoubt_41 ?_
        refine ww_nmI (fun v_42 hv_42 => ?_)
        refine ww_istore_n hX (pc := 42) (lv' := [some (kR (some 18)), some (kI a), some (kI b), some (kI v_42), none]) dX4_firstDoubt_42 (by decide) rfl rfl ?_
        refine ww_goto hX (pc := 43) (tgt := 10) dX4_firstDoubt_43 (by decide) ?_
        have hor := i_or_ge (a := to + 1) (b := a) (by omega) (by omega) (by omega) (by omega)
        exact ih_10 _ (by have hm9 := Sh0_e hq_10; omega) v_42 I_36 J2 rfl ⟨kI_36, kJ2, ⟨by omega, by omega⟩⟩
  exact hl_10 _ a I_5 Ja rfl ⟨kI_5, (Kp_rf (a := 18) (b := 37)), ⟨by omega, by omega⟩⟩
set_option maxHeartbeats 4000000 in
set_option maxRecDepth 20000 in
theorem c_X4_findSafe (l0 : Launch) {Ia Ja : aI1} {Ra : aR1} {Sa : aS1} (hL : LY Ra Sa) (hI : XI Ia)  : CT l0 3 0 0 mX4_findSafe [kR (some 18)] Ia Ja Ra Sa (cI (fun x I' J' => Kp 18 37 Ia I' ∧ Kp 18 37 Ja J' ∧ True) Ra Sa) := by
  refine ct_in pn_X4 (Nat.le_of_ble_eq_true rfl) (fun X hX hT hIn => ?_)
  have hX : aK l0 X cX4_findSafe 4 RX4 (some .int) 3 0 0 := hX
  change WW X 0 [some (kR (some 18)), none, none, none] [] Ia Ja Ra Sa 0 0
  obtain ⟨hn1, hn2⟩ := hI.1
  obtain ⟨hk1, hk2⟩ := hI.2.1
  obtain ⟨hf1, hf2⟩ := hI.fu
  refine ww_aload_n hX (pc := 0) dX4_findSafe_0 rfl ?_
  refine ww_getR hX (pc := 1) fX4_47 (by decide) (xs_18 hL) (xr_18_0 hL) dX4_findSafe_1 ?_
  refine vI0 hX (pc := 4) sX4_75 (xs_1 hL) (c_X1_full l0 hL hI) (by decide) (Nat.le_refl 0) (Nat.le_refl 0) (Nat.le_of_ble_eq_true rfl) dX4_findSafe_4 (fun x_4 I_4 J_4 h_4 => ?_)
  obtain ⟨rfl, rfl, h_4⟩ := h_4
  refine ww_istore_n hX (pc := 7) (lv' := [some (kR (some 18)), some (kI x_4), none, none]) dX4_findSafe_7 (by decide) rfl rfl ?_
  refine ww_bipush hX (pc := 8) (x := 8) dX4_findSafe_8 (by decide) ?_
  refine ww_istore_n hX (pc := 10) (lv' := [some (kR (some 18)), some (kI x_4), some (kI 8), none]) dX4_findSafe_10 (by decide) rfl rfl ?_
  refine ww_iconst hX (pc := 11) (x := 0) dX4_findSafe_11 rfl ?_
  refine ww_istore_n hX (pc := 12) (lv' := [some (kR (some 18)), some (kI x_4), some (kI 8), some (kI 0)]) dX4_findSafe_12 (by decide) rfl rfl ?_
  have hl_13 : ∀ (n_13 : Nat) (sf : Int) (q : Int) (I2 : aI1) (J2 : aI1), (x_4 + 1 - q).toNat = n_13 → (Kp 18 37 Ia I2 ∧ Kp 18 37 Ja J2 ∧ (0 ≤ q ∧ q ≤ x_4 + 1)) → WW X 13 [some (kR (some 18)), some (kI x_4), some (kI sf), some (kI q)] [] I2 J2 Ra Sa 0 0 := by
    intro n_13
    induction n_13 using Nat.strongRecOn with
    | ind n_13 ih_13 =>
      intro sf q I2 J2 hm_13 hv_13
      have hq_13 := Sh0_i hm_13
      clear hm_13
      obtain ⟨kI2, kJ2, hq⟩ := hv_13
      have r1_5_I2 : I2 1 5 = Ia 1 5 := Kp_at kI2 1 5 (by decide)
      have r1_6_I2 : I2 1 6 = Ia 1 6 := Kp_at kI2 1 6 (by decide)
      have rf_I2 : FU (I2 1 5) = FU (Ia 1 5) := by rw [r1_5_I2]
      refine ww_iload_n hX (pc := 13) dX4_findSafe_13 rfl ?_
      refine ww_iload_n hX (pc := 14) dX4_findSafe_14 rfl ?_
      refine ww_icmp_gt hX (pc := 15) (tgt := 37) dX4_findSafe_15 (by decide) (fun h_15 => ?_) (fun h_15 => ?_)
      · simp only [w32_mod] at h_15
        refine ww_iload_n hX (pc := 37) dX4_findSafe_37 rfl ?_
        refine rI hX (pc := 38) hT (Nat.le_refl 0) (Nat.le_refl 0) dX4_findSafe_38 ?_
        exact ⟨kI2, kJ2, trivial⟩
      · simp only [w32_mod] at h_15
        refine ww_iload_n hX (pc := 18) dX4_findSafe_18 rfl ?_
        refine ww_aload_n hX (pc := 19) dX4_findSafe_19 rfl ?_
        refine ww_iload_n hX (pc := 20) dX4_findSafe_20 rfl ?_
        refine ww_iload_n hX (pc := 21) dX4_findSafe_21 rfl ?_
        refine vI2 hX (pc := 22) sX4_131 (xs_18 hL) (c_X4_firstDoubt l0 hL (XI_kp hI kI2 (by decide)) (by omega) (by omega) (by omega) (by omega)) (by decide) (Nat.le_refl 0) (Nat.le_refl 0) (Nat.le_of_ble_eq_true rfl) dX4_findSafe_22 (fun x_22 I_22 J_22 h_22 => ?_)
        have kI_22 : Kp 18 37 Ia I_22 := Kp_tr kI2 (Kp_wd h_22.1 (by decide) (by decide))
        have kJ_22 : Kp 18 37 Ja J_22 := Kp_tr kJ2 (Kp_wd h_22.2.1 (by decide) (by decide))
        have r1_5_I_22 : I_22 1 5 = Ia 1 5 := Kp_at kI_22 1 5 (by decide)
        have r1_6_I_22 : I_22 1 6 = Ia 1 6 := Kp_at kI_22 1 6 (by decide)
        have rf_I_22 : FU (I_22 1 5) = FU (Ia 1 5) := by rw [r1_5_I_22]
        refine ww_iconst hX (pc := 25) (x := 1) dX4_findSafe_25 rfl ?_
        refine ww_isub hX (pc := 26) dX4_findSafe_26 ?_
        refine ww_mmin hX (pc := 27) tb_984 tb_579 tb_13 tb_580 (by decide) (Nat.le_refl 0) (Nat.le_refl 0) (Nat.le_of_ble_eq_true rfl) dX4_findSafe_27 ?_
        refine ww_nmI (fun v_30 hv_30 => ?_)
        refine ww_istore_n hX (pc := 30) (lv' := [some (kR (some 18)), some (kI x_4), some (kI v_30), some (kI q)]) dX4_findSafe_30 (by decide) rfl rfl ?_
        refine ww_iinc hX (pc := 31) (lv' := [some (kR (some 18)), some (kI x_4), some (kI v_30), some (kI (q + 1))]) dX4_findSafe_31 rfl (by decide) rfl rfl ?_
        refine ww_goto hX (pc := 34) (tgt := 13) dX4_findSafe_34 (by decide) ?_
        exact ih_13 _ (by have hm9 := Sh0_e hq_13; omega) v_30 (q + 1) I_22 J_22 rfl ⟨kI_22, kJ_22, ⟨by omega, by omega⟩⟩
  exact hl_13 _ 8 0 Ia Ja rfl ⟨(Kp_rf (a := 18) (b := 37)), (Kp_rf (a := 18) (b := 37)), ⟨by omega, by omega⟩⟩
