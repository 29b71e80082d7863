/-! the class's Asker: what is asked of a STATE -/
theorem bc_on : ∀ s : Nat, s < 256 → bc (s : Int) = zOn (s : Int) 16 := by decide +kernel
theorem bc_zOn {s : Int} (h0 : 0 ≤ s) (h1 : s < 256) : bc s = zOn s 16 := by
  have h := bc_on s.toNat (by omega)
  rw [show ((s.toNat : Nat) : Int) = s by omega] at h
  exact h
set_option maxHeartbeats 4000000 in
set_option maxRecDepth 20000 in
theorem c6_X0_fillWords (l0 : Launch) {Ia Ja : aI1} {Ra : aR1} {Sa : aS1} (hL : LY Ra Sa) (hI : XI Ia) {a : Int} (ha0 : 0 ≤ a) (ha1 : a < 256)  : CT l0 1 0 0 mX0_fillWords [kR (some 15), kR (some 1), kI a] Ia Ja Ra Sa (cV (fun I' J' => Kp 15 18 Ia I' ∧ Kp 15 18 Ja J' ∧ ∀ j, j < 8 → I' 16 j = zEn a (Ia 1 5) (Ia 1 6) j) Ra Sa) := by
  refine ct_in pn_X0 (Nat.le_of_ble_eq_true rfl) (fun X hX hT hIn => ?_)
  have hX : aK l0 X cX0_fillWords 8 RX0 none 1 0 0 := hX
  change WW X 0 [some (kR (some 15)), some (kR (some 1)), some (kI a), none, none, none, none, none] [] Ia Ja Ra Sa 0 0
  obtain ⟨hn1, hn2⟩ := hI.1
  obtain ⟨hk1, hk2⟩ := hI.2.1
  obtain ⟨hf1, hf2⟩ := hI.fu
  refine ww_iconst hX (pc := 0) (x := 0) dX0_fillWords_0 rfl ?_
  refine ww_istore_n hX (pc := 1) (lv' := [some (kR (some 15)), some (kR (some 1)), some (kI a), some (kI 0), none, none, none, none]) dX0_fillWords_1 (by decide) rfl rfl ?_
  refine ww_iconst hX (pc := 2) (x := 0) dX0_fillWords_2 rfl ?_
  refine ww_istore hX (pc := 3) (lv' := [some (kR (some 15)), some (kR (some 1)), some (kI a), some (kI 0), some (kI 0), none, none, none]) dX0_fillWords_3 (by decide) rfl rfl ?_
  refine ww_iconst hX (pc := 5) (x := (-1)) dX0_fillWords_5 rfl ?_
  refine ww_istore hX (pc := 6) (lv' := [some (kR (some 15)), some (kR (some 1)), some (kI a), some (kI 0), some (kI 0), some (kI (-1)), none, none]) dX0_fillWords_6 (by decide) rfl rfl ?_
  refine ww_iconst hX (pc := 8) (x := (-1)) dX0_fillWords_8 rfl ?_
  refine ww_istore hX (pc := 9) (lv' := [some (kR (some 15)), some (kR (some 1)), some (kI a), some (kI 0), some (kI 0), some (kI (-1)), some (kI (-1)), none]) dX0_fillWords_9 (by decide) rfl rfl ?_
  refine ww_iconst hX (pc := 11) (x := 0) dX0_fillWords_11 rfl ?_
  refine ww_istore hX (pc := 12) (lv' := [some (kR (some 15)), some (kR (some 1)), some (kI a), some (kI 0), some (kI 0), some (kI (-1)), some (kI (-1)), some (kI 0)]) dX0_fillWords_12 (by decide) rfl rfl ?_
  have hl_14 : ∀ (n_14 : Nat) (s1 : Int) (s2 : Int) (s3 : Int) (s4 : Int) (la : Int), (Ia 1 5 - la).toNat = n_14 → ((0 ≤ la ∧ la ≤ Ia 1 5) ∧ zAQ a la s1 s2 s3 s4) → WW X 14 [some (kR (some 15)), some (kR (some 1)), some (kI a), some (kI s1), some (kI s2), some (kI s3), some (kI s4), some (kI la)] [] Ia Ja Ra Sa 0 0 := by
    intro n_14
    induction n_14 using Nat.strongRecOn with
    | ind n_14 ih_14 =>
      intro s1 s2 s3 s4 la hm_14 hv_14
      have hq_14 := Sh0_i hm_14
      clear hm_14
      obtain ⟨⟨hla0, hla1⟩, hq⟩ := hv_14
      have hqb := zAQ_b hq (by omega)
      refine ww_iload hX (pc := 14) dX0_fillWords_14 rfl ?_
      refine ww_aload_n hX (pc := 16) dX0_fillWords_16 rfl ?_
      refine ww_getI hX (pc := 17) fX0_64 (by decide) (xs_1 hL) dX0_fillWords_17 ?_
      refine ww_icmp_ge hX (pc := 20) (tgt := 74) dX0_fillWords_20 (by decide) (fun h_20 => ?_) (fun h_20 => ?_)
      · simp only [w32_mod] at h_20
        refine ww_aload_n hX (pc := 74) dX0_fillWords_74 rfl ?_
        refine ww_getR hX (pc := 75) fX0_11 (by decide) (xs_15 hL) (xr_15_0 hL) dX0_fillWords_75 ?_
        refine ww_iconst hX (pc := 78) (x := 0) dX0_fillWords_78 rfl ?_
        refine ww_iload_n hX (pc := 79) dX0_fillWords_79 rfl ?_
        refine ww_iast hX (pc := 80) (xs_16 hL) (by decide) (by omega) (by omega) dX0_fillWords_80 ?_
        refine ww_nmH (fun I_80 eI_80 => ?_)
        have kI_80 : Kp 15 18 Ia I_80 := by rw [eI_80]; exact Kp_up (Kp_rf (a := 15) (b := 18)) _ _ (by decide)
        have r1_5_I_80 : I_80 1 5 = Ia 1 5 := Kp_at kI_80 1 5 (by decide)
        have r1_6_I_80 : I_80 1 6 = Ia 1 6 := Kp_at kI_80 1 6 (by decide)
        have rf_I_80 : FU (I_80 1 5) = FU (Ia 1 5) := by rw [r1_5_I_80]
        have g80_0 : I_80 16 0 = a := by rw [eI_80]; exact up2_s ..
        refine ww_aload_n hX (pc := 81) dX0_fillWords_81 rfl ?_
        refine ww_getR hX (pc := 82) fX0_11 (by decide) (xs_15 hL) (xr_15_0 hL) dX0_fillWords_82 ?_
        refine ww_iconst hX (pc := 85) (x := 1) dX0_fillWords_85 rfl ?_
        refine ww_iload_n hX (pc := 86) dX0_fillWords_86 rfl ?_
        refine sI1 hX (pc := 87) sX0_67 (c_J6_bitCount_0f7a4 l0) (by decide) (Nat.le_refl 0) (Nat.le_refl 0) (Nat.le_of_ble_eq_true rfl) dX0_fillWords_87 (fun x_87 I_87 J_87 h_87 => ?_)
        obtain ⟨rfl, rfl, h_87⟩ := h_87
        refine ww_iast hX (pc := 90) (xs_16 hL) (by decide) (by omega) (by omega) dX0_fillWords_90 ?_
        refine ww_nmH (fun I_90 eI_90 => ?_)
        have kI_90 : Kp 15 18 Ia I_90 := by rw [eI_90]; exact Kp_up kI_80 _ _ (by decide)
        have r1_5_I_90 : I_90 1 5 = Ia 1 5 := Kp_at kI_90 1 5 (by decide)
        have r1_6_I_90 : I_90 1 6 = Ia 1 6 := Kp_at kI_90 1 6 (by decide)
        have rf_I_90 : FU (I_90 1 5) = FU (Ia 1 5) := by rw [r1_5_I_90]
        have g90_1 : I_90 16 1 = zOn a 16 := by rw [eI_90]; exact (up2_s ..).trans (h_87.trans (bc_zOn ha0 ha1))
        have g90_0 : I_90 16 0 = a := by rw [eI_90, up2_n _ _ (Or.inr (by decide))]; exact g80_0
        refine ww_aload_n hX (pc := 91) dX0_fillWords_91 rfl ?_
        refine ww_getR hX (pc := 92) fX0_11 (by decide) (xs_15 hL) (xr_15_0 hL) dX0_fillWords_92 ?_
        refine ww_iconst hX (pc := 95) (x := 2) dX0_fillWords_95 rfl ?_
        refine ww_iload_n hX (pc := 96) dX0_fillWords_96 rfl ?_
        refine ww_iast hX (pc := 97) (xs_16 hL) (by decide) (by omega) (by omega) dX0_fillWords_97 ?_
        refine ww_nmH (fun I_97 eI_97 => ?_)
        have kI_97 : Kp 15 18 Ia I_97 := by rw [eI_97]; exact Kp_up kI_90 _ _ (by decide)
        have r1_5_I_97 : I_97 1 5 = Ia 1 5 := Kp_at kI_97 1 5 (by decide)
        have r1_6_I_97 : I_97 1 6 = Ia 1 6 := Kp_at kI_97 1 6 (by decide)
        have rf_I_97 : FU (I_97 1 5) = FU (Ia 1 5) := by rw [r1_5_I_97]
        have g97_2 : I_97 16 2 = s1 := by rw [eI_97]; exact up2_s ..
        have g97_0 : I_97 16 0 = a := by rw [eI_97, up2_n _ _ (Or.inr (by decide))]; exact g90_0
        have g97_1 : I_97 16 1 = zOn a 16 := by rw [eI_97, up2_n _ _ (Or.inr (by decide))]; exact g90_1
        refine ww_aload_n hX (pc := 98) dX0_fillWords_98 rfl ?_
        refine ww_getR hX (pc := 99) fX0_11 (by decide) (xs_15 hL) (xr_15_0 hL) dX0_fillWords_99 ?_
        refine ww_iconst hX (pc := 102) (x := 3) dX0_fillWords_102 rfl ?_
        refine ww_iload hX (pc := 103) dX0_fillWords_103 rfl ?_
        refine ww_iast hX (pc := 105) (xs_16 hL) (by decide) (by omega) (by omega) dX0_fillWords_105 ?_
        refine ww_nmH (fun I_105 eI_105 => ?_)
        have kI_105 : Kp 15 18 Ia I_105 := by rw [eI_105]; exact Kp_up kI_97 _ _ (by decide)
        have r1_5_I_105 : I_105 1 5 = Ia 1 5 := Kp_at kI_105 1 5 (by decide)
        have r1_6_I_105 : I_105 1 6 = Ia 1 6 := Kp_at kI_105 1 6 (by decide)
        have rf_I_105 : FU (I_105 1 5) = FU (Ia 1 5) := by rw [r1_5_I_105]
        have g105_3 : I_105 16 3 = s2 := by rw [eI_105]; exact up2_s ..
        have g105_0 : I_105 16 0 = a := by rw [eI_105, up2_n _ _ (Or.inr (by decide))]; exact g97_0
        have g105_1 : I_105 16 1 = zOn a 16 := by rw [eI_105, up2_n _ _ (Or.inr (by decide))]; exact g97_1
        have g105_2 : I_105 16 2 = s1 := by rw [eI_105, up2_n _ _ (Or.inr (by decide))]; exact g97_2
        refine ww_aload_n hX (pc := 106) dX0_fillWords_106 rfl ?_
        refine ww_getR hX (pc := 107) fX0_11 (by decide) (xs_15 hL) (xr_15_0 hL) dX0_fillWords_107 ?_
        refine ww_iconst hX (pc := 110) (x := 4) dX0_fillWords_110 rfl ?_
        refine ww_iload hX (pc := 111) dX0_fillWords_111 rfl ?_
        refine ww_iast hX (pc := 113) (xs_16 hL) (by decide) (by omega) (by omega) dX0_fillWords_113 ?_
        refine ww_nmH (fun I_113 eI_113 => ?_)
        have kI_113 : Kp 15 18 Ia I_113 := by rw [eI_113]; exact Kp_up kI_105 _ _ (by decide)
        have r1_5_I_113 : I_113 1 5 = Ia 1 5 := Kp_at kI_113 1 5 (by decide)
        have r1_6_I_113 : I_113 1 6 = Ia 1 6 := Kp_at kI_113 1 6 (by decide)
        have rf_I_113 : FU (I_113 1 5) = FU (Ia 1 5) := by rw [r1_5_I_113]
        have g113_4 : I_113 16 4 = s3 := by rw [eI_113]; exact up2_s ..
        have g113_0 : I_113 16 0 = a := by rw [eI_113, up2_n _ _ (Or.inr (by decide))]; exact g105_0
        have g113_1 : I_113 16 1 = zOn a 16 := by rw [eI_113, up2_n _ _ (Or.inr (by decide))]; exact g105_1
        have g113_2 : I_113 16 2 = s1 := by rw [eI_113, up2_n _ _ (Or.inr (by decide))]; exact g105_2
        have g113_3 : I_113 16 3 = s2 := by rw [eI_113, up2_n _ _ (Or.inr (by decide))]; exact g105_3
        refine ww_aload_n hX (pc := 114) dX0_fillWords_114 rfl ?_
        refine ww_getR hX (pc := 115) fX0_11 (by decide) (xs_15 hL) (xr_15_0 hL) dX0_fillWords_115 ?_
        refine ww_iconst hX (pc := 118) (x := 5) dX0_fillWords_118 rfl ?_
        refine ww_iload hX (pc := 119) dX0_fillWords_119 rfl ?_
        refine ww_iast hX (pc := 121) (xs_16 hL) (by decide) (by omega) (by omega) dX0_fillWords_121 ?_
        refine ww_nmH (fun I_121 eI_121 => ?_)
        have kI_121 : Kp 15 18 Ia I_121 := by rw [eI_121]; exact Kp_up kI_113 _ _ (by decide)
        have r1_5_I_121 : I_121 1 5 = Ia 1 5 := Kp_at kI_121 1 5 (by decide)
        have r1_6_I_121 : I_121 1 6 = Ia 1 6 := Kp_at kI_121 1 6 (by decide)
        have rf_I_121 : FU (I_121 1 5) = FU (Ia 1 5) := by rw [r1_5_I_121]
        have g121_5 : I_121 16 5 = s4 := by rw [eI_121]; exact up2_s ..
        have g121_0 : I_121 16 0 = a := by rw [eI_121, up2_n _ _ (Or.inr (by decide))]; exact g113_0
        have g121_1 : I_121 16 1 = zOn a 16 := by rw [eI_121, up2_n _ _ (Or.inr (by decide))]; exact g113_1
        have g121_2 : I_121 16 2 = s1 := by rw [eI_121, up2_n _ _ (Or.inr (by decide))]; exact g113_2
        have g121_3 : I_121 16 3 = s2 := by rw [eI_121, up2_n _ _ (Or.inr (by decide))]; exact g113_3
        have g121_4 : I_121 16 4 = s3 := by rw [eI_121, up2_n _ _ (Or.inr (by decide))]; exact g113_4
        refine ww_aload_n hX (pc := 122) dX0_fillWords_122 rfl ?_
        refine ww_getR hX (pc := 123) fX0_11 (by decide) (xs_15 hL) (xr_15_0 hL) dX0_fillWords_123 ?_
        refine ww_bipush hX (pc := 126) (x := 6) dX0_fillWords_126 (by decide) ?_
        refine ww_aload_n hX (pc := 128) dX0_fillWords_128 rfl ?_
        refine ww_getI hX (pc := 129) fX0_64 (by decide) (xs_1 hL) dX0_fillWords_129 ?_
        refine ww_iast hX (pc := 132) (xs_16 hL) (by decide) (by omega) (by omega) dX0_fillWords_132 ?_
        refine ww_nmH (fun I_132 eI_132 => ?_)
        have kI_132 : Kp 15 18 Ia I_132 := by rw [eI_132]; exact Kp_up kI_121 _ _ (by decide)
        have r1_5_I_132 : I_132 1 5 = Ia 1 5 := Kp_at kI_132 1 5 (by decide)
        have r1_6_I_132 : I_132 1 6 = Ia 1 6 := Kp_at kI_132 1 6 (by decide)
        have rf_I_132 : FU (I_132 1 5) = FU (Ia 1 5) := by rw [r1_5_I_132]
        have g132_6 : I_132 16 6 = Ia 1 5 := by rw [eI_132]; exact (up2_s ..).trans (by omega)
        have g132_0 : I_132 16 0 = a := by rw [eI_132, up2_n _ _ (Or.inr (by decide))]; exact g121_0
        have g132_1 : I_132 16 1 = zOn a 16 := by rw [eI_132, up2_n _ _ (Or.inr (by decide))]; exact g121_1
        have g132_2 : I_132 16 2 = s1 := by rw [eI_132, up2_n _ _ (Or.inr (by decide))]; exact g121_2
        have g132_3 : I_132 16 3 = s2 := by rw [eI_132, up2_n _ _ (Or.inr (by decide))]; exact g121_3
        have g132_4 : I_132 16 4 = s3 := by rw [eI_132, up2_n _ _ (Or.inr (by decide))]; exact g121_4
        have g132_5 : I_132 16 5 = s4 := by rw [eI_132, up2_n _ _ (Or.inr (by decide))]; exact g121_5
        refine ww_aload_n hX (pc := 133) dX0_fillWords_133 rfl ?_
        refine ww_getR hX (pc := 134) fX0_11 (by decide) (xs_15 hL) (xr_15_0 hL) dX0_fillWords_134 ?_
        refine ww_bipush hX (pc := 137) (x := 7) dX0_fillWords_137 (by decide) ?_
        refine ww_aload_n hX (pc := 139) dX0_fillWords_139 rfl ?_
        refine ww_getI hX (pc := 140) fX0_42 (by decide) (xs_1 hL) dX0_fillWords_140 ?_
        refine ww_iast hX (pc := 143) (xs_16 hL) (by decide) (by omega) (by omega) dX0_fillWords_143 ?_
        refine ww_nmH (fun I_143 eI_143 => ?_)
        have kI_143 : Kp 15 18 Ia I_143 := by rw [eI_143]; exact Kp_up kI_132 _ _ (by decide)
        have r1_5_I_143 : I_143 1 5 = Ia 1 5 := Kp_at kI_143 1 5 (by decide)
        have r1_6_I_143 : I_143 1 6 = Ia 1 6 := Kp_at kI_143 1 6 (by decide)
        have rf_I_143 : FU (I_143 1 5) = FU (Ia 1 5) := by rw [r1_5_I_143]
        have g143_7 : I_143 16 7 = Ia 1 6 := by rw [eI_143]; exact (up2_s ..).trans (by omega)
        have g143_0 : I_143 16 0 = a := by rw [eI_143, up2_n _ _ (Or.inr (by decide))]; exact g132_0
        have g143_1 : I_143 16 1 = zOn a 16 := by rw [eI_143, up2_n _ _ (Or.inr (by decide))]; exact g132_1
        have g143_2 : I_143 16 2 = s1 := by rw [eI_143, up2_n _ _ (Or.inr (by decide))]; exact g132_2
        have g143_3 : I_143 16 3 = s2 := by rw [eI_143, up2_n _ _ (Or.inr (by decide))]; exact g132_3
        have g143_4 : I_143 16 4 = s3 := by rw [eI_143, up2_n _ _ (Or.inr (by decide))]; exact g132_4
        have g143_5 : I_143 16 5 = s4 := by rw [eI_143, up2_n _ _ (Or.inr (by decide))]; exact g132_5
        have g143_6 : I_143 16 6 = Ia 1 5 := by rw [eI_143, up2_n _ _ (Or.inr (by decide))]; exact g132_6
        refine rV hX (pc := 144) hT (Nat.le_refl 0) (Nat.le_refl 0) dX0_fillWords_144 ?_
        exact ⟨kI_143, (Kp_rf (a := 15) (b := 18)), (fun j hj => by
            have e8 : la = Ia 1 5 := by omega
            obtain ⟨q1, q2, q3, q4⟩ := hq
            rw [e8] at q1 q2 q3 q4
            rcases (show j = 0 ∨ j = 1 ∨ j = 2 ∨ j = 3 ∨ j = 4 ∨ j = 5 ∨ j = 6 ∨ j = 7 by omega) with rfl | rfl | rfl | rfl | rfl | rfl | rfl | rfl
            · exact g143_0
            · exact g143_1
            · exact g143_2.trans q1
            · exact g143_3.trans q2
            · exact g143_4.trans q3
            · exact g143_5.trans q4
            · exact g143_6
            · exact g143_7)⟩
      · simp only [w32_mod] at h_20
        refine ww_iload_n hX (pc := 23) dX0_fillWords_23 rfl ?_
        refine ww_iload hX (pc := 24) dX0_fillWords_24 rfl ?_
        refine ww_ishr hX (pc := 26) dX0_fillWords_26 ?_
        refine ww_iconst hX (pc := 27) (x := 1) dX0_fillWords_27 rfl ?_
        refine ww_iand hX (pc := 28) dX0_fillWords_28 ?_
        refine ww_iconst hX (pc := 29) (x := 1) dX0_fillWords_29 rfl ?_
        have hb1 := i_and_1 (i_shr a la)
        refine ww_icmp_ne hX (pc := 30) (tgt := 68) dX0_fillWords_30 (by decide) (fun h_30 => ?_) (fun h_30 => ?_)
        · simp only [w32_mod] at h_30
          refine ww_iinc hX (pc := 68) (lv' := [some (kR (some 15)), some (kR (some 1)), some (kI a), some (kI s1), some (kI s2), some (kI s3), some (kI s4), some (kI (la + 1))]) dX0_fillWords_68 rfl (by decide) rfl rfl ?_
          refine ww_goto hX (pc := 71) (tgt := 14) dX0_fillWords_71 (by decide) ?_
          exact ih_14 _ (by have hm9 := Sh0_e hq_14; omega) s1 s2 s3 s4 (la + 1) rfl ⟨⟨by omega, by omega⟩, zAQ_n hq (by omega) (by omega)⟩
        · simp only [w32_mod] at h_30
          refine ww_iload_n hX (pc := 33) dX0_fillWords_33 rfl ?_
          refine ww_iload hX (pc := 34) dX0_fillWords_34 rfl ?_
          refine ww_iconst hX (pc := 36) (x := 1) dX0_fillWords_36 rfl ?_
          refine ww_iadd hX (pc := 37) dX0_fillWords_37 ?_
          refine ww_iadd hX (pc := 38) dX0_fillWords_38 ?_
          refine ww_nmI (fun v_39 hv_39 => ?_)
          refine ww_istore_n hX (pc := 39) (lv' := [some (kR (some 15)), some (kR (some 1)), some (kI a), some (kI v_39), some (kI s2), some (kI s3), some (kI s4), some (kI la)]) dX0_fillWords_39 (by decide) rfl rfl ?_
          refine ww_iload hX (pc := 40) dX0_fillWords_40 rfl ?_
          refine ww_iload hX (pc := 42) dX0_fillWords_42 rfl ?_
          refine ww_iconst hX (pc := 44) (x := 1) dX0_fillWords_44 rfl ?_
          refine ww_iadd hX (pc := 45) dX0_fillWords_45 ?_
          refine ww_ixor hX (pc := 46) dX0_fillWords_46 ?_
          refine ww_nmI (fun v_47 hv_47 => ?_)
          refine ww_istore hX (pc := 47) (lv' := [some (kR (some 15)), some (kR (some 1)), some (kI a), some (kI v_39), some (kI v_47), some (kI s3), some (kI s4), some (kI la)]) dX0_fillWords_47 (by decide) rfl rfl ?_
          refine ww_iload hX (pc := 49) dX0_fillWords_49 rfl ?_
          refine ww_iconst hX (pc := 51) (x := (-1)) dX0_fillWords_51 rfl ?_
          refine ww_icmp_ne hX (pc := 52) (tgt := 60) dX0_fillWords_52 (by decide) (fun h_52 => ?_) (fun h_52 => ?_)
          · simp only [w32_mod] at h_52
            refine ww_iload hX (pc := 60) dX0_fillWords_60 rfl ?_
            refine ww_istore hX (pc := 62) (lv' := [some (kR (some 15)), some (kR (some 1)), some (kI a), some (kI v_39), some (kI v_47), some (kI s3), some (kI s4), some (kI la)]) dX0_fillWords_62 (by decide) rfl rfl ?_
            refine ww_iload hX (pc := 64) dX0_fillWords_64 rfl ?_
            refine ww_istore hX (pc := 66) (lv' := [some (kR (some 15)), some (kR (some 1)), some (kI a), some (kI v_39), some (kI v_47), some (kI s3), some (kI la), some (kI la)]) dX0_fillWords_66 (by decide) rfl rfl ?_
            refine ww_iinc hX (pc := 68) (lv' := [some (kR (some 15)), some (kR (some 1)), some (kI a), some (kI v_39), some (kI v_47), some (kI s3), some (kI la), some (kI (la + 1))]) dX0_fillWords_68 rfl (by decide) rfl rfl ?_
            refine ww_goto hX (pc := 71) (tgt := 14) dX0_fillWords_71 (by decide) ?_
            exact ih_14 _ (by have hm9 := Sh0_e hq_14; omega) v_39 v_47 s3 la (la + 1) rfl ⟨⟨by omega, by omega⟩, zAQ_s hq (by omega) (by omega) (by omega) hv_47 (fun g => by omega) (fun g => by omega)⟩
          · simp only [w32_mod] at h_52
            refine ww_iload hX (pc := 55) dX0_fillWords_55 rfl ?_
            refine ww_goto hX (pc := 57) (tgt := 62) dX0_fillWords_57 (by decide) ?_
            refine ww_istore hX (pc := 62) (lv' := [some (kR (some 15)), some (kR (some 1)), some (kI a), some (kI v_39), some (kI v_47), some (kI la), some (kI s4), some (kI la)]) dX0_fillWords_62 (by decide) rfl rfl ?_
            refine ww_iload hX (pc := 64) dX0_fillWords_64 rfl ?_
            refine ww_istore hX (pc := 66) (lv' := [some (kR (some 15)), some (kR (some 1)), some (kI a), some (kI v_39), some (kI v_47), some (kI la), some (kI la), some (kI la)]) dX0_fillWords_66 (by decide) rfl rfl ?_
            refine ww_iinc hX (pc := 68) (lv' := [some (kR (some 15)), some (kR (some 1)), some (kI a), some (kI v_39), some (kI v_47), some (kI la), some (kI la), some (kI (la + 1))]) dX0_fillWords_68 rfl (by decide) rfl rfl ?_
            refine ww_goto hX (pc := 71) (tgt := 14) dX0_fillWords_71 (by decide) ?_
            exact ih_14 _ (by have hm9 := Sh0_e hq_14; omega) v_39 v_47 la la (la + 1) rfl ⟨⟨by omega, by omega⟩, zAQ_s hq (by omega) (by omega) (by omega) hv_47 (fun g => by omega) (fun g => by omega)⟩
  exact hl_14 _ 0 0 (-1) (-1) 0 rfl ⟨⟨by omega, by omega⟩, zAQ_0 a⟩
theorem zOc_d {x : Int} (h : x < -17 ∨ -11 < x) : zOc x = 161 := by
  unfold zOc
  rw [if_neg (by omega), if_neg (by omega), if_neg (by omega), if_neg (by omega), if_neg (by omega), if_neg (by omega), if_neg (by omega)]
theorem zJv_143 (u v : Int) : zJv 143 u v = u + v := if_pos rfl
theorem zJv_145 (u v : Int) : zJv 145 u v = u - v := (if_neg (by decide)).trans (if_pos rfl)
theorem zJv_142 (u v : Int) : zJv 142 u v = u * v := (if_neg (by decide)).trans ((if_neg (by decide)).trans (if_pos rfl))
theorem zJv_147 (u v : Int) : zJv 147 u v = u.tdiv v := (if_neg (by decide)).trans ((if_neg (by decide)).trans ((if_neg (by decide)).trans (if_pos rfl)))
theorem zJv_137 (u v : Int) : zJv 137 u v = u.tmod v := (if_neg (by decide)).trans ((if_neg (by decide)).trans ((if_neg (by decide)).trans ((if_neg (by decide)).trans (if_pos rfl))))
theorem zJv_160 (u v : Int) : zJv 160 u v = if u < v then 1 else 0 := (if_neg (by decide)).trans ((if_neg (by decide)).trans ((if_neg (by decide)).trans ((if_neg (by decide)).trans ((if_neg (by decide)).trans (if_pos rfl)))))
theorem zJv_162 (u v : Int) : zJv 162 u v = if v < u then 1 else 0 := (if_neg (by decide)).trans ((if_neg (by decide)).trans ((if_neg (by decide)).trans ((if_neg (by decide)).trans ((if_neg (by decide)).trans ((if_neg (by decide)).trans (if_pos rfl))))))
theorem zJv_161 (u v : Int) : zJv 161 u v = if u = v then 1 else 0 := (if_neg (by decide)).trans ((if_neg (by decide)).trans ((if_neg (by decide)).trans ((if_neg (by decide)).trans ((if_neg (by decide)).trans ((if_neg (by decide)).trans (if_neg (by decide)))))))
def zJo (op u v : Int) (b : Nat) (x : Int) (F G : Nat → Int) : Prop := (zJn op u v = none → x = 0) ∧ (∀ w, zJn op u v = some w → x = 1 ∧ G = up1 F b w)
theorem zJo_0 {op u v x : Int} {b : Nat} {F G : Nat → Int} (h : (op = 147 ∨ op = 137) ∧ v = 0) (hx : x = 0) : zJo op u v b x F G := by
  have e : zJn op u v = none := if_pos h
  refine ⟨fun _ => hx, fun w hw => ?_⟩
  rw [e] at hw
  cases hw
theorem zJo_r {op u v val x : Int} {b : Nat} {F G : Nat → Int} (h : ¬ ((op = 147 ∨ op = 137) ∧ v = 0)) (e : zJv op u v = val) (h1 : val ≤ 1000000000 ∧ -1000000000 ≤ val → x = 1) (h2 : ¬ (val ≤ 1000000000 ∧ -1000000000 ≤ val) → x = 0) (hG : G = up1 F b val) : zJo op u v b x F G := by
  have e2 : zJn op u v = if val ≤ 1000000000 ∧ -1000000000 ≤ val then some val else none := by
    refine (if_neg h).trans ?_
    rw [e]
  unfold zJo
  rw [e2]
  by_cases hr : val ≤ 1000000000 ∧ -1000000000 ≤ val
  · rw [if_pos hr]
    exact ⟨fun hn => (by cases hn), fun w hw => (by cases hw; exact ⟨h1 hr, hG⟩)⟩
  · rw [if_neg hr]
    exact ⟨fun _ => h2 hr, fun w hw => (by cases hw)⟩
set_option maxHeartbeats 4000000 in
set_option maxRecDepth 20000 in
theorem c6_X0_join (l0 : Launch) {Ia Ja : aI1} {Ra : aR1} {Sa : aS1} (hL : LY Ra Sa) {a b : Int} (hb0 : 0 ≤ b) (hb1 : b ≤ 62) (ha : -10000 ≤ a ∧ a ≤ -9) {u v17 : Int} (hu : Ja 17 b.toNat = u) (hv17 : Ja 17 (b.toNat + 1) = v17) (ru : -1000000000 ≤ u ∧ u ≤ 1000000000) (rv : -1000000000 ≤ v17 ∧ v17 ≤ 1000000000)  : CT l0 0 0 0 mX0_join [kR (some 15), kI a, kI b] Ia Ja Ra Sa (cI (fun x I' J' => Ia = I' ∧ Kp 15 18 Ja J' ∧ (x = 0 ∨ x = 1) ∧ zJo (zOc a) u v17 b.toNat x (Ja 17) (J' 17)) Ra Sa) := by
  refine ct_in pn_X0 (Nat.le_of_ble_eq_true rfl) (fun X hX hT hIn => ?_)
  have hX : aK l0 X cX0_join 9 RX0 (some .boolean) 0 0 0 := hX
  change WW X 0 [some (kR (some 15)), some (kI a), some (kI b), none, none, none, none, none, none] [] Ia Ja Ra Sa 0 0
  refine ww_aload_n hX (pc := 0) dX0_join_0 rfl ?_
  refine ww_getR hX (pc := 1) fX0_17 (by decide) (xs_15 hL) (xr_15_1 hL) dX0_join_1 ?_
  refine ww_iload_n hX (pc := 4) dX0_join_4 rfl ?_
  refine ww_lald hX (pc := 5) (xs_17 hL) (by decide) (by omega) (by omega) dX0_join_5 ?_
  refine ww_nmL (fun v_6 hv_6 => ?_)
  refine ww_lstore_n hX (pc := 6) (lv' := [some (kR (some 15)), some (kI a), some (kI b), some (kL v_6), none, none, none, none, none]) dX0_join_6 (by decide) rfl rfl ?_
  refine ww_aload_n hX (pc := 7) dX0_join_7 rfl ?_
  refine ww_getR hX (pc := 8) fX0_17 (by decide) (xs_15 hL) (xr_15_1 hL) dX0_join_8 ?_
  refine ww_iload_n hX (pc := 11) dX0_join_11 rfl ?_
  refine ww_iconst hX (pc := 12) (x := 1) dX0_join_12 rfl ?_
  refine ww_iadd hX (pc := 13) dX0_join_13 ?_
  refine ww_lald hX (pc := 14) (xs_17 hL) (by decide) (by omega) (by omega) dX0_join_14 ?_
  refine ww_nmL (fun v_15 hv_15 => ?_)
  refine ww_lstore hX (pc := 15) (lv' := [some (kR (some 15)), some (kI a), some (kI b), some (kL v_6), none, some (kL v_15), none, none, none]) dX0_join_15 (by decide) rfl rfl ?_
  have e6 : v_6 = u := hv_6.trans hu
  have e15 : v_15 = v17 := hv_15.trans ((congrArg (Ja 17) (by omega)).trans hv17)
  have hw6 := w64_id (x := v_6) (by omega) (by omega)
  have hw15 := w64_id (x := v_15) (by omega) (by omega)
  refine ww_iload_n hX (pc := 17) dX0_join_17 rfl ?_
  refine ww_bipush hX (pc := 18) (x := (-14)) dX0_join_18 (by decide) ?_
  refine ww_icmp_eq hX (pc := 20) (tgt := 29) dX0_join_20 (by decide) (fun h_20 => ?_) (fun h_20 => ?_)
  · simp only [w32_mod] at h_20
    refine ww_lload hX (pc := 29) dX0_join_29 rfl ?_
    refine ww_lconst hX (pc := 31) (x := 0) dX0_join_31 (by decide) ?_
    refine ww_lcmp hX (pc := 32) dX0_join_32 ?_
    have hz15 := l_cmp_v v_15 0
    have hz0 : w64 0 = 0 := rfl
    refine ww_if_ne hX (pc := 33) (tgt := 38) dX0_join_33 (by decide) (fun h_33 => ?_) (fun h_33 => ?_)
    · simp only [w32_mod] at h_33
      refine ww_iload_n hX (pc := 38) dX0_join_38 rfl ?_
      refine ww_table hX (pc := 39) dX0_join_39 159 (by decide) (fun h_39 => ?_) (fun i_39 h_39 e_39 => ?_)
      · simp only [w32_mod] at h_39
        have ho : zOc a = 161 := zOc_d (by omega)
        have hl9 := l_cmp_v v_6 v_15
        refine ww_lload_n hX (pc := 159) dX0_join_159 rfl ?_
        refine ww_lload hX (pc := 160) dX0_join_160 rfl ?_
        refine ww_lcmp hX (pc := 162) dX0_join_162 ?_
        refine ww_if_ne hX (pc := 163) (tgt := 170) dX0_join_163 (by decide) (fun h_163 => ?_) (fun h_163 => ?_)
        · simp only [w32_mod] at h_163
          refine ww_lconst hX (pc := 170) (x := 0) dX0_join_170 (by decide) ?_
          refine ww_lstore hX (pc := 171) (lv' := [some (kR (some 15)), some (kI a), some (kI b), some (kL v_6), none, some (kL v_15), none, some (kL 0), none]) dX0_join_171 (by decide) rfl rfl ?_
          have hval : zJv (zOc a) u v17 = 0 := by rw [ho, zJv_161]; split <;> omega
          have hvb : -2000000000000000000 ≤ 0 ∧ 0 ≤ 2000000000000000000 := by omega
          have hw1 := w64_id (x := 0) (by omega) (by omega)
          have hl1 := l_cmp_v 0 1000000000
          have hl2 := l_cmp_v 0 (-1000000000)
          have hk1 : w64 1000000000 = 1000000000 := rfl
          have hk2 : w64 (-1000000000) = -1000000000 := rfl
          refine ww_aload_n hX (pc := 173) dX0_join_173 rfl ?_
          refine ww_getR hX (pc := 174) fX0_17 (by decide) (xs_15 hL) (xr_15_1 hL) dX0_join_174 ?_
          refine ww_iload_n hX (pc := 177) dX0_join_177 rfl ?_
          refine ww_lload hX (pc := 178) dX0_join_178 rfl ?_
          refine ww_last hX (pc := 180) (xs_17 hL) (by decide) (by omega) (by omega) dX0_join_180 ?_
          refine ww_nmK (fun J_180 eJ_180 => ?_)
          have kJ_180 : Kp 15 18 Ja J_180 := by rw [eJ_180]; exact Kp_up (Kp_rf (a := 15) (b := 18)) _ _ (by decide)
          refine ww_lload hX (pc := 181) dX0_join_181 rfl ?_
          refine ww_ldc2 hX (pc := 183) (x := 1000000000) dX0_join_183 tb_718 ?_
          refine ww_lcmp hX (pc := 186) dX0_join_186 ?_
          refine ww_if_gt hX (pc := 187) (tgt := 203) dX0_join_187 (by decide) (fun h_187 => ?_) (fun h_187 => ?_)
          · simp only [w32_mod] at h_187
            refine ww_iconst hX (pc := 203) (x := 0) dX0_join_203 rfl ?_
            refine rZ hX (pc := 204) hT (Nat.le_refl 0) (Nat.le_refl 0) dX0_join_204 (by decide) ?_
            exact ⟨rfl, kJ_180, by omega, zJo_r (by rw [ho]; omega) hval (fun g => by omega) (fun g => by omega) (by rw [eJ_180]; exact up2_row ..)⟩
          · simp only [w32_mod] at h_187
            refine ww_lload hX (pc := 190) dX0_join_190 rfl ?_
            refine ww_ldc2 hX (pc := 192) (x := (-1000000000)) dX0_join_192 tb_719 ?_
            refine ww_lcmp hX (pc := 195) dX0_join_195 ?_
            refine ww_if_lt hX (pc := 196) (tgt := 203) dX0_join_196 (by decide) (fun h_196 => ?_) (fun h_196 => ?_)
            · simp only [w32_mod] at h_196
              refine ww_iconst hX (pc := 203) (x := 0) dX0_join_203 rfl ?_
              refine rZ hX (pc := 204) hT (Nat.le_refl 0) (Nat.le_refl 0) dX0_join_204 (by decide) ?_
              exact ⟨rfl, kJ_180, by omega, zJo_r (by rw [ho]; omega) hval (fun g => by omega) (fun g => by omega) (by rw [eJ_180]; exact up2_row ..)⟩
            · simp only [w32_mod] at h_196
              refine ww_iconst hX (pc := 199) (x := 1) dX0_join_199 rfl ?_
              refine ww_goto hX (pc := 200) (tgt := 204) dX0_join_200 (by decide) ?_
              refine rZ hX (pc := 204) hT (Nat.le_refl 0) (Nat.le_refl 0) dX0_join_204 (by decide) ?_
              exact ⟨rfl, kJ_180, by omega, zJo_r (by rw [ho]; omega) hval (fun g => by omega) (fun g => by omega) (by rw [eJ_180]; exact up2_row ..)⟩
        · simp only [w32_mod] at h_163
          refine ww_lconst hX (pc := 166) (x := 1) dX0_join_166 (by decide) ?_
          refine ww_goto hX (pc := 167) (tgt := 171) dX0_join_167 (by decide) ?_
          refine ww_lstore hX (pc := 171) (lv' := [some (kR (some 15)), some (kI a), some (kI b), some (kL v_6), none, some (kL v_15), none, some (kL 1), none]) dX0_join_171 (by decide) rfl rfl ?_
          have hval : zJv (zOc a) u v17 = 1 := by rw [ho, zJv_161]; split <;> omega
          have hvb : -2000000000000000000 ≤ 1 ∧ 1 ≤ 2000000000000000000 := by omega
          have hw1 := w64_id (x := 1) (by omega) (by omega)
          have hl1 := l_cmp_v 1 1000000000
          have hl2 := l_cmp_v 1 (-1000000000)
          have hk1 : w64 1000000000 = 1000000000 := rfl
          have hk2 : w64 (-1000000000) = -1000000000 := rfl
          refine ww_aload_n hX (pc := 173) dX0_join_173 rfl ?_
          refine ww_getR hX (pc := 174) fX0_17 (by decide) (xs_15 hL) (xr_15_1 hL) dX0_join_174 ?_
          refine ww_iload_n hX (pc := 177) dX0_join_177 rfl ?_
          refine ww_lload hX (pc := 178) dX0_join_178 rfl ?_
          refine ww_last hX (pc := 180) (xs_17 hL) (by decide) (by omega) (by omega) dX0_join_180 ?_
          refine ww_nmK (fun J_180 eJ_180 => ?_)
          have kJ_180 : Kp 15 18 Ja J_180 := by rw [eJ_180]; exact Kp_up (Kp_rf (a := 15) (b := 18)) _ _ (by decide)
          refine ww_lload hX (pc := 181) dX0_join_181 rfl ?_
          refine ww_ldc2 hX (pc := 183) (x := 1000000000) dX0_join_183 tb_718 ?_
          refine ww_lcmp hX (pc := 186) dX0_join_186 ?_
          refine ww_if_gt hX (pc := 187) (tgt := 203) dX0_join_187 (by decide) (fun h_187 => ?_) (fun h_187 => ?_)
          · simp only [w32_mod] at h_187
            refine ww_iconst hX (pc := 203) (x := 0) dX0_join_203 rfl ?_
            refine rZ hX (pc := 204) hT (Nat.le_refl 0) (Nat.le_refl 0) dX0_join_204 (by decide) ?_
            exact ⟨rfl, kJ_180, by omega, zJo_r (by rw [ho]; omega) hval (fun g => by omega) (fun g => by omega) (by rw [eJ_180]; exact up2_row ..)⟩
          · simp only [w32_mod] at h_187
            refine ww_lload hX (pc := 190) dX0_join_190 rfl ?_
            refine ww_ldc2 hX (pc := 192) (x := (-1000000000)) dX0_join_192 tb_719 ?_
            refine ww_lcmp hX (pc := 195) dX0_join_195 ?_
            refine ww_if_lt hX (pc := 196) (tgt := 203) dX0_join_196 (by decide) (fun h_196 => ?_) (fun h_196 => ?_)
            · simp only [w32_mod] at h_196
              refine ww_iconst hX (pc := 203) (x := 0) dX0_join_203 rfl ?_
              refine rZ hX (pc := 204) hT (Nat.le_refl 0) (Nat.le_refl 0) dX0_join_204 (by decide) ?_
              exact ⟨rfl, kJ_180, by omega, zJo_r (by rw [ho]; omega) hval (fun g => by omega) (fun g => by omega) (by rw [eJ_180]; exact up2_row ..)⟩
            · simp only [w32_mod] at h_196
              refine ww_iconst hX (pc := 199) (x := 1) dX0_join_199 rfl ?_
              refine ww_goto hX (pc := 200) (tgt := 204) dX0_join_200 (by decide) ?_
              refine rZ hX (pc := 204) hT (Nat.le_refl 0) (Nat.le_refl 0) dX0_join_204 (by decide) ?_
              exact ⟨rfl, kJ_180, by omega, zJo_r (by rw [ho]; omega) hval (fun g => by omega) (fun g => by omega) (by rw [eJ_180]; exact up2_row ..)⟩
      · simp only [w32_mod] at e_39
        rcases (show i_39 = 0 ∨ i_39 = 1 ∨ i_39 = 2 ∨ i_39 = 3 ∨ i_39 = 4 ∨ i_39 = 5 ∨ i_39 = 6 by omega) with rfl | rfl | rfl | rfl | rfl | rfl | rfl
        · refine ⟨103, 142, rfl, by decide, ?_⟩
          have ho : zOc a = 162 := by rw [show a = -17 by omega]; rfl
          have hl9 := l_cmp_v v_6 v_15
          refine ww_lload_n hX (pc := 142) dX0_join_142 rfl ?_
          refine ww_lload hX (pc := 143) dX0_join_143 rfl ?_
          refine ww_lcmp hX (pc := 145) dX0_join_145 ?_
          refine ww_if_le hX (pc := 146) (tgt := 153) dX0_join_146 (by decide) (fun h_146 => ?_) (fun h_146 => ?_)
          · simp only [w32_mod] at h_146
            refine ww_lconst hX (pc := 153) (x := 0) dX0_join_153 (by decide) ?_
            refine ww_lstore hX (pc := 154) (lv' := [some (kR (some 15)), some (kI a), some (kI b), some (kL v_6), none, some (kL v_15), none, some (kL 0), none]) dX0_join_154 (by decide) rfl rfl ?_
            refine ww_goto hX (pc := 156) (tgt := 173) dX0_join_156 (by decide) ?_
            have hval : zJv (zOc a) u v17 = 0 := by rw [ho, zJv_162]; split <;> omega
            have hvb : -2000000000000000000 ≤ 0 ∧ 0 ≤ 2000000000000000000 := by omega
            have hw1 := w64_id (x := 0) (by omega) (by omega)
            have hl1 := l_cmp_v 0 1000000000
            have hl2 := l_cmp_v 0 (-1000000000)
            have hk1 : w64 1000000000 = 1000000000 := rfl
            have hk2 : w64 (-1000000000) = -1000000000 := rfl
            refine ww_aload_n hX (pc := 173) dX0_join_173 rfl ?_
            refine ww_getR hX (pc := 174) fX0_17 (by decide) (xs_15 hL) (xr_15_1 hL) dX0_join_174 ?_
            refine ww_iload_n hX (pc := 177) dX0_join_177 rfl ?_
            refine ww_lload hX (pc := 178) dX0_join_178 rfl ?_
            refine ww_last hX (pc := 180) (xs_17 hL) (by decide) (by omega) (by omega) dX0_join_180 ?_
            refine ww_nmK (fun J_180 eJ_180 => ?_)
            have kJ_180 : Kp 15 18 Ja J_180 := by rw [eJ_180]; exact Kp_up (Kp_rf (a := 15) (b := 18)) _ _ (by decide)
            refine ww_lload hX (pc := 181) dX0_join_181 rfl ?_
            refine ww_ldc2 hX (pc := 183) (x := 1000000000) dX0_join_183 tb_718 ?_
            refine ww_lcmp hX (pc := 186) dX0_join_186 ?_
            refine ww_if_gt hX (pc := 187) (tgt := 203) dX0_join_187 (by decide) (fun h_187 => ?_) (fun h_187 => ?_)
            · simp only [w32_mod] at h_187
              refine ww_iconst hX (pc := 203) (x := 0) dX0_join_203 rfl ?_
              refine rZ hX (pc := 204) hT (Nat.le_refl 0) (Nat.le_refl 0) dX0_join_204 (by decide) ?_
              exact ⟨rfl, kJ_180, by omega, zJo_r (by rw [ho]; omega) hval (fun g => by omega) (fun g => by omega) (by rw [eJ_180]; exact up2_row ..)⟩
            · simp only [w32_mod] at h_187
              refine ww_lload hX (pc := 190) dX0_join_190 rfl ?_
              refine ww_ldc2 hX (pc := 192) (x := (-1000000000)) dX0_join_192 tb_719 ?_
              refine ww_lcmp hX (pc := 195) dX0_join_195 ?_
              refine ww_if_lt hX (pc := 196) (tgt := 203) dX0_join_196 (by decide) (fun h_196 => ?_) (fun h_196 => ?_)
              · simp only [w32_mod] at h_196
                refine ww_iconst hX (pc := 203) (x := 0) dX0_join_203 rfl ?_
                refine rZ hX (pc := 204) hT (Nat.le_refl 0) (Nat.le_refl 0) dX0_join_204 (by decide) ?_
                exact ⟨rfl, kJ_180, by omega, zJo_r (by rw [ho]; omega) hval (fun g => by omega) (fun g => by omega) (by rw [eJ_180]; exact up2_row ..)⟩
              · simp only [w32_mod] at h_196
                refine ww_iconst hX (pc := 199) (x := 1) dX0_join_199 rfl ?_
                refine ww_goto hX (pc := 200) (tgt := 204) dX0_join_200 (by decide) ?_
                refine rZ hX (pc := 204) hT (Nat.le_refl 0) (Nat.le_refl 0) dX0_join_204 (by decide) ?_
                exact ⟨rfl, kJ_180, by omega, zJo_r (by rw [ho]; omega) hval (fun g => by omega) (fun g => by omega) (by rw [eJ_180]; exact up2_row ..)⟩
          · simp only [w32_mod] at h_146
            refine ww_lconst hX (pc := 149) (x := 1) dX0_join_149 (by decide) ?_
            refine ww_goto hX (pc := 150) (tgt := 154) dX0_join_150 (by decide) ?_
            refine ww_lstore hX (pc := 154) (lv' := [some (kR (some 15)), some (kI a), some (kI b), some (kL v_6), none, some (kL v_15), none, some (kL 1), none]) dX0_join_154 (by decide) rfl rfl ?_
            refine ww_goto hX (pc := 156) (tgt := 173) dX0_join_156 (by decide) ?_
            have hval : zJv (zOc a) u v17 = 1 := by rw [ho, zJv_162]; split <;> omega
            have hvb : -2000000000000000000 ≤ 1 ∧ 1 ≤ 2000000000000000000 := by omega
            have hw1 := w64_id (x := 1) (by omega) (by omega)
            have hl1 := l_cmp_v 1 1000000000
            have hl2 := l_cmp_v 1 (-1000000000)
            have hk1 : w64 1000000000 = 1000000000 := rfl
            have hk2 : w64 (-1000000000) = -1000000000 := rfl
            refine ww_aload_n hX (pc := 173) dX0_join_173 rfl ?_
            refine ww_getR hX (pc := 174) fX0_17 (by decide) (xs_15 hL) (xr_15_1 hL) dX0_join_174 ?_
            refine ww_iload_n hX (pc := 177) dX0_join_177 rfl ?_
            refine ww_lload hX (pc := 178) dX0_join_178 rfl ?_
            refine ww_last hX (pc := 180) (xs_17 hL) (by decide) (by omega) (by omega) dX0_join_180 ?_
            refine ww_nmK (fun J_180 eJ_180 => ?_)
            have kJ_180 : Kp 15 18 Ja J_180 := by rw [eJ_180]; exact Kp_up (Kp_rf (a := 15) (b := 18)) _ _ (by decide)
            refine ww_lload hX (pc := 181) dX0_join_181 rfl ?_
            refine ww_ldc2 hX (pc := 183) (x := 1000000000) dX0_join_183 tb_718 ?_
            refine ww_lcmp hX (pc := 186) dX0_join_186 ?_
            refine ww_if_gt hX (pc := 187) (tgt := 203) dX0_join_187 (by decide) (fun h_187 => ?_) (fun h_187 => ?_)
            · simp only [w32_mod] at h_187
              refine ww_iconst hX (pc := 203) (x := 0) dX0_join_203 rfl ?_
              refine rZ hX (pc := 204) hT (Nat.le_refl 0) (Nat.le_refl 0) dX0_join_204 (by decide) ?_
              exact ⟨rfl, kJ_180, by omega, zJo_r (by rw [ho]; omega) hval (fun g => by omega) (fun g => by omega) (by rw [eJ_180]; exact up2_row ..)⟩
            · simp only [w32_mod] at h_187
              refine ww_lload hX (pc := 190) dX0_join_190 rfl ?_
              refine ww_ldc2 hX (pc := 192) (x := (-1000000000)) dX0_join_192 tb_719 ?_
              refine ww_lcmp hX (pc := 195) dX0_join_195 ?_
              refine ww_if_lt hX (pc := 196) (tgt := 203) dX0_join_196 (by decide) (fun h_196 => ?_) (fun h_196 => ?_)
              · simp only [w32_mod] at h_196
                refine ww_iconst hX (pc := 203) (x := 0) dX0_join_203 rfl ?_
                refine rZ hX (pc := 204) hT (Nat.le_refl 0) (Nat.le_refl 0) dX0_join_204 (by decide) ?_
                exact ⟨rfl, kJ_180, by omega, zJo_r (by rw [ho]; omega) hval (fun g => by omega) (fun g => by omega) (by rw [eJ_180]; exact up2_row ..)⟩
              · simp only [w32_mod] at h_196
                refine ww_iconst hX (pc := 199) (x := 1) dX0_join_199 rfl ?_
                refine ww_goto hX (pc := 200) (tgt := 204) dX0_join_200 (by decide) ?_
                refine rZ hX (pc := 204) hT (Nat.le_refl 0) (Nat.le_refl 0) dX0_join_204 (by decide) ?_
                exact ⟨rfl, kJ_180, by omega, zJo_r (by rw [ho]; omega) hval (fun g => by omega) (fun g => by omega) (by rw [eJ_180]; exact up2_row ..)⟩
        · refine ⟨86, 125, rfl, by decide, ?_⟩
          have ho : zOc a = 160 := by rw [show a = -16 by omega]; rfl
          have hl9 := l_cmp_v v_6 v_15
          refine ww_lload_n hX (pc := 125) dX0_join_125 rfl ?_
          refine ww_lload hX (pc := 126) dX0_join_126 rfl ?_
          refine ww_lcmp hX (pc := 128) dX0_join_128 ?_
          refine ww_if_ge hX (pc := 129) (tgt := 136) dX0_join_129 (by decide) (fun h_129 => ?_) (fun h_129 => ?_)
          · simp only [w32_mod] at h_129
            refine ww_lconst hX (pc := 136) (x := 0) dX0_join_136 (by decide) ?_
            refine ww_lstore hX (pc := 137) (lv' := [some (kR (some 15)), some (kI a), some (kI b), some (kL v_6), none, some (kL v_15), none, some (kL 0), none]) dX0_join_137 (by decide) rfl rfl ?_
            refine ww_goto hX (pc := 139) (tgt := 173) dX0_join_139 (by decide) ?_
            have hval : zJv (zOc a) u v17 = 0 := by rw [ho, zJv_160]; split <;> omega
            have hvb : -2000000000000000000 ≤ 0 ∧ 0 ≤ 2000000000000000000 := by omega
            have hw1 := w64_id (x := 0) (by omega) (by omega)
            have hl1 := l_cmp_v 0 1000000000
            have hl2 := l_cmp_v 0 (-1000000000)
            have hk1 : w64 1000000000 = 1000000000 := rfl
            have hk2 : w64 (-1000000000) = -1000000000 := rfl
            refine ww_aload_n hX (pc := 173) dX0_join_173 rfl ?_
            refine ww_getR hX (pc := 174) fX0_17 (by decide) (xs_15 hL) (xr_15_1 hL) dX0_join_174 ?_
            refine ww_iload_n hX (pc := 177) dX0_join_177 rfl ?_
            refine ww_lload hX (pc := 178) dX0_join_178 rfl ?_
            refine ww_last hX (pc := 180) (xs_17 hL) (by decide) (by omega) (by omega) dX0_join_180 ?_
            refine ww_nmK (fun J_180 eJ_180 => ?_)
            have kJ_180 : Kp 15 18 Ja J_180 := by rw [eJ_180]; exact Kp_up (Kp_rf (a := 15) (b := 18)) _ _ (by decide)
            refine ww_lload hX (pc := 181) dX0_join_181 rfl ?_
            refine ww_ldc2 hX (pc := 183) (x := 1000000000) dX0_join_183 tb_718 ?_
            refine ww_lcmp hX (pc := 186) dX0_join_186 ?_
            refine ww_if_gt hX (pc := 187) (tgt := 203) dX0_join_187 (by decide) (fun h_187 => ?_) (fun h_187 => ?_)
            · simp only [w32_mod] at h_187
              refine ww_iconst hX (pc := 203) (x := 0) dX0_join_203 rfl ?_
              refine rZ hX (pc := 204) hT (Nat.le_refl 0) (Nat.le_refl 0) dX0_join_204 (by decide) ?_
              exact ⟨rfl, kJ_180, by omega, zJo_r (by rw [ho]; omega) hval (fun g => by omega) (fun g => by omega) (by rw [eJ_180]; exact up2_row ..)⟩
            · simp only [w32_mod] at h_187
              refine ww_lload hX (pc := 190) dX0_join_190 rfl ?_
              refine ww_ldc2 hX (pc := 192) (x := (-1000000000)) dX0_join_192 tb_719 ?_
              refine ww_lcmp hX (pc := 195) dX0_join_195 ?_
              refine ww_if_lt hX (pc := 196) (tgt := 203) dX0_join_196 (by decide) (fun h_196 => ?_) (fun h_196 => ?_)
              · simp only [w32_mod] at h_196
                refine ww_iconst hX (pc := 203) (x := 0) dX0_join_203 rfl ?_
                refine rZ hX (pc := 204) hT (Nat.le_refl 0) (Nat.le_refl 0) dX0_join_204 (by decide) ?_
                exact ⟨rfl, kJ_180, by omega, zJo_r (by rw [ho]; omega) hval (fun g => by omega) (fun g => by omega) (by rw [eJ_180]; exact up2_row ..)⟩
              · simp only [w32_mod] at h_196
                refine ww_iconst hX (pc := 199) (x := 1) dX0_join_199 rfl ?_
                refine ww_goto hX (pc := 200) (tgt := 204) dX0_join_200 (by decide) ?_
                refine rZ hX (pc := 204) hT (Nat.le_refl 0) (Nat.le_refl 0) dX0_join_204 (by decide) ?_
                exact ⟨rfl, kJ_180, by omega, zJo_r (by rw [ho]; omega) hval (fun g => by omega) (fun g => by omega) (by rw [eJ_180]; exact up2_row ..)⟩
          · simp only [w32_mod] at h_129
            refine ww_lconst hX (pc := 132) (x := 1) dX0_join_132 (by decide) ?_
            refine ww_goto hX (pc := 133) (tgt := 137) dX0_join_133 (by decide) ?_
            refine ww_lstore hX (pc := 137) (lv' := [some (kR (some 15)), some (kI a), some (kI b), some (kL v_6), none, some (kL v_15), none, some (kL 1), none]) dX0_join_137 (by decide) rfl rfl ?_
            refine ww_goto hX (pc := 139) (tgt := 173) dX0_join_139 (by decide) ?_
            have hval : zJv (zOc a) u v17 = 1 := by rw [ho, zJv_160]; split <;> omega
            have hvb : -2000000000000000000 ≤ 1 ∧ 1 ≤ 2000000000000000000 := by omega
            have hw1 := w64_id (x := 1) (by omega) (by omega)
            have hl1 := l_cmp_v 1 1000000000
            have hl2 := l_cmp_v 1 (-1000000000)
            have hk1 : w64 1000000000 = 1000000000 := rfl
            have hk2 : w64 (-1000000000) = -1000000000 := rfl
            refine ww_aload_n hX (pc := 173) dX0_join_173 rfl ?_
            refine ww_getR hX (pc := 174) fX0_17 (by decide) (xs_15 hL) (xr_15_1 hL) dX0_join_174 ?_
            refine ww_iload_n hX (pc := 177) dX0_join_177 rfl ?_
            refine ww_lload hX (pc := 178) dX0_join_178 rfl ?_
            refine ww_last hX (pc := 180) (xs_17 hL) (by decide) (by omega) (by omega) dX0_join_180 ?_
            refine ww_nmK (fun J_180 eJ_180 => ?_)
            have kJ_180 : Kp 15 18 Ja J_180 := by rw [eJ_180]; exact Kp_up (Kp_rf (a := 15) (b := 18)) _ _ (by decide)
            refine ww_lload hX (pc := 181) dX0_join_181 rfl ?_
            refine ww_ldc2 hX (pc := 183) (x := 1000000000) dX0_join_183 tb_718 ?_
            refine ww_lcmp hX (pc := 186) dX0_join_186 ?_
            refine ww_if_gt hX (pc := 187) (tgt := 203) dX0_join_187 (by decide) (fun h_187 => ?_) (fun h_187 => ?_)
            · simp only [w32_mod] at h_187
              refine ww_iconst hX (pc := 203) (x := 0) dX0_join_203 rfl ?_
              refine rZ hX (pc := 204) hT (Nat.le_refl 0) (Nat.le_refl 0) dX0_join_204 (by decide) ?_
              exact ⟨rfl, kJ_180, by omega, zJo_r (by rw [ho]; omega) hval (fun g => by omega) (fun g => by omega) (by rw [eJ_180]; exact up2_row ..)⟩
            · simp only [w32_mod] at h_187
              refine ww_lload hX (pc := 190) dX0_join_190 rfl ?_
              refine ww_ldc2 hX (pc := 192) (x := (-1000000000)) dX0_join_192 tb_719 ?_
              refine ww_lcmp hX (pc := 195) dX0_join_195 ?_
              refine ww_if_lt hX (pc := 196) (tgt := 203) dX0_join_196 (by decide) (fun h_196 => ?_) (fun h_196 => ?_)
              · simp only [w32_mod] at h_196
                refine ww_iconst hX (pc := 203) (x := 0) dX0_join_203 rfl ?_
                refine rZ hX (pc := 204) hT (Nat.le_refl 0) (Nat.le_refl 0) dX0_join_204 (by decide) ?_
                exact ⟨rfl, kJ_180, by omega, zJo_r (by rw [ho]; omega) hval (fun g => by omega) (fun g => by omega) (by rw [eJ_180]; exact up2_row ..)⟩
              · simp only [w32_mod] at h_196
                refine ww_iconst hX (pc := 199) (x := 1) dX0_join_199 rfl ?_
                refine ww_goto hX (pc := 200) (tgt := 204) dX0_join_200 (by decide) ?_
                refine rZ hX (pc := 204) hT (Nat.le_refl 0) (Nat.le_refl 0) dX0_join_204 (by decide) ?_
                exact ⟨rfl, kJ_180, by omega, zJo_r (by rw [ho]; omega) hval (fun g => by omega) (fun g => by omega) (by rw [eJ_180]; exact up2_row ..)⟩
        · refine ⟨77, 116, rfl, by decide, ?_⟩
          have ho : zOc a = 137 := by rw [show a = -15 by omega]; rfl
          refine ww_lload_n hX (pc := 116) dX0_join_116 rfl ?_
          refine ww_lload hX (pc := 117) dX0_join_117 rfl ?_
          refine ww_lrem hX (pc := 119) dX0_join_119 (by first | exact l_cmp_ne0 h_33 | (exfalso; omega)) ?_
          refine ww_nmL (fun v_120 hv_120 => ?_)
          refine ww_lstore hX (pc := 120) (lv' := [some (kR (some 15)), some (kI a), some (kI b), some (kL v_6), none, some (kL v_15), none, some (kL v_120), none]) dX0_join_120 (by decide) rfl rfl ?_
          refine ww_goto hX (pc := 122) (tgt := 173) dX0_join_122 (by decide) ?_
          have hval : zJv (zOc a) u v17 = v_120 := by rw [ho, zJv_137, hv_120, e6, e15]; exact (l_rem_t (by omega) (by omega) (by omega) (by omega)).symm
          have hvb : -2000000000000000000 ≤ v_120 ∧ v_120 ≤ 2000000000000000000 := by have h9 := tmod_le (b := v17) ru.1 ru.2; rw [← hval, ho, zJv_137]; omega
          have hw1 := w64_id (x := v_120) (by omega) (by omega)
          have hl1 := l_cmp_v v_120 1000000000
          have hl2 := l_cmp_v v_120 (-1000000000)
          have hk1 : w64 1000000000 = 1000000000 := rfl
          have hk2 : w64 (-1000000000) = -1000000000 := rfl
          refine ww_aload_n hX (pc := 173) dX0_join_173 rfl ?_
          refine ww_getR hX (pc := 174) fX0_17 (by decide) (xs_15 hL) (xr_15_1 hL) dX0_join_174 ?_
          refine ww_iload_n hX (pc := 177) dX0_join_177 rfl ?_
          refine ww_lload hX (pc := 178) dX0_join_178 rfl ?_
          refine ww_last hX (pc := 180) (xs_17 hL) (by decide) (by omega) (by omega) dX0_join_180 ?_
          refine ww_nmK (fun J_180 eJ_180 => ?_)
          have kJ_180 : Kp 15 18 Ja J_180 := by rw [eJ_180]; exact Kp_up (Kp_rf (a := 15) (b := 18)) _ _ (by decide)
          refine ww_lload hX (pc := 181) dX0_join_181 rfl ?_
          refine ww_ldc2 hX (pc := 183) (x := 1000000000) dX0_join_183 tb_718 ?_
          refine ww_lcmp hX (pc := 186) dX0_join_186 ?_
          refine ww_if_gt hX (pc := 187) (tgt := 203) dX0_join_187 (by decide) (fun h_187 => ?_) (fun h_187 => ?_)
          · simp only [w32_mod] at h_187
            refine ww_iconst hX (pc := 203) (x := 0) dX0_join_203 rfl ?_
            refine rZ hX (pc := 204) hT (Nat.le_refl 0) (Nat.le_refl 0) dX0_join_204 (by decide) ?_
            exact ⟨rfl, kJ_180, by omega, zJo_r (by rw [ho]; omega) hval (fun g => by omega) (fun g => by omega) (by rw [eJ_180]; exact up2_row ..)⟩
          · simp only [w32_mod] at h_187
            refine ww_lload hX (pc := 190) dX0_join_190 rfl ?_
            refine ww_ldc2 hX (pc := 192) (x := (-1000000000)) dX0_join_192 tb_719 ?_
            refine ww_lcmp hX (pc := 195) dX0_join_195 ?_
            refine ww_if_lt hX (pc := 196) (tgt := 203) dX0_join_196 (by decide) (fun h_196 => ?_) (fun h_196 => ?_)
            · simp only [w32_mod] at h_196
              refine ww_iconst hX (pc := 203) (x := 0) dX0_join_203 rfl ?_
              refine rZ hX (pc := 204) hT (Nat.le_refl 0) (Nat.le_refl 0) dX0_join_204 (by decide) ?_
              exact ⟨rfl, kJ_180, by omega, zJo_r (by rw [ho]; omega) hval (fun g => by omega) (fun g => by omega) (by rw [eJ_180]; exact up2_row ..)⟩
            · simp only [w32_mod] at h_196
              refine ww_iconst hX (pc := 199) (x := 1) dX0_join_199 rfl ?_
              refine ww_goto hX (pc := 200) (tgt := 204) dX0_join_200 (by decide) ?_
              refine rZ hX (pc := 204) hT (Nat.le_refl 0) (Nat.le_refl 0) dX0_join_204 (by decide) ?_
              exact ⟨rfl, kJ_180, by omega, zJo_r (by rw [ho]; omega) hval (fun g => by omega) (fun g => by omega) (by rw [eJ_180]; exact up2_row ..)⟩
        · refine ⟨68, 107, rfl, by decide, ?_⟩
          have ho : zOc a = 147 := by rw [show a = -14 by omega]; rfl
          refine ww_lload_n hX (pc := 107) dX0_join_107 rfl ?_
          refine ww_lload hX (pc := 108) dX0_join_108 rfl ?_
          refine ww_ldiv hX (pc := 110) dX0_join_110 (by first | exact l_cmp_ne0 h_33 | (exfalso; omega)) ?_
          refine ww_nmL (fun v_111 hv_111 => ?_)
          refine ww_lstore hX (pc := 111) (lv' := [some (kR (some 15)), some (kI a), some (kI b), some (kL v_6), none, some (kL v_15), none, some (kL v_111), none]) dX0_join_111 (by decide) rfl rfl ?_
          refine ww_goto hX (pc := 113) (tgt := 173) dX0_join_113 (by decide) ?_
          have hval : zJv (zOc a) u v17 = v_111 := by rw [ho, zJv_147, hv_111, e6, e15]; exact (l_div_t (by omega) (by omega) (by omega) (by omega)).symm
          have hvb : -2000000000000000000 ≤ v_111 ∧ v_111 ≤ 2000000000000000000 := by have h9 := tdiv_le (b := v17) ru.1 ru.2; rw [← hval, ho, zJv_147]; omega
          have hw1 := w64_id (x := v_111) (by omega) (by omega)
          have hl1 := l_cmp_v v_111 1000000000
          have hl2 := l_cmp_v v_111 (-1000000000)
          have hk1 : w64 1000000000 = 1000000000 := rfl
          have hk2 : w64 (-1000000000) = -1000000000 := rfl
          refine ww_aload_n hX (pc := 173) dX0_join_173 rfl ?_
          refine ww_getR hX (pc := 174) fX0_17 (by decide) (xs_15 hL) (xr_15_1 hL) dX0_join_174 ?_
          refine ww_iload_n hX (pc := 177) dX0_join_177 rfl ?_
          refine ww_lload hX (pc := 178) dX0_join_178 rfl ?_
          refine ww_last hX (pc := 180) (xs_17 hL) (by decide) (by omega) (by omega) dX0_join_180 ?_
          refine ww_nmK (fun J_180 eJ_180 => ?_)
          have kJ_180 : Kp 15 18 Ja J_180 := by rw [eJ_180]; exact Kp_up (Kp_rf (a := 15) (b := 18)) _ _ (by decide)
          refine ww_lload hX (pc := 181) dX0_join_181 rfl ?_
          refine ww_ldc2 hX (pc := 183) (x := 1000000000) dX0_join_183 tb_718 ?_
          refine ww_lcmp hX (pc := 186) dX0_join_186 ?_
          refine ww_if_gt hX (pc := 187) (tgt := 203) dX0_join_187 (by decide) (fun h_187 => ?_) (fun h_187 => ?_)
          · simp only [w32_mod] at h_187
            refine ww_iconst hX (pc := 203) (x := 0) dX0_join_203 rfl ?_
            refine rZ hX (pc := 204) hT (Nat.le_refl 0) (Nat.le_refl 0) dX0_join_204 (by decide) ?_
            exact ⟨rfl, kJ_180, by omega, zJo_r (by rw [ho]; omega) hval (fun g => by omega) (fun g => by omega) (by rw [eJ_180]; exact up2_row ..)⟩
          · simp only [w32_mod] at h_187
            refine ww_lload hX (pc := 190) dX0_join_190 rfl ?_
            refine ww_ldc2 hX (pc := 192) (x := (-1000000000)) dX0_join_192 tb_719 ?_
            refine ww_lcmp hX (pc := 195) dX0_join_195 ?_
            refine ww_if_lt hX (pc := 196) (tgt := 203) dX0_join_196 (by decide) (fun h_196 => ?_) (fun h_196 => ?_)
            · simp only [w32_mod] at h_196
              refine ww_iconst hX (pc := 203) (x := 0) dX0_join_203 rfl ?_
              refine rZ hX (pc := 204) hT (Nat.le_refl 0) (Nat.le_refl 0) dX0_join_204 (by decide) ?_
              exact ⟨rfl, kJ_180, by omega, zJo_r (by rw [ho]; omega) hval (fun g => by omega) (fun g => by omega) (by rw [eJ_180]; exact up2_row ..)⟩
            · simp only [w32_mod] at h_196
              refine ww_iconst hX (pc := 199) (x := 1) dX0_join_199 rfl ?_
              refine ww_goto hX (pc := 200) (tgt := 204) dX0_join_200 (by decide) ?_
              refine rZ hX (pc := 204) hT (Nat.le_refl 0) (Nat.le_refl 0) dX0_join_204 (by decide) ?_
              exact ⟨rfl, kJ_180, by omega, zJo_r (by rw [ho]; omega) hval (fun g => by omega) (fun g => by omega) (by rw [eJ_180]; exact up2_row ..)⟩
        · refine ⟨59, 98, rfl, by decide, ?_⟩
          have ho : zOc a = 142 := by rw [show a = -13 by omega]; rfl
          refine ww_lload_n hX (pc := 98) dX0_join_98 rfl ?_
          refine ww_lload hX (pc := 99) dX0_join_99 rfl ?_
          refine ww_lmul hX (pc := 101) dX0_join_101 ?_
          refine ww_nmL (fun v_102 hv_102 => ?_)
          refine ww_lstore hX (pc := 102) (lv' := [some (kR (some 15)), some (kI a), some (kI b), some (kL v_6), none, some (kL v_15), none, some (kL v_102), none]) dX0_join_102 (by decide) rfl rfl ?_
          refine ww_goto hX (pc := 104) (tgt := 173) dX0_join_104 (by decide) ?_
          have hval : zJv (zOc a) u v17 = v_102 := by rw [ho, zJv_142, hv_102, e6, e15]
          have hvb : -2000000000000000000 ≤ v_102 ∧ v_102 ≤ 2000000000000000000 := by have h9 := mul_le9 ru.1 ru.2 rv.1 rv.2; rw [← hval, ho, zJv_142]; omega
          have hw1 := w64_id (x := v_102) (by omega) (by omega)
          have hl1 := l_cmp_v v_102 1000000000
          have hl2 := l_cmp_v v_102 (-1000000000)
          have hk1 : w64 1000000000 = 1000000000 := rfl
          have hk2 : w64 (-1000000000) = -1000000000 := rfl
          refine ww_aload_n hX (pc := 173) dX0_join_173 rfl ?_
          refine ww_getR hX (pc := 174) fX0_17 (by decide) (xs_15 hL) (xr_15_1 hL) dX0_join_174 ?_
          refine ww_iload_n hX (pc := 177) dX0_join_177 rfl ?_
          refine ww_lload hX (pc := 178) dX0_join_178 rfl ?_
          refine ww_last hX (pc := 180) (xs_17 hL) (by decide) (by omega) (by omega) dX0_join_180 ?_
          refine ww_nmK (fun J_180 eJ_180 => ?_)
          have kJ_180 : Kp 15 18 Ja J_180 := by rw [eJ_180]; exact Kp_up (Kp_rf (a := 15) (b := 18)) _ _ (by decide)
          refine ww_lload hX (pc := 181) dX0_join_181 rfl ?_
          refine ww_ldc2 hX (pc := 183) (x := 1000000000) dX0_join_183 tb_718 ?_
          refine ww_lcmp hX (pc := 186) dX0_join_186 ?_
          refine ww_if_gt hX (pc := 187) (tgt := 203) dX0_join_187 (by decide) (fun h_187 => ?_) (fun h_187 => ?_)
          · simp only [w32_mod] at h_187
            refine ww_iconst hX (pc := 203) (x := 0) dX0_join_203 rfl ?_
            refine rZ hX (pc := 204) hT (Nat.le_refl 0) (Nat.le_refl 0) dX0_join_204 (by decide) ?_
            exact ⟨rfl, kJ_180, by omega, zJo_r (by rw [ho]; omega) hval (fun g => by omega) (fun g => by omega) (by rw [eJ_180]; exact up2_row ..)⟩
          · simp only [w32_mod] at h_187
            refine ww_lload hX (pc := 190) dX0_join_190 rfl ?_
            refine ww_ldc2 hX (pc := 192) (x := (-1000000000)) dX0_join_192 tb_719 ?_
            refine ww_lcmp hX (pc := 195) dX0_join_195 ?_
            refine ww_if_lt hX (pc := 196) (tgt := 203) dX0_join_196 (by decide) (fun h_196 => ?_) (fun h_196 => ?_)
            · simp only [w32_mod] at h_196
              refine ww_iconst hX (pc := 203) (x := 0) dX0_join_203 rfl ?_
              refine rZ hX (pc := 204) hT (Nat.le_refl 0) (Nat.le_refl 0) dX0_join_204 (by decide) ?_
              exact ⟨rfl, kJ_180, by omega, zJo_r (by rw [ho]; omega) hval (fun g => by omega) (fun g => by omega) (by rw [eJ_180]; exact up2_row ..)⟩
            · simp only [w32_mod] at h_196
              refine ww_iconst hX (pc := 199) (x := 1) dX0_join_199 rfl ?_
              refine ww_goto hX (pc := 200) (tgt := 204) dX0_join_200 (by decide) ?_
              refine rZ hX (pc := 204) hT (Nat.le_refl 0) (Nat.le_refl 0) dX0_join_204 (by decide) ?_
              exact ⟨rfl, kJ_180, by omega, zJo_r (by rw [ho]; omega) hval (fun g => by omega) (fun g => by omega) (by rw [eJ_180]; exact up2_row ..)⟩
        · refine ⟨50, 89, rfl, by decide, ?_⟩
          have ho : zOc a = 145 := by rw [show a = -12 by omega]; rfl
          refine ww_lload_n hX (pc := 89) dX0_join_89 rfl ?_
          refine ww_lload hX (pc := 90) dX0_join_90 rfl ?_
          refine ww_lsub hX (pc := 92) dX0_join_92 ?_
          refine ww_nmL (fun v_93 hv_93 => ?_)
          refine ww_lstore hX (pc := 93) (lv' := [some (kR (some 15)), some (kI a), some (kI b), some (kL v_6), none, some (kL v_15), none, some (kL v_93), none]) dX0_join_93 (by decide) rfl rfl ?_
          refine ww_goto hX (pc := 95) (tgt := 173) dX0_join_95 (by decide) ?_
          have hval : zJv (zOc a) u v17 = v_93 := by rw [ho, zJv_145]; omega
          have hvb : -2000000000000000000 ≤ v_93 ∧ v_93 ≤ 2000000000000000000 := by omega
          have hw1 := w64_id (x := v_93) (by omega) (by omega)
          have hl1 := l_cmp_v v_93 1000000000
          have hl2 := l_cmp_v v_93 (-1000000000)
          have hk1 : w64 1000000000 = 1000000000 := rfl
          have hk2 : w64 (-1000000000) = -1000000000 := rfl
          refine ww_aload_n hX (pc := 173) dX0_join_173 rfl ?_
          refine ww_getR hX (pc := 174) fX0_17 (by decide) (xs_15 hL) (xr_15_1 hL) dX0_join_174 ?_
          refine ww_iload_n hX (pc := 177) dX0_join_177 rfl ?_
          refine ww_lload hX (pc := 178) dX0_join_178 rfl ?_
          refine ww_last hX (pc := 180) (xs_17 hL) (by decide) (by omega) (by omega) dX0_join_180 ?_
          refine ww_nmK (fun J_180 eJ_180 => ?_)
          have kJ_180 : Kp 15 18 Ja J_180 := by rw [eJ_180]; exact Kp_up (Kp_rf (a := 15) (b := 18)) _ _ (by decide)
          refine ww_lload hX (pc := 181) dX0_join_181 rfl ?_
          refine ww_ldc2 hX (pc := 183) (x := 1000000000) dX0_join_183 tb_718 ?_
          refine ww_lcmp hX (pc := 186) dX0_join_186 ?_
          refine ww_if_gt hX (pc := 187) (tgt := 203) dX0_join_187 (by decide) (fun h_187 => ?_) (fun h_187 => ?_)
          · simp only [w32_mod] at h_187
            refine ww_iconst hX (pc := 203) (x := 0) dX0_join_203 rfl ?_
            refine rZ hX (pc := 204) hT (Nat.le_refl 0) (Nat.le_refl 0) dX0_join_204 (by decide) ?_
            exact ⟨rfl, kJ_180, by omega, zJo_r (by rw [ho]; omega) hval (fun g => by omega) (fun g => by omega) (by rw [eJ_180]; exact up2_row ..)⟩
          · simp only [w32_mod] at h_187
            refine ww_lload hX (pc := 190) dX0_join_190 rfl ?_
            refine ww_ldc2 hX (pc := 192) (x := (-1000000000)) dX0_join_192 tb_719 ?_
            refine ww_lcmp hX (pc := 195) dX0_join_195 ?_
            refine ww_if_lt hX (pc := 196) (tgt := 203) dX0_join_196 (by decide) (fun h_196 => ?_) (fun h_196 => ?_)
            · simp only [w32_mod] at h_196
              refine ww_iconst hX (pc := 203) (x := 0) dX0_join_203 rfl ?_
              refine rZ hX (pc := 204) hT (Nat.le_refl 0) (Nat.le_refl 0) dX0_join_204 (by decide) ?_
              exact ⟨rfl, kJ_180, by omega, zJo_r (by rw [ho]; omega) hval (fun g => by omega) (fun g => by omega) (by rw [eJ_180]; exact up2_row ..)⟩
            · simp only [w32_mod] at h_196
              refine ww_iconst hX (pc := 199) (x := 1) dX0_join_199 rfl ?_
              refine ww_goto hX (pc := 200) (tgt := 204) dX0_join_200 (by decide) ?_
              refine rZ hX (pc := 204) hT (Nat.le_refl 0) (Nat.le_refl 0) dX0_join_204 (by decide) ?_
              exact ⟨rfl, kJ_180, by omega, zJo_r (by rw [ho]; omega) hval (fun g => by omega) (fun g => by omega) (by rw [eJ_180]; exact up2_row ..)⟩
        · refine ⟨41, 80, rfl, by decide, ?_⟩
          have ho : zOc a = 143 := by rw [show a = -11 by omega]; rfl
          refine ww_lload_n hX (pc := 80) dX0_join_80 rfl ?_
          refine ww_lload hX (pc := 81) dX0_join_81 rfl ?_
          refine ww_ladd hX (pc := 83) dX0_join_83 ?_
          refine ww_nmL (fun v_84 hv_84 => ?_)
          refine ww_lstore hX (pc := 84) (lv' := [some (kR (some 15)), some (kI a), some (kI b), some (kL v_6), none, some (kL v_15), none, some (kL v_84), none]) dX0_join_84 (by decide) rfl rfl ?_
          refine ww_goto hX (pc := 86) (tgt := 173) dX0_join_86 (by decide) ?_
          have hval : zJv (zOc a) u v17 = v_84 := by rw [ho, zJv_143]; omega
          have hvb : -2000000000000000000 ≤ v_84 ∧ v_84 ≤ 2000000000000000000 := by omega
          have hw1 := w64_id (x := v_84) (by omega) (by omega)
          have hl1 := l_cmp_v v_84 1000000000
          have hl2 := l_cmp_v v_84 (-1000000000)
          have hk1 : w64 1000000000 = 1000000000 := rfl
          have hk2 : w64 (-1000000000) = -1000000000 := rfl
          refine ww_aload_n hX (pc := 173) dX0_join_173 rfl ?_
          refine ww_getR hX (pc := 174) fX0_17 (by decide) (xs_15 hL) (xr_15_1 hL) dX0_join_174 ?_
          refine ww_iload_n hX (pc := 177) dX0_join_177 rfl ?_
          refine ww_lload hX (pc := 178) dX0_join_178 rfl ?_
          refine ww_last hX (pc := 180) (xs_17 hL) (by decide) (by omega) (by omega) dX0_join_180 ?_
          refine ww_nmK (fun J_180 eJ_180 => ?_)
          have kJ_180 : Kp 15 18 Ja J_180 := by rw [eJ_180]; exact Kp_up (Kp_rf (a := 15) (b := 18)) _ _ (by decide)
          refine ww_lload hX (pc := 181) dX0_join_181 rfl ?_
          refine ww_ldc2 hX (pc := 183) (x := 1000000000) dX0_join_183 tb_718 ?_
          refine ww_lcmp hX (pc := 186) dX0_join_186 ?_
          refine ww_if_gt hX (pc := 187) (tgt := 203) dX0_join_187 (by decide) (fun h_187 => ?_) (fun h_187 => ?_)
          · simp only [w32_mod] at h_187
            refine ww_iconst hX (pc := 203) (x := 0) dX0_join_203 rfl ?_
            refine rZ hX (pc := 204) hT (Nat.le_refl 0) (Nat.le_refl 0) dX0_join_204 (by decide) ?_
            exact ⟨rfl, kJ_180, by omega, zJo_r (by rw [ho]; omega) hval (fun g => by omega) (fun g => by omega) (by rw [eJ_180]; exact up2_row ..)⟩
          · simp only [w32_mod] at h_187
            refine ww_lload hX (pc := 190) dX0_join_190 rfl ?_
            refine ww_ldc2 hX (pc := 192) (x := (-1000000000)) dX0_join_192 tb_719 ?_
            refine ww_lcmp hX (pc := 195) dX0_join_195 ?_
            refine ww_if_lt hX (pc := 196) (tgt := 203) dX0_join_196 (by decide) (fun h_196 => ?_) (fun h_196 => ?_)
            · simp only [w32_mod] at h_196
              refine ww_iconst hX (pc := 203) (x := 0) dX0_join_203 rfl ?_
              refine rZ hX (pc := 204) hT (Nat.le_refl 0) (Nat.le_refl 0) dX0_join_204 (by decide) ?_
              exact ⟨rfl, kJ_180, by omega, zJo_r (by rw [ho]; omega) hval (fun g => by omega) (fun g => by omega) (by rw [eJ_180]; exact up2_row ..)⟩
            · simp only [w32_mod] at h_196
              refine ww_iconst hX (pc := 199) (x := 1) dX0_join_199 rfl ?_
              refine ww_goto hX (pc := 200) (tgt := 204) dX0_join_200 (by decide) ?_
              refine rZ hX (pc := 204) hT (Nat.le_refl 0) (Nat.le_refl 0) dX0_join_204 (by decide) ?_
              exact ⟨rfl, kJ_180, by omega, zJo_r (by rw [ho]; omega) hval (fun g => by omega) (fun g => by omega) (by rw [eJ_180]; exact up2_row ..)⟩
    · simp only [w32_mod] at h_33
      refine ww_iconst hX (pc := 36) (x := 0) dX0_join_36 rfl ?_
      refine rZ hX (pc := 37) hT (Nat.le_refl 0) (Nat.le_refl 0) dX0_join_37 (by decide) ?_
      exact ⟨rfl, (Kp_rf (a := 15) (b := 18)), by omega, (by
          rcases (show a = -14 ∨ a = -15 by omega) with h9 | h9
          · rw [h9]; exact zJo_0 ⟨Or.inl rfl, by omega⟩ (by omega)
          · rw [h9]; exact zJo_0 ⟨Or.inr rfl, by omega⟩ (by omega))⟩
  · simp only [w32_mod] at h_20
    refine ww_iload_n hX (pc := 23) dX0_join_23 rfl ?_
    refine ww_bipush hX (pc := 24) (x := (-15)) dX0_join_24 (by decide) ?_
    refine ww_icmp_ne hX (pc := 26) (tgt := 38) dX0_join_26 (by decide) (fun h_26 => ?_) (fun h_26 => ?_)
    · simp only [w32_mod] at h_26
      refine ww_iload_n hX (pc := 38) dX0_join_38 rfl ?_
      refine ww_table hX (pc := 39) dX0_join_39 159 (by decide) (fun h_39 => ?_) (fun i_39 h_39 e_39 => ?_)
      · simp only [w32_mod] at h_39
        have ho : zOc a = 161 := zOc_d (by omega)
        have hl9 := l_cmp_v v_6 v_15
        refine ww_lload_n hX (pc := 159) dX0_join_159 rfl ?_
        refine ww_lload hX (pc := 160) dX0_join_160 rfl ?_
        refine ww_lcmp hX (pc := 162) dX0_join_162 ?_
        refine ww_if_ne hX (pc := 163) (tgt := 170) dX0_join_163 (by decide) (fun h_163 => ?_) (fun h_163 => ?_)
        · simp only [w32_mod] at h_163
          refine ww_lconst hX (pc := 170) (x := 0) dX0_join_170 (by decide) ?_
          refine ww_lstore hX (pc := 171) (lv' := [some (kR (some 15)), some (kI a), some (kI b), some (kL v_6), none, some (kL v_15), none, some (kL 0), none]) dX0_join_171 (by decide) rfl rfl ?_
          have hval : zJv (zOc a) u v17 = 0 := by rw [ho, zJv_161]; split <;> omega
          have hvb : -2000000000000000000 ≤ 0 ∧ 0 ≤ 2000000000000000000 := by omega
          have hw1 := w64_id (x := 0) (by omega) (by omega)
          have hl1 := l_cmp_v 0 1000000000
          have hl2 := l_cmp_v 0 (-1000000000)
          have hk1 : w64 1000000000 = 1000000000 := rfl
          have hk2 : w64 (-1000000000) = -1000000000 := rfl
          refine ww_aload_n hX (pc := 173) dX0_join_173 rfl ?_
          refine ww_getR hX (pc := 174) fX0_17 (by decide) (xs_15 hL) (xr_15_1 hL) dX0_join_174 ?_
          refine ww_iload_n hX (pc := 177) dX0_join_177 rfl ?_
          refine ww_lload hX (pc := 178) dX0_join_178 rfl ?_
          refine ww_last hX (pc := 180) (xs_17 hL) (by decide) (by omega) (by omega) dX0_join_180 ?_
          refine ww_nmK (fun J_180 eJ_180 => ?_)
          have kJ_180 : Kp 15 18 Ja J_180 := by rw [eJ_180]; exact Kp_up (Kp_rf (a := 15) (b := 18)) _ _ (by decide)
          refine ww_lload hX (pc := 181) dX0_join_181 rfl ?_
          refine ww_ldc2 hX (pc := 183) (x := 1000000000) dX0_join_183 tb_718 ?_
          refine ww_lcmp hX (pc := 186) dX0_join_186 ?_
          refine ww_if_gt hX (pc := 187) (tgt := 203) dX0_join_187 (by decide) (fun h_187 => ?_) (fun h_187 => ?_)
          · simp only [w32_mod] at h_187
            refine ww_iconst hX (pc := 203) (x := 0) dX0_join_203 rfl ?_
            refine rZ hX (pc := 204) hT (Nat.le_refl 0) (Nat.le_refl 0) dX0_join_204 (by decide) ?_
            exact ⟨rfl, kJ_180, by omega, zJo_r (by rw [ho]; omega) hval (fun g => by omega) (fun g => by omega) (by rw [eJ_180]; exact up2_row ..)⟩
          · simp only [w32_mod] at h_187
            refine ww_lload hX (pc := 190) dX0_join_190 rfl ?_
            refine ww_ldc2 hX (pc := 192) (x := (-1000000000)) dX0_join_192 tb_719 ?_
            refine ww_lcmp hX (pc := 195) dX0_join_195 ?_
            refine ww_if_lt hX (pc := 196) (tgt := 203) dX0_join_196 (by decide) (fun h_196 => ?_) (fun h_196 => ?_)
            · simp only [w32_mod] at h_196
              refine ww_iconst hX (pc := 203) (x := 0) dX0_join_203 rfl ?_
              refine rZ hX (pc := 204) hT (Nat.le_refl 0) (Nat.le_refl 0) dX0_join_204 (by decide) ?_
              exact ⟨rfl, kJ_180, by omega, zJo_r (by rw [ho]; omega) hval (fun g => by omega) (fun g => by omega) (by rw [eJ_180]; exact up2_row ..)⟩
            · simp only [w32_mod] at h_196
              refine ww_iconst hX (pc := 199) (x := 1) dX0_join_199 rfl ?_
              refine ww_goto hX (pc := 200) (tgt := 204) dX0_join_200 (by decide) ?_
              refine rZ hX (pc := 204) hT (Nat.le_refl 0) (Nat.le_refl 0) dX0_join_204 (by decide) ?_
              exact ⟨rfl, kJ_180, by omega, zJo_r (by rw [ho]; omega) hval (fun g => by omega) (fun g => by omega) (by rw [eJ_180]; exact up2_row ..)⟩
        · simp only [w32_mod] at h_163
          refine ww_lconst hX (pc := 166) (x := 1) dX0_join_166 (by decide) ?_
          refine ww_goto hX (pc := 167) (tgt := 171) dX0_join_167 (by decide) ?_
          refine ww_lstore hX (pc := 171) (lv' := [some (kR (some 15)), some (kI a), some (kI b), some (kL v_6), none, some (kL v_15), none, some (kL 1), none]) dX0_join_171 (by decide) rfl rfl ?_
          have hval : zJv (zOc a) u v17 = 1 := by rw [ho, zJv_161]; split <;> omega
          have hvb : -2000000000000000000 ≤ 1 ∧ 1 ≤ 2000000000000000000 := by omega
          have hw1 := w64_id (x := 1) (by omega) (by omega)
          have hl1 := l_cmp_v 1 1000000000
          have hl2 := l_cmp_v 1 (-1000000000)
          have hk1 : w64 1000000000 = 1000000000 := rfl
          have hk2 : w64 (-1000000000) = -1000000000 := rfl
          refine ww_aload_n hX (pc := 173) dX0_join_173 rfl ?_
          refine ww_getR hX (pc := 174) fX0_17 (by decide) (xs_15 hL) (xr_15_1 hL) dX0_join_174 ?_
          refine ww_iload_n hX (pc := 177) dX0_join_177 rfl ?_
          refine ww_lload hX (pc := 178) dX0_join_178 rfl ?_
          refine ww_last hX (pc := 180) (xs_17 hL) (by decide) (by omega) (by omega) dX0_join_180 ?_
          refine ww_nmK (fun J_180 eJ_180 => ?_)
          have kJ_180 : Kp 15 18 Ja J_180 := by rw [eJ_180]; exact Kp_up (Kp_rf (a := 15) (b := 18)) _ _ (by decide)
          refine ww_lload hX (pc := 181) dX0_join_181 rfl ?_
          refine ww_ldc2 hX (pc := 183) (x := 1000000000) dX0_join_183 tb_718 ?_
          refine ww_lcmp hX (pc := 186) dX0_join_186 ?_
          refine ww_if_gt hX (pc := 187) (tgt := 203) dX0_join_187 (by decide) (fun h_187 => ?_) (fun h_187 => ?_)
          · simp only [w32_mod] at h_187
            refine ww_iconst hX (pc := 203) (x := 0) dX0_join_203 rfl ?_
            refine rZ hX (pc := 204) hT (Nat.le_refl 0) (Nat.le_refl 0) dX0_join_204 (by decide) ?_
            exact ⟨rfl, kJ_180, by omega, zJo_r (by rw [ho]; omega) hval (fun g => by omega) (fun g => by omega) (by rw [eJ_180]; exact up2_row ..)⟩
          · simp only [w32_mod] at h_187
            refine ww_lload hX (pc := 190) dX0_join_190 rfl ?_
            refine ww_ldc2 hX (pc := 192) (x := (-1000000000)) dX0_join_192 tb_719 ?_
            refine ww_lcmp hX (pc := 195) dX0_join_195 ?_
            refine ww_if_lt hX (pc := 196) (tgt := 203) dX0_join_196 (by decide) (fun h_196 => ?_) (fun h_196 => ?_)
            · simp only [w32_mod] at h_196
              refine ww_iconst hX (pc := 203) (x := 0) dX0_join_203 rfl ?_
              refine rZ hX (pc := 204) hT (Nat.le_refl 0) (Nat.le_refl 0) dX0_join_204 (by decide) ?_
              exact ⟨rfl, kJ_180, by omega, zJo_r (by rw [ho]; omega) hval (fun g => by omega) (fun g => by omega) (by rw [eJ_180]; exact up2_row ..)⟩
            · simp only [w32_mod] at h_196
              refine ww_iconst hX (pc := 199) (x := 1) dX0_join_199 rfl ?_
              refine ww_goto hX (pc := 200) (tgt := 204) dX0_join_200 (by decide) ?_
              refine rZ hX (pc := 204) hT (Nat.le_refl 0) (Nat.le_refl 0) dX0_join_204 (by decide) ?_
              exact ⟨rfl, kJ_180, by omega, zJo_r (by rw [ho]; omega) hval (fun g => by omega) (fun g => by omega) (by rw [eJ_180]; exact up2_row ..)⟩
      · simp only [w32_mod] at e_39
        rcases (show i_39 = 0 ∨ i_39 = 1 ∨ i_39 = 2 ∨ i_39 = 3 ∨ i_39 = 4 ∨ i_39 = 5 ∨ i_39 = 6 by omega) with rfl | rfl | rfl | rfl | rfl | rfl | rfl
        · refine ⟨103, 142, rfl, by decide, ?_⟩
          have ho : zOc a = 162 := by rw [show a = -17 by omega]; rfl
          have hl9 := l_cmp_v v_6 v_15
          refine ww_lload_n hX (pc := 142) dX0_join_142 rfl ?_
          refine ww_lload hX (pc := 143) dX0_join_143 rfl ?_
          refine ww_lcmp hX (pc := 145) dX0_join_145 ?_
          refine ww_if_le hX (pc := 146) (tgt := 153) dX0_join_146 (by decide) (fun h_146 => ?_) (fun h_146 => ?_)
          · simp only [w32_mod] at h_146
            refine ww_lconst hX (pc := 153) (x := 0) dX0_join_153 (by decide) ?_
            refine ww_lstore hX (pc := 154) (lv' := [some (kR (some 15)), some (kI a), some (kI b), some (kL v_6), none, some (kL v_15), none, some (kL 0), none]) dX0_join_154 (by decide) rfl rfl ?_
            refine ww_goto hX (pc := 156) (tgt := 173) dX0_join_156 (by decide) ?_
            have hval : zJv (zOc a) u v17 = 0 := by rw [ho, zJv_162]; split <;> omega
            have hvb : -2000000000000000000 ≤ 0 ∧ 0 ≤ 2000000000000000000 := by omega
            have hw1 := w64_id (x := 0) (by omega) (by omega)
            have hl1 := l_cmp_v 0 1000000000
            have hl2 := l_cmp_v 0 (-1000000000)
            have hk1 : w64 1000000000 = 1000000000 := rfl
            have hk2 : w64 (-1000000000) = -1000000000 := rfl
            refine ww_aload_n hX (pc := 173) dX0_join_173 rfl ?_
            refine ww_getR hX (pc := 174) fX0_17 (by decide) (xs_15 hL) (xr_15_1 hL) dX0_join_174 ?_
            refine ww_iload_n hX (pc := 177) dX0_join_177 rfl ?_
            refine ww_lload hX (pc := 178) dX0_join_178 rfl ?_
            refine ww_last hX (pc := 180) (xs_17 hL) (by decide) (by omega) (by omega) dX0_join_180 ?_
            refine ww_nmK (fun J_180 eJ_180 => ?_)
            have kJ_180 : Kp 15 18 Ja J_180 := by rw [eJ_180]; exact Kp_up (Kp_rf (a := 15) (b := 18)) _ _ (by decide)
            refine ww_lload hX (pc := 181) dX0_join_181 rfl ?_
            refine ww_ldc2 hX (pc := 183) (x := 1000000000) dX0_join_183 tb_718 ?_
            refine ww_lcmp hX (pc := 186) dX0_join_186 ?_
            refine ww_if_gt hX (pc := 187) (tgt := 203) dX0_join_187 (by decide) (fun h_187 => ?_) (fun h_187 => ?_)
            · simp only [w32_mod] at h_187
              refine ww_iconst hX (pc := 203) (x := 0) dX0_join_203 rfl ?_
              refine rZ hX (pc := 204) hT (Nat.le_refl 0) (Nat.le_refl 0) dX0_join_204 (by decide) ?_
              exact ⟨rfl, kJ_180, by omega, zJo_r (by rw [ho]; omega) hval (fun g => by omega) (fun g => by omega) (by rw [eJ_180]; exact up2_row ..)⟩
            · simp only [w32_mod] at h_187
              refine ww_lload hX (pc := 190) dX0_join_190 rfl ?_
              refine ww_ldc2 hX (pc := 192) (x := (-1000000000)) dX0_join_192 tb_719 ?_
              refine ww_lcmp hX (pc := 195) dX0_join_195 ?_
              refine ww_if_lt hX (pc := 196) (tgt := 203) dX0_join_196 (by decide) (fun h_196 => ?_) (fun h_196 => ?_)
              · simp only [w32_mod] at h_196
                refine ww_iconst hX (pc := 203) (x := 0) dX0_join_203 rfl ?_
                refine rZ hX (pc := 204) hT (Nat.le_refl 0) (Nat.le_refl 0) dX0_join_204 (by decide) ?_
                exact ⟨rfl, kJ_180, by omega, zJo_r (by rw [ho]; omega) hval (fun g => by omega) (fun g => by omega) (by rw [eJ_180]; exact up2_row ..)⟩
              · simp only [w32_mod] at h_196
                refine ww_iconst hX (pc := 199) (x := 1) dX0_join_199 rfl ?_
                refine ww_goto hX (pc := 200) (tgt := 204) dX0_join_200 (by decide) ?_
                refine rZ hX (pc := 204) hT (Nat.le_refl 0) (Nat.le_refl 0) dX0_join_204 (by decide) ?_
                exact ⟨rfl, kJ_180, by omega, zJo_r (by rw [ho]; omega) hval (fun g => by omega) (fun g => by omega) (by rw [eJ_180]; exact up2_row ..)⟩
          · simp only [w32_mod] at h_146
            refine ww_lconst hX (pc := 149) (x := 1) dX0_join_149 (by decide) ?_
            refine ww_goto hX (pc := 150) (tgt := 154) dX0_join_150 (by decide) ?_
            refine ww_lstore hX (pc := 154) (lv' := [some (kR (some 15)), some (kI a), some (kI b), some (kL v_6), none, some (kL v_15), none, some (kL 1), none]) dX0_join_154 (by decide) rfl rfl ?_
            refine ww_goto hX (pc := 156) (tgt := 173) dX0_join_156 (by decide) ?_
            have hval : zJv (zOc a) u v17 = 1 := by rw [ho, zJv_162]; split <;> omega
            have hvb : -2000000000000000000 ≤ 1 ∧ 1 ≤ 2000000000000000000 := by omega
            have hw1 := w64_id (x := 1) (by omega) (by omega)
            have hl1 := l_cmp_v 1 1000000000
            have hl2 := l_cmp_v 1 (-1000000000)
            have hk1 : w64 1000000000 = 1000000000 := rfl
            have hk2 : w64 (-1000000000) = -1000000000 := rfl
            refine ww_aload_n hX (pc := 173) dX0_join_173 rfl ?_
            refine ww_getR hX (pc := 174) fX0_17 (by decide) (xs_15 hL) (xr_15_1 hL) dX0_join_174 ?_
            refine ww_iload_n hX (pc := 177) dX0_join_177 rfl ?_
            refine ww_lload hX (pc := 178) dX0_join_178 rfl ?_
            refine ww_last hX (pc := 180) (xs_17 hL) (by decide) (by omega) (by omega) dX0_join_180 ?_
            refine ww_nmK (fun J_180 eJ_180 => ?_)
            have kJ_180 : Kp 15 18 Ja J_180 := by rw [eJ_180]; exact Kp_up (Kp_rf (a := 15) (b := 18)) _ _ (by decide)
            refine ww_lload hX (pc := 181) dX0_join_181 rfl ?_
            refine ww_ldc2 hX (pc := 183) (x := 1000000000) dX0_join_183 tb_718 ?_
            refine ww_lcmp hX (pc := 186) dX0_join_186 ?_
            refine ww_if_gt hX (pc := 187) (tgt := 203) dX0_join_187 (by decide) (fun h_187 => ?_) (fun h_187 => ?_)
            · simp only [w32_mod] at h_187
              refine ww_iconst hX (pc := 203) (x := 0) dX0_join_203 rfl ?_
              refine rZ hX (pc := 204) hT (Nat.le_refl 0) (Nat.le_refl 0) dX0_join_204 (by decide) ?_
              exact ⟨rfl, kJ_180, by omega, zJo_r (by rw [ho]; omega) hval (fun g => by omega) (fun g => by omega) (by rw [eJ_180]; exact up2_row ..)⟩
            · simp only [w32_mod] at h_187
              refine ww_lload hX (pc := 190) dX0_join_190 rfl ?_
              refine ww_ldc2 hX (pc := 192) (x := (-1000000000)) dX0_join_192 tb_719 ?_
              refine ww_lcmp hX (pc := 195) dX0_join_195 ?_
              refine ww_if_lt hX (pc := 196) (tgt := 203) dX0_join_196 (by decide) (fun h_196 => ?_) (fun h_196 => ?_)
              · simp only [w32_mod] at h_196
                refine ww_iconst hX (pc := 203) (x := 0) dX0_join_203 rfl ?_
                refine rZ hX (pc := 204) hT (Nat.le_refl 0) (Nat.le_refl 0) dX0_join_204 (by decide) ?_
                exact ⟨rfl, kJ_180, by omega, zJo_r (by rw [ho]; omega) hval (fun g => by omega) (fun g => by omega) (by rw [eJ_180]; exact up2_row ..)⟩
              · simp only [w32_mod] at h_196
                refine ww_iconst hX (pc := 199) (x := 1) dX0_join_199 rfl ?_
                refine ww_goto hX (pc := 200) (tgt := 204) dX0_join_200 (by decide) ?_
                refine rZ hX (pc := 204) hT (Nat.le_refl 0) (Nat.le_refl 0) dX0_join_204 (by decide) ?_
                exact ⟨rfl, kJ_180, by omega, zJo_r (by rw [ho]; omega) hval (fun g => by omega) (fun g => by omega) (by rw [eJ_180]; exact up2_row ..)⟩
        · refine ⟨86, 125, rfl, by decide, ?_⟩
          have ho : zOc a = 160 := by rw [show a = -16 by omega]; rfl
          have hl9 := l_cmp_v v_6 v_15
          refine ww_lload_n hX (pc := 125) dX0_join_125 rfl ?_
          refine ww_lload hX (pc := 126) dX0_join_126 rfl ?_
          refine ww_lcmp hX (pc := 128) dX0_join_128 ?_
          refine ww_if_ge hX (pc := 129) (tgt := 136) dX0_join_129 (by decide) (fun h_129 => ?_) (fun h_129 => ?_)
          · simp only [w32_mod] at h_129
            refine ww_lconst hX (pc := 136) (x := 0) dX0_join_136 (by decide) ?_
            refine ww_lstore hX (pc := 137) (lv' := [some (kR (some 15)), some (kI a), some (kI b), some (kL v_6), none, some (kL v_15), none, some (kL 0), none]) dX0_join_137 (by decide) rfl rfl ?_
            refine ww_goto hX (pc := 139) (tgt := 173) dX0_join_139 (by decide) ?_
            have hval : zJv (zOc a) u v17 = 0 := by rw [ho, zJv_160]; split <;> omega
            have hvb : -2000000000000000000 ≤ 0 ∧ 0 ≤ 2000000000000000000 := by omega
            have hw1 := w64_id (x := 0) (by omega) (by omega)
            have hl1 := l_cmp_v 0 1000000000
            have hl2 := l_cmp_v 0 (-1000000000)
            have hk1 : w64 1000000000 = 1000000000 := rfl
            have hk2 : w64 (-1000000000) = -1000000000 := rfl
            refine ww_aload_n hX (pc := 173) dX0_join_173 rfl ?_
            refine ww_getR hX (pc := 174) fX0_17 (by decide) (xs_15 hL) (xr_15_1 hL) dX0_join_174 ?_
            refine ww_iload_n hX (pc := 177) dX0_join_177 rfl ?_
            refine ww_lload hX (pc := 178) dX0_join_178 rfl ?_
            refine ww_last hX (pc := 180) (xs_17 hL) (by decide) (by omega) (by omega) dX0_join_180 ?_
            refine ww_nmK (fun J_180 eJ_180 => ?_)
            have kJ_180 : Kp 15 18 Ja J_180 := by rw [eJ_180]; exact Kp_up (Kp_rf (a := 15) (b := 18)) _ _ (by decide)
            refine ww_lload hX (pc := 181) dX0_join_181 rfl ?_
            refine ww_ldc2 hX (pc := 183) (x := 1000000000) dX0_join_183 tb_718 ?_
            refine ww_lcmp hX (pc := 186) dX0_join_186 ?_
            refine ww_if_gt hX (pc := 187) (tgt := 203) dX0_join_187 (by decide) (fun h_187 => ?_) (fun h_187 => ?_)
            · simp only [w32_mod] at h_187
              refine ww_iconst hX (pc := 203) (x := 0) dX0_join_203 rfl ?_
              refine rZ hX (pc := 204) hT (Nat.le_refl 0) (Nat.le_refl 0) dX0_join_204 (by decide) ?_
              exact ⟨rfl, kJ_180, by omega, zJo_r (by rw [ho]; omega) hval (fun g => by omega) (fun g => by omega) (by rw [eJ_180]; exact up2_row ..)⟩
            · simp only [w32_mod] at h_187
              refine ww_lload hX (pc := 190) dX0_join_190 rfl ?_
              refine ww_ldc2 hX (pc := 192) (x := (-1000000000)) dX0_join_192 tb_719 ?_
              refine ww_lcmp hX (pc := 195) dX0_join_195 ?_
              refine ww_if_lt hX (pc := 196) (tgt := 203) dX0_join_196 (by decide) (fun h_196 => ?_) (fun h_196 => ?_)
              · simp only [w32_mod] at h_196
                refine ww_iconst hX (pc := 203) (x := 0) dX0_join_203 rfl ?_
                refine rZ hX (pc := 204) hT (Nat.le_refl 0) (Nat.le_refl 0) dX0_join_204 (by decide) ?_
                exact ⟨rfl, kJ_180, by omega, zJo_r (by rw [ho]; omega) hval (fun g => by omega) (fun g => by omega) (by rw [eJ_180]; exact up2_row ..)⟩
              · simp only [w32_mod] at h_196
                refine ww_iconst hX (pc := 199) (x := 1) dX0_join_199 rfl ?_
                refine ww_goto hX (pc := 200) (tgt := 204) dX0_join_200 (by decide) ?_
                refine rZ hX (pc := 204) hT (Nat.le_refl 0) (Nat.le_refl 0) dX0_join_204 (by decide) ?_
                exact ⟨rfl, kJ_180, by omega, zJo_r (by rw [ho]; omega) hval (fun g => by omega) (fun g => by omega) (by rw [eJ_180]; exact up2_row ..)⟩
          · simp only [w32_mod] at h_129
            refine ww_lconst hX (pc := 132) (x := 1) dX0_join_132 (by decide) ?_
            refine ww_goto hX (pc := 133) (tgt := 137) dX0_join_133 (by decide) ?_
            refine ww_lstore hX (pc := 137) (lv' := [some (kR (some 15)), some (kI a), some (kI b), some (kL v_6), none, some (kL v_15), none, some (kL 1), none]) dX0_join_137 (by decide) rfl rfl ?_
            refine ww_goto hX (pc := 139) (tgt := 173) dX0_join_139 (by decide) ?_
            have hval : zJv (zOc a) u v17 = 1 := by rw [ho, zJv_160]; split <;> omega
            have hvb : -2000000000000000000 ≤ 1 ∧ 1 ≤ 2000000000000000000 := by omega
            have hw1 := w64_id (x := 1) (by omega) (by omega)
            have hl1 := l_cmp_v 1 1000000000
            have hl2 := l_cmp_v 1 (-1000000000)
            have hk1 : w64 1000000000 = 1000000000 := rfl
            have hk2 : w64 (-1000000000) = -1000000000 := rfl
            refine ww_aload_n hX (pc := 173) dX0_join_173 rfl ?_
            refine ww_getR hX (pc := 174) fX0_17 (by decide) (xs_15 hL) (xr_15_1 hL) dX0_join_174 ?_
            refine ww_iload_n hX (pc := 177) dX0_join_177 rfl ?_
            refine ww_lload hX (pc := 178) dX0_join_178 rfl ?_
            refine ww_last hX (pc := 180) (xs_17 hL) (by decide) (by omega) (by omega) dX0_join_180 ?_
            refine ww_nmK (fun J_180 eJ_180 => ?_)
            have kJ_180 : Kp 15 18 Ja J_180 := by rw [eJ_180]; exact Kp_up (Kp_rf (a := 15) (b := 18)) _ _ (by decide)
            refine ww_lload hX (pc := 181) dX0_join_181 rfl ?_
            refine ww_ldc2 hX (pc := 183) (x := 1000000000) dX0_join_183 tb_718 ?_
            refine ww_lcmp hX (pc := 186) dX0_join_186 ?_
            refine ww_if_gt hX (pc := 187) (tgt := 203) dX0_join_187 (by decide) (fun h_187 => ?_) (fun h_187 => ?_)
            · simp only [w32_mod] at h_187
              refine ww_iconst hX (pc := 203) (x := 0) dX0_join_203 rfl ?_
              refine rZ hX (pc := 204) hT (Nat.le_refl 0) (Nat.le_refl 0) dX0_join_204 (by decide) ?_
              exact ⟨rfl, kJ_180, by omega, zJo_r (by rw [ho]; omega) hval (fun g => by omega) (fun g => by omega) (by rw [eJ_180]; exact up2_row ..)⟩
            · simp only [w32_mod] at h_187
              refine ww_lload hX (pc := 190) dX0_join_190 rfl ?_
              refine ww_ldc2 hX (pc := 192) (x := (-1000000000)) dX0_join_192 tb_719 ?_
              refine ww_lcmp hX (pc := 195) dX0_join_195 ?_
              refine ww_if_lt hX (pc := 196) (tgt := 203) dX0_join_196 (by decide) (fun h_196 => ?_) (fun h_196 => ?_)
              · simp only [w32_mod] at h_196
                refine ww_iconst hX (pc := 203) (x := 0) dX0_join_203 rfl ?_
                refine rZ hX (pc := 204) hT (Nat.le_refl 0) (Nat.le_refl 0) dX0_join_204 (by decide) ?_
                exact ⟨rfl, kJ_180, by omega, zJo_r (by rw [ho]; omega) hval (fun g => by omega) (fun g => by omega) (by rw [eJ_180]; exact up2_row ..)⟩
              · simp only [w32_mod] at h_196
                refine ww_iconst hX (pc := 199) (x := 1) dX0_join_199 rfl ?_
                refine ww_goto hX (pc := 200) (tgt := 204) dX0_join_200 (by decide) ?_
                refine rZ hX (pc := 204) hT (Nat.le_refl 0) (Nat.le_refl 0) dX0_join_204 (by decide) ?_
                exact ⟨rfl, kJ_180, by omega, zJo_r (by rw [ho]; omega) hval (fun g => by omega) (fun g => by omega) (by rw [eJ_180]; exact up2_row ..)⟩
        · refine ⟨77, 116, rfl, by decide, ?_⟩
          have ho : zOc a = 137 := by rw [show a = -15 by omega]; rfl
          refine ww_lload_n hX (pc := 116) dX0_join_116 rfl ?_
          refine ww_lload hX (pc := 117) dX0_join_117 rfl ?_
          refine ww_lrem hX (pc := 119) dX0_join_119 (by first | exact l_cmp_ne0 h_33 | (exfalso; omega)) ?_
          refine ww_nmL (fun v_120 hv_120 => ?_)
          refine ww_lstore hX (pc := 120) (lv' := [some (kR (some 15)), some (kI a), some (kI b), some (kL v_6), none, some (kL v_15), none, some (kL v_120), none]) dX0_join_120 (by decide) rfl rfl ?_
          refine ww_goto hX (pc := 122) (tgt := 173) dX0_join_122 (by decide) ?_
          have hval : zJv (zOc a) u v17 = v_120 := by rw [ho, zJv_137, hv_120, e6, e15]; exact (l_rem_t (by omega) (by omega) (by omega) (by omega)).symm
          have hvb : -2000000000000000000 ≤ v_120 ∧ v_120 ≤ 2000000000000000000 := by have h9 := tmod_le (b := v17) ru.1 ru.2; rw [← hval, ho, zJv_137]; omega
          have hw1 := w64_id (x := v_120) (by omega) (by omega)
          have hl1 := l_cmp_v v_120 1000000000
          have hl2 := l_cmp_v v_120 (-1000000000)
          have hk1 : w64 1000000000 = 1000000000 := rfl
          have hk2 : w64 (-1000000000) = -1000000000 := rfl
          refine ww_aload_n hX (pc := 173) dX0_join_173 rfl ?_
          refine ww_getR hX (pc := 174) fX0_17 (by decide) (xs_15 hL) (xr_15_1 hL) dX0_join_174 ?_
          refine ww_iload_n hX (pc := 177) dX0_join_177 rfl ?_
          refine ww_lload hX (pc := 178) dX0_join_178 rfl ?_
          refine ww_last hX (pc := 180) (xs_17 hL) (by decide) (by omega) (by omega) dX0_join_180 ?_
          refine ww_nmK (fun J_180 eJ_180 => ?_)
          have kJ_180 : Kp 15 18 Ja J_180 := by rw [eJ_180]; exact Kp_up (Kp_rf (a := 15) (b := 18)) _ _ (by decide)
          refine ww_lload hX (pc := 181) dX0_join_181 rfl ?_
          refine ww_ldc2 hX (pc := 183) (x := 1000000000) dX0_join_183 tb_718 ?_
          refine ww_lcmp hX (pc := 186) dX0_join_186 ?_
          refine ww_if_gt hX (pc := 187) (tgt := 203) dX0_join_187 (by decide) (fun h_187 => ?_) (fun h_187 => ?_)
          · simp only [w32_mod] at h_187
            refine ww_iconst hX (pc := 203) (x := 0) dX0_join_203 rfl ?_
            refine rZ hX (pc := 204) hT (Nat.le_refl 0) (Nat.le_refl 0) dX0_join_204 (by decide) ?_
            exact ⟨rfl, kJ_180, by omega, zJo_r (by rw [ho]; omega) hval (fun g => by omega) (fun g => by omega) (by rw [eJ_180]; exact up2_row ..)⟩
          · simp only [w32_mod] at h_187
            refine ww_lload hX (pc := 190) dX0_join_190 rfl ?_
            refine ww_ldc2 hX (pc := 192) (x := (-1000000000)) dX0_join_192 tb_719 ?_
            refine ww_lcmp hX (pc := 195) dX0_join_195 ?_
            refine ww_if_lt hX (pc := 196) (tgt := 203) dX0_join_196 (by decide) (fun h_196 => ?_) (fun h_196 => ?_)
            · simp only [w32_mod] at h_196
              refine ww_iconst hX (pc := 203) (x := 0) dX0_join_203 rfl ?_
              refine rZ hX (pc := 204) hT (Nat.le_refl 0) (Nat.le_refl 0) dX0_join_204 (by decide) ?_
              exact ⟨rfl, kJ_180, by omega, zJo_r (by rw [ho]; omega) hval (fun g => by omega) (fun g => by omega) (by rw [eJ_180]; exact up2_row ..)⟩
            · simp only [w32_mod] at h_196
              refine ww_iconst hX (pc := 199) (x := 1) dX0_join_199 rfl ?_
              refine ww_goto hX (pc := 200) (tgt := 204) dX0_join_200 (by decide) ?_
              refine rZ hX (pc := 204) hT (Nat.le_refl 0) (Nat.le_refl 0) dX0_join_204 (by decide) ?_
              exact ⟨rfl, kJ_180, by omega, zJo_r (by rw [ho]; omega) hval (fun g => by omega) (fun g => by omega) (by rw [eJ_180]; exact up2_row ..)⟩
        · refine ⟨68, 107, rfl, by decide, ?_⟩
          have ho : zOc a = 147 := by rw [show a = -14 by omega]; rfl
          refine ww_lload_n hX (pc := 107) dX0_join_107 rfl ?_
          refine ww_lload hX (pc := 108) dX0_join_108 rfl ?_
          refine ww_ldiv hX (pc := 110) dX0_join_110 (by first | exact l_cmp_ne0 h_33 | (exfalso; omega)) ?_
          refine ww_nmL (fun v_111 hv_111 => ?_)
          refine ww_lstore hX (pc := 111) (lv' := [some (kR (some 15)), some (kI a), some (kI b), some (kL v_6), none, some (kL v_15), none, some (kL v_111), none]) dX0_join_111 (by decide) rfl rfl ?_
          refine ww_goto hX (pc := 113) (tgt := 173) dX0_join_113 (by decide) ?_
          have hval : zJv (zOc a) u v17 = v_111 := by rw [ho, zJv_147, hv_111, e6, e15]; exact (l_div_t (by omega) (by omega) (by omega) (by omega)).symm
          have hvb : -2000000000000000000 ≤ v_111 ∧ v_111 ≤ 2000000000000000000 := by have h9 := tdiv_le (b := v17) ru.1 ru.2; rw [← hval, ho, zJv_147]; omega
          have hw1 := w64_id (x := v_111) (by omega) (by omega)
          have hl1 := l_cmp_v v_111 1000000000
          have hl2 := l_cmp_v v_111 (-1000000000)
          have hk1 : w64 1000000000 = 1000000000 := rfl
          have hk2 : w64 (-1000000000) = -1000000000 := rfl
          refine ww_aload_n hX (pc := 173) dX0_join_173 rfl ?_
          refine ww_getR hX (pc := 174) fX0_17 (by decide) (xs_15 hL) (xr_15_1 hL) dX0_join_174 ?_
          refine ww_iload_n hX (pc := 177) dX0_join_177 rfl ?_
          refine ww_lload hX (pc := 178) dX0_join_178 rfl ?_
          refine ww_last hX (pc := 180) (xs_17 hL) (by decide) (by omega) (by omega) dX0_join_180 ?_
          refine ww_nmK (fun J_180 eJ_180 => ?_)
          have kJ_180 : Kp 15 18 Ja J_180 := by rw [eJ_180]; exact Kp_up (Kp_rf (a := 15) (b := 18)) _ _ (by decide)
          refine ww_lload hX (pc := 181) dX0_join_181 rfl ?_
          refine ww_ldc2 hX (pc := 183) (x := 1000000000) dX0_join_183 tb_718 ?_
          refine ww_lcmp hX (pc := 186) dX0_join_186 ?_
          refine ww_if_gt hX (pc := 187) (tgt := 203) dX0_join_187 (by decide) (fun h_187 => ?_) (fun h_187 => ?_)
          · simp only [w32_mod] at h_187
            refine ww_iconst hX (pc := 203) (x := 0) dX0_join_203 rfl ?_
            refine rZ hX (pc := 204) hT (Nat.le_refl 0) (Nat.le_refl 0) dX0_join_204 (by decide) ?_
            exact ⟨rfl, kJ_180, by omega, zJo_r (by rw [ho]; omega) hval (fun g => by omega) (fun g => by omega) (by rw [eJ_180]; exact up2_row ..)⟩
          · simp only [w32_mod] at h_187
            refine ww_lload hX (pc := 190) dX0_join_190 rfl ?_
            refine ww_ldc2 hX (pc := 192) (x := (-1000000000)) dX0_join_192 tb_719 ?_
            refine ww_lcmp hX (pc := 195) dX0_join_195 ?_
            refine ww_if_lt hX (pc := 196) (tgt := 203) dX0_join_196 (by decide) (fun h_196 => ?_) (fun h_196 => ?_)
            · simp only [w32_mod] at h_196
              refine ww_iconst hX (pc := 203) (x := 0) dX0_join_203 rfl ?_
              refine rZ hX (pc := 204) hT (Nat.le_refl 0) (Nat.le_refl 0) dX0_join_204 (by decide) ?_
              exact ⟨rfl, kJ_180, by omega, zJo_r (by rw [ho]; omega) hval (fun g => by omega) (fun g => by omega) (by rw [eJ_180]; exact up2_row ..)⟩
            · simp only [w32_mod] at h_196
              refine ww_iconst hX (pc := 199) (x := 1) dX0_join_199 rfl ?_
              refine ww_goto hX (pc := 200) (tgt := 204) dX0_join_200 (by decide) ?_
              refine rZ hX (pc := 204) hT (Nat.le_refl 0) (Nat.le_refl 0) dX0_join_204 (by decide) ?_
              exact ⟨rfl, kJ_180, by omega, zJo_r (by rw [ho]; omega) hval (fun g => by omega) (fun g => by omega) (by rw [eJ_180]; exact up2_row ..)⟩
        · refine ⟨59, 98, rfl, by decide, ?_⟩
          have ho : zOc a = 142 := by rw [show a = -13 by omega]; rfl
          refine ww_lload_n hX (pc := 98) dX0_join_98 rfl ?_
          refine ww_lload hX (pc := 99) dX0_join_99 rfl ?_
          refine ww_lmul hX (pc := 101) dX0_join_101 ?_
          refine ww_nmL (fun v_102 hv_102 => ?_)
          refine ww_lstore hX (pc := 102) (lv' := [some (kR (some 15)), some (kI a), some (kI b), some (kL v_6), none, some (kL v_15), none, some (kL v_102), none]) dX0_join_102 (by decide) rfl rfl ?_
          refine ww_goto hX (pc := 104) (tgt := 173) dX0_join_104 (by decide) ?_
          have hval : zJv (zOc a) u v17 = v_102 := by rw [ho, zJv_142, hv_102, e6, e15]
          have hvb : -2000000000000000000 ≤ v_102 ∧ v_102 ≤ 2000000000000000000 := by have h9 := mul_le9 ru.1 ru.2 rv.1 rv.2; rw [← hval, ho, zJv_142]; omega
          have hw1 := w64_id (x := v_102) (by omega) (by omega)
          have hl1 := l_cmp_v v_102 1000000000
          have hl2 := l_cmp_v v_102 (-1000000000)
          have hk1 : w64 1000000000 = 1000000000 := rfl
          have hk2 : w64 (-1000000000) = -1000000000 := rfl
          refine ww_aload_n hX (pc := 173) dX0_join_173 rfl ?_
          refine ww_getR hX (pc := 174) fX0_17 (by decide) (xs_15 hL) (xr_15_1 hL) dX0_join_174 ?_
          refine ww_iload_n hX (pc := 177) dX0_join_177 rfl ?_
          refine ww_lload hX (pc := 178) dX0_join_178 rfl ?_
          refine ww_last hX (pc := 180) (xs_17 hL) (by decide) (by omega) (by omega) dX0_join_180 ?_
          refine ww_nmK (fun J_180 eJ_180 => ?_)
          have kJ_180 : Kp 15 18 Ja J_180 := by rw [eJ_180]; exact Kp_up (Kp_rf (a := 15) (b := 18)) _ _ (by decide)
          refine ww_lload hX (pc := 181) dX0_join_181 rfl ?_
          refine ww_ldc2 hX (pc := 183) (x := 1000000000) dX0_join_183 tb_718 ?_
          refine ww_lcmp hX (pc := 186) dX0_join_186 ?_
          refine ww_if_gt hX (pc := 187) (tgt := 203) dX0_join_187 (by decide) (fun h_187 => ?_) (fun h_187 => ?_)
          · simp only [w32_mod] at h_187
            refine ww_iconst hX (pc := 203) (x := 0) dX0_join_203 rfl ?_
            refine rZ hX (pc := 204) hT (Nat.le_refl 0) (Nat.le_refl 0) dX0_join_204 (by decide) ?_
            exact ⟨rfl, kJ_180, by omega, zJo_r (by rw [ho]; omega) hval (fun g => by omega) (fun g => by omega) (by rw [eJ_180]; exact up2_row ..)⟩
          · simp only [w32_mod] at h_187
            refine ww_lload hX (pc := 190) dX0_join_190 rfl ?_
            refine ww_ldc2 hX (pc := 192) (x := (-1000000000)) dX0_join_192 tb_719 ?_
            refine ww_lcmp hX (pc := 195) dX0_join_195 ?_
            refine ww_if_lt hX (pc := 196) (tgt := 203) dX0_join_196 (by decide) (fun h_196 => ?_) (fun h_196 => ?_)
            · simp only [w32_mod] at h_196
              refine ww_iconst hX (pc := 203) (x := 0) dX0_join_203 rfl ?_
              refine rZ hX (pc := 204) hT (Nat.le_refl 0) (Nat.le_refl 0) dX0_join_204 (by decide) ?_
              exact ⟨rfl, kJ_180, by omega, zJo_r (by rw [ho]; omega) hval (fun g => by omega) (fun g => by omega) (by rw [eJ_180]; exact up2_row ..)⟩
            · simp only [w32_mod] at h_196
              refine ww_iconst hX (pc := 199) (x := 1) dX0_join_199 rfl ?_
              refine ww_goto hX (pc := 200) (tgt := 204) dX0_join_200 (by decide) ?_
              refine rZ hX (pc := 204) hT (Nat.le_refl 0) (Nat.le_refl 0) dX0_join_204 (by decide) ?_
              exact ⟨rfl, kJ_180, by omega, zJo_r (by rw [ho]; omega) hval (fun g => by omega) (fun g => by omega) (by rw [eJ_180]; exact up2_row ..)⟩
        · refine ⟨50, 89, rfl, by decide, ?_⟩
          have ho : zOc a = 145 := by rw [show a = -12 by omega]; rfl
          refine ww_lload_n hX (pc := 89) dX0_join_89 rfl ?_
          refine ww_lload hX (pc := 90) dX0_join_90 rfl ?_
          refine ww_lsub hX (pc := 92) dX0_join_92 ?_
          refine ww_nmL (fun v_93 hv_93 => ?_)
          refine ww_lstore hX (pc := 93) (lv' := [some (kR (some 15)), some (kI a), some (kI b), some (kL v_6), none, some (kL v_15), none, some (kL v_93), none]) dX0_join_93 (by decide) rfl rfl ?_
          refine ww_goto hX (pc := 95) (tgt := 173) dX0_join_95 (by decide) ?_
          have hval : zJv (zOc a) u v17 = v_93 := by rw [ho, zJv_145]; omega
          have hvb : -2000000000000000000 ≤ v_93 ∧ v_93 ≤ 2000000000000000000 := by omega
          have hw1 := w64_id (x := v_93) (by omega) (by omega)
          have hl1 := l_cmp_v v_93 1000000000
          have hl2 := l_cmp_v v_93 (-1000000000)
          have hk1 : w64 1000000000 = 1000000000 := rfl
          have hk2 : w64 (-1000000000) = -1000000000 := rfl
          refine ww_aload_n hX (pc := 173) dX0_join_173 rfl ?_
          refine ww_getR hX (pc := 174) fX0_17 (by decide) (xs_15 hL) (xr_15_1 hL) dX0_join_174 ?_
          refine ww_iload_n hX (pc := 177) dX0_join_177 rfl ?_
          refine ww_lload hX (pc := 178) dX0_join_178 rfl ?_
          refine ww_last hX (pc := 180) (xs_17 hL) (by decide) (by omega) (by omega) dX0_join_180 ?_
          refine ww_nmK (fun J_180 eJ_180 => ?_)
          have kJ_180 : Kp 15 18 Ja J_180 := by rw [eJ_180]; exact Kp_up (Kp_rf (a := 15) (b := 18)) _ _ (by decide)
          refine ww_lload hX (pc := 181) dX0_join_181 rfl ?_
          refine ww_ldc2 hX (pc := 183) (x := 1000000000) dX0_join_183 tb_718 ?_
          refine ww_lcmp hX (pc := 186) dX0_join_186 ?_
          refine ww_if_gt hX (pc := 187) (tgt := 203) dX0_join_187 (by decide) (fun h_187 => ?_) (fun h_187 => ?_)
          · simp only [w32_mod] at h_187
            refine ww_iconst hX (pc := 203) (x := 0) dX0_join_203 rfl ?_
            refine rZ hX (pc := 204) hT (Nat.le_refl 0) (Nat.le_refl 0) dX0_join_204 (by decide) ?_
            exact ⟨rfl, kJ_180, by omega, zJo_r (by rw [ho]; omega) hval (fun g => by omega) (fun g => by omega) (by rw [eJ_180]; exact up2_row ..)⟩
          · simp only [w32_mod] at h_187
            refine ww_lload hX (pc := 190) dX0_join_190 rfl ?_
            refine ww_ldc2 hX (pc := 192) (x := (-1000000000)) dX0_join_192 tb_719 ?_
            refine ww_lcmp hX (pc := 195) dX0_join_195 ?_
            refine ww_if_lt hX (pc := 196) (tgt := 203) dX0_join_196 (by decide) (fun h_196 => ?_) (fun h_196 => ?_)
            · simp only [w32_mod] at h_196
              refine ww_iconst hX (pc := 203) (x := 0) dX0_join_203 rfl ?_
              refine rZ hX (pc := 204) hT (Nat.le_refl 0) (Nat.le_refl 0) dX0_join_204 (by decide) ?_
              exact ⟨rfl, kJ_180, by omega, zJo_r (by rw [ho]; omega) hval (fun g => by omega) (fun g => by omega) (by rw [eJ_180]; exact up2_row ..)⟩
            · simp only [w32_mod] at h_196
              refine ww_iconst hX (pc := 199) (x := 1) dX0_join_199 rfl ?_
              refine ww_goto hX (pc := 200) (tgt := 204) dX0_join_200 (by decide) ?_
              refine rZ hX (pc := 204) hT (Nat.le_refl 0) (Nat.le_refl 0) dX0_join_204 (by decide) ?_
              exact ⟨rfl, kJ_180, by omega, zJo_r (by rw [ho]; omega) hval (fun g => by omega) (fun g => by omega) (by rw [eJ_180]; exact up2_row ..)⟩
        · refine ⟨41, 80, rfl, by decide, ?_⟩
          have ho : zOc a = 143 := by rw [show a = -11 by omega]; rfl
          refine ww_lload_n hX (pc := 80) dX0_join_80 rfl ?_
          refine ww_lload hX (pc := 81) dX0_join_81 rfl ?_
          refine ww_ladd hX (pc := 83) dX0_join_83 ?_
          refine ww_nmL (fun v_84 hv_84 => ?_)
          refine ww_lstore hX (pc := 84) (lv' := [some (kR (some 15)), some (kI a), some (kI b), some (kL v_6), none, some (kL v_15), none, some (kL v_84), none]) dX0_join_84 (by decide) rfl rfl ?_
          refine ww_goto hX (pc := 86) (tgt := 173) dX0_join_86 (by decide) ?_
          have hval : zJv (zOc a) u v17 = v_84 := by rw [ho, zJv_143]; omega
          have hvb : -2000000000000000000 ≤ v_84 ∧ v_84 ≤ 2000000000000000000 := by omega
          have hw1 := w64_id (x := v_84) (by omega) (by omega)
          have hl1 := l_cmp_v v_84 1000000000
          have hl2 := l_cmp_v v_84 (-1000000000)
          have hk1 : w64 1000000000 = 1000000000 := rfl
          have hk2 : w64 (-1000000000) = -1000000000 := rfl
          refine ww_aload_n hX (pc := 173) dX0_join_173 rfl ?_
          refine ww_getR hX (pc := 174) fX0_17 (by decide) (xs_15 hL) (xr_15_1 hL) dX0_join_174 ?_
          refine ww_iload_n hX (pc := 177) dX0_join_177 rfl ?_
          refine ww_lload hX (pc := 178) dX0_join_178 rfl ?_
          refine ww_last hX (pc := 180) (xs_17 hL) (by decide) (by omega) (by omega) dX0_join_180 ?_
          refine ww_nmK (fun J_180 eJ_180 => ?_)
          have kJ_180 : Kp 15 18 Ja J_180 := by rw [eJ_180]; exact Kp_up (Kp_rf (a := 15) (b := 18)) _ _ (by decide)
          refine ww_lload hX (pc := 181) dX0_join_181 rfl ?_
          refine ww_ldc2 hX (pc := 183) (x := 1000000000) dX0_join_183 tb_718 ?_
          refine ww_lcmp hX (pc := 186) dX0_join_186 ?_
          refine ww_if_gt hX (pc := 187) (tgt := 203) dX0_join_187 (by decide) (fun h_187 => ?_) (fun h_187 => ?_)
          · simp only [w32_mod] at h_187
            refine ww_iconst hX (pc := 203) (x := 0) dX0_join_203 rfl ?_
            refine rZ hX (pc := 204) hT (Nat.le_refl 0) (Nat.le_refl 0) dX0_join_204 (by decide) ?_
            exact ⟨rfl, kJ_180, by omega, zJo_r (by rw [ho]; omega) hval (fun g => by omega) (fun g => by omega) (by rw [eJ_180]; exact up2_row ..)⟩
          · simp only [w32_mod] at h_187
            refine ww_lload hX (pc := 190) dX0_join_190 rfl ?_
            refine ww_ldc2 hX (pc := 192) (x := (-1000000000)) dX0_join_192 tb_719 ?_
            refine ww_lcmp hX (pc := 195) dX0_join_195 ?_
            refine ww_if_lt hX (pc := 196) (tgt := 203) dX0_join_196 (by decide) (fun h_196 => ?_) (fun h_196 => ?_)
            · simp only [w32_mod] at h_196
              refine ww_iconst hX (pc := 203) (x := 0) dX0_join_203 rfl ?_
              refine rZ hX (pc := 204) hT (Nat.le_refl 0) (Nat.le_refl 0) dX0_join_204 (by decide) ?_
              exact ⟨rfl, kJ_180, by omega, zJo_r (by rw [ho]; omega) hval (fun g => by omega) (fun g => by omega) (by rw [eJ_180]; exact up2_row ..)⟩
            · simp only [w32_mod] at h_196
              refine ww_iconst hX (pc := 199) (x := 1) dX0_join_199 rfl ?_
              refine ww_goto hX (pc := 200) (tgt := 204) dX0_join_200 (by decide) ?_
              refine rZ hX (pc := 204) hT (Nat.le_refl 0) (Nat.le_refl 0) dX0_join_204 (by decide) ?_
              exact ⟨rfl, kJ_180, by omega, zJo_r (by rw [ho]; omega) hval (fun g => by omega) (fun g => by omega) (by rw [eJ_180]; exact up2_row ..)⟩
    · simp only [w32_mod] at h_26
      refine ww_lload hX (pc := 29) dX0_join_29 rfl ?_
      refine ww_lconst hX (pc := 31) (x := 0) dX0_join_31 (by decide) ?_
      refine ww_lcmp hX (pc := 32) dX0_join_32 ?_
      have hz15 := l_cmp_v v_15 0
      have hz0 : w64 0 = 0 := rfl
      refine ww_if_ne hX (pc := 33) (tgt := 38) dX0_join_33 (by decide) (fun h_33 => ?_) (fun h_33 => ?_)
      · simp only [w32_mod] at h_33
        refine ww_iload_n hX (pc := 38) dX0_join_38 rfl ?_
        refine ww_table hX (pc := 39) dX0_join_39 159 (by decide) (fun h_39 => ?_) (fun i_39 h_39 e_39 => ?_)
        · simp only [w32_mod] at h_39
          have ho : zOc a = 161 := zOc_d (by omega)
          have hl9 := l_cmp_v v_6 v_15
          refine ww_lload_n hX (pc := 159) dX0_join_159 rfl ?_
          refine ww_lload hX (pc := 160) dX0_join_160 rfl ?_
          refine ww_lcmp hX (pc := 162) dX0_join_162 ?_
          refine ww_if_ne hX (pc := 163) (tgt := 170) dX0_join_163 (by decide) (fun h_163 => ?_) (fun h_163 => ?_)
          · simp only [w32_mod] at h_163
            refine ww_lconst hX (pc := 170) (x := 0) dX0_join_170 (by decide) ?_
            refine ww_lstore hX (pc := 171) (lv' := [some (kR (some 15)), some (kI a), some (kI b), some (kL v_6), none, some (kL v_15), none, some (kL 0), none]) dX0_join_171 (by decide) rfl rfl ?_
            have hval : zJv (zOc a) u v17 = 0 := by rw [ho, zJv_161]; split <;> omega
            have hvb : -2000000000000000000 ≤ 0 ∧ 0 ≤ 2000000000000000000 := by omega
            have hw1 := w64_id (x := 0) (by omega) (by omega)
            have hl1 := l_cmp_v 0 1000000000
            have hl2 := l_cmp_v 0 (-1000000000)
            have hk1 : w64 1000000000 = 1000000000 := rfl
            have hk2 : w64 (-1000000000) = -1000000000 := rfl
            refine ww_aload_n hX (pc := 173) dX0_join_173 rfl ?_
            refine ww_getR hX (pc := 174) fX0_17 (by decide) (xs_15 hL) (xr_15_1 hL) dX0_join_174 ?_
            refine ww_iload_n hX (pc := 177) dX0_join_177 rfl ?_
            refine ww_lload hX (pc := 178) dX0_join_178 rfl ?_
            refine ww_last hX (pc := 180) (xs_17 hL) (by decide) (by omega) (by omega) dX0_join_180 ?_
            refine ww_nmK (fun J_180 eJ_180 => ?_)
            have kJ_180 : Kp 15 18 Ja J_180 := by rw [eJ_180]; exact Kp_up (Kp_rf (a := 15) (b := 18)) _ _ (by decide)
            refine ww_lload hX (pc := 181) dX0_join_181 rfl ?_
            refine ww_ldc2 hX (pc := 183) (x := 1000000000) dX0_join_183 tb_718 ?_
            refine ww_lcmp hX (pc := 186) dX0_join_186 ?_
            refine ww_if_gt hX (pc := 187) (tgt := 203) dX0_join_187 (by decide) (fun h_187 => ?_) (fun h_187 => ?_)
            · simp only [w32_mod] at h_187
              refine ww_iconst hX (pc := 203) (x := 0) dX0_join_203 rfl ?_
              refine rZ hX (pc := 204) hT (Nat.le_refl 0) (Nat.le_refl 0) dX0_join_204 (by decide) ?_
              exact ⟨rfl, kJ_180, by omega, zJo_r (by rw [ho]; omega) hval (fun g => by omega) (fun g => by omega) (by rw [eJ_180]; exact up2_row ..)⟩
            · simp only [w32_mod] at h_187
              refine ww_lload hX (pc := 190) dX0_join_190 rfl ?_
              refine ww_ldc2 hX (pc := 192) (x := (-1000000000)) dX0_join_192 tb_719 ?_
              refine ww_lcmp hX (pc := 195) dX0_join_195 ?_
              refine ww_if_lt hX (pc := 196) (tgt := 203) dX0_join_196 (by decide) (fun h_196 => ?_) (fun h_196 => ?_)
              · simp only [w32_mod] at h_196
                refine ww_iconst hX (pc := 203) (x := 0) dX0_join_203 rfl ?_
                refine rZ hX (pc := 204) hT (Nat.le_refl 0) (Nat.le_refl 0) dX0_join_204 (by decide) ?_
                exact ⟨rfl, kJ_180, by omega, zJo_r (by rw [ho]; omega) hval (fun g => by omega) (fun g => by omega) (by rw [eJ_180]; exact up2_row ..)⟩
              · simp only [w32_mod] at h_196
                refine ww_iconst hX (pc := 199) (x := 1) dX0_join_199 rfl ?_
                refine ww_goto hX (pc := 200) (tgt := 204) dX0_join_200 (by decide) ?_
                refine rZ hX (pc := 204) hT (Nat.le_refl 0) (Nat.le_refl 0) dX0_join_204 (by decide) ?_
                exact ⟨rfl, kJ_180, by omega, zJo_r (by rw [ho]; omega) hval (fun g => by omega) (fun g => by omega) (by rw [eJ_180]; exact up2_row ..)⟩
          · simp only [w32_mod] at h_163
            refine ww_lconst hX (pc := 166) (x := 1) dX0_join_166 (by decide) ?_
            refine ww_goto hX (pc := 167) (tgt := 171) dX0_join_167 (by decide) ?_
            refine ww_lstore hX (pc := 171) (lv' := [some (kR (some 15)), some (kI a), some (kI b), some (kL v_6), none, some (kL v_15), none, some (kL 1), none]) dX0_join_171 (by decide) rfl rfl ?_
            have hval : zJv (zOc a) u v17 = 1 := by rw [ho, zJv_161]; split <;> omega
            have hvb : -2000000000000000000 ≤ 1 ∧ 1 ≤ 2000000000000000000 := by omega
            have hw1 := w64_id (x := 1) (by omega) (by omega)
            have hl1 := l_cmp_v 1 1000000000
            have hl2 := l_cmp_v 1 (-1000000000)
            have hk1 : w64 1000000000 = 1000000000 := rfl
            have hk2 : w64 (-1000000000) = -1000000000 := rfl
            refine ww_aload_n hX (pc := 173) dX0_join_173 rfl ?_
            refine ww_getR hX (pc := 174) fX0_17 (by decide) (xs_15 hL) (xr_15_1 hL) dX0_join_174 ?_
            refine ww_iload_n hX (pc := 177) dX0_join_177 rfl ?_
            refine ww_lload hX (pc := 178) dX0_join_178 rfl ?_
            refine ww_last hX (pc := 180) (xs_17 hL) (by decide) (by omega) (by omega) dX0_join_180 ?_
            refine ww_nmK (fun J_180 eJ_180 => ?_)
            have kJ_180 : Kp 15 18 Ja J_180 := by rw [eJ_180]; exact Kp_up (Kp_rf (a := 15) (b := 18)) _ _ (by decide)
            refine ww_lload hX (pc := 181) dX0_join_181 rfl ?_
            refine ww_ldc2 hX (pc := 183) (x := 1000000000) dX0_join_183 tb_718 ?_
            refine ww_lcmp hX (pc := 186) dX0_join_186 ?_
            refine ww_if_gt hX (pc := 187) (tgt := 203) dX0_join_187 (by decide) (fun h_187 => ?_) (fun h_187 => ?_)
            · simp only [w32_mod] at h_187
              refine ww_iconst hX (pc := 203) (x := 0) dX0_join_203 rfl ?_
              refine rZ hX (pc := 204) hT (Nat.le_refl 0) (Nat.le_refl 0) dX0_join_204 (by decide) ?_
              exact ⟨rfl, kJ_180, by omega, zJo_r (by rw [ho]; omega) hval (fun g => by omega) (fun g => by omega) (by rw [eJ_180]; exact up2_row ..)⟩
            · simp only [w32_mod] at h_187
              refine ww_lload hX (pc := 190) dX0_join_190 rfl ?_
              refine ww_ldc2 hX (pc := 192) (x := (-1000000000)) dX0_join_192 tb_719 ?_
              refine ww_lcmp hX (pc := 195) dX0_join_195 ?_
              refine ww_if_lt hX (pc := 196) (tgt := 203) dX0_join_196 (by decide) (fun h_196 => ?_) (fun h_196 => ?_)
              · simp only [w32_mod] at h_196
                refine ww_iconst hX (pc := 203) (x := 0) dX0_join_203 rfl ?_
                refine rZ hX (pc := 204) hT (Nat.le_refl 0) (Nat.le_refl 0) dX0_join_204 (by decide) ?_
                exact ⟨rfl, kJ_180, by omega, zJo_r (by rw [ho]; omega) hval (fun g => by omega) (fun g => by omega) (by rw [eJ_180]; exact up2_row ..)⟩
              · simp only [w32_mod] at h_196
                refine ww_iconst hX (pc := 199) (x := 1) dX0_join_199 rfl ?_
                refine ww_goto hX (pc := 200) (tgt := 204) dX0_join_200 (by decide) ?_
                refine rZ hX (pc := 204) hT (Nat.le_refl 0) (Nat.le_refl 0) dX0_join_204 (by decide) ?_
                exact ⟨rfl, kJ_180, by omega, zJo_r (by rw [ho]; omega) hval (fun g => by omega) (fun g => by omega) (by rw [eJ_180]; exact up2_row ..)⟩
        · simp only [w32_mod] at e_39
          rcases (show i_39 = 0 ∨ i_39 = 1 ∨ i_39 = 2 ∨ i_39 = 3 ∨ i_39 = 4 ∨ i_39 = 5 ∨ i_39 = 6 by omega) with rfl | rfl | rfl | rfl | rfl | rfl | rfl
          · refine ⟨103, 142, rfl, by decide, ?_⟩
            have ho : zOc a = 162 := by rw [show a = -17 by omega]; rfl
            have hl9 := l_cmp_v v_6 v_15
            refine ww_lload_n hX (pc := 142) dX0_join_142 rfl ?_
            refine ww_lload hX (pc := 143) dX0_join_143 rfl ?_
            refine ww_lcmp hX (pc := 145) dX0_join_145 ?_
            refine ww_if_le hX (pc := 146) (tgt := 153) dX0_join_146 (by decide) (fun h_146 => ?_) (fun h_146 => ?_)
            · simp only [w32_mod] at h_146
              refine ww_lconst hX (pc := 153) (x := 0) dX0_join_153 (by decide) ?_
              refine ww_lstore hX (pc := 154) (lv' := [some (kR (some 15)), some (kI a), some (kI b), some (kL v_6), none, some (kL v_15), none, some (kL 0), none]) dX0_join_154 (by decide) rfl rfl ?_
              refine ww_goto hX (pc := 156) (tgt := 173) dX0_join_156 (by decide) ?_
              have hval : zJv (zOc a) u v17 = 0 := by rw [ho, zJv_162]; split <;> omega
              have hvb : -2000000000000000000 ≤ 0 ∧ 0 ≤ 2000000000000000000 := by omega
              have hw1 := w64_id (x := 0) (by omega) (by omega)
              have hl1 := l_cmp_v 0 1000000000
              have hl2 := l_cmp_v 0 (-1000000000)
              have hk1 : w64 1000000000 = 1000000000 := rfl
              have hk2 : w64 (-1000000000) = -1000000000 := rfl
              refine ww_aload_n hX (pc := 173) dX0_join_173 rfl ?_
              refine ww_getR hX (pc := 174) fX0_17 (by decide) (xs_15 hL) (xr_15_1 hL) dX0_join_174 ?_
              refine ww_iload_n hX (pc := 177) dX0_join_177 rfl ?_
              refine ww_lload hX (pc := 178) dX0_join_178 rfl ?_
              refine ww_last hX (pc := 180) (xs_17 hL) (by decide) (by omega) (by omega) dX0_join_180 ?_
              refine ww_nmK (fun J_180 eJ_180 => ?_)
              have kJ_180 : Kp 15 18 Ja J_180 := by rw [eJ_180]; exact Kp_up (Kp_rf (a := 15) (b := 18)) _ _ (by decide)
              refine ww_lload hX (pc := 181) dX0_join_181 rfl ?_
              refine ww_ldc2 hX (pc := 183) (x := 1000000000) dX0_join_183 tb_718 ?_
              refine ww_lcmp hX (pc := 186) dX0_join_186 ?_
              refine ww_if_gt hX (pc := 187) (tgt := 203) dX0_join_187 (by decide) (fun h_187 => ?_) (fun h_187 => ?_)
              · simp only [w32_mod] at h_187
                refine ww_iconst hX (pc := 203) (x := 0) dX0_join_203 rfl ?_
                refine rZ hX (pc := 204) hT (Nat.le_refl 0) (Nat.le_refl 0) dX0_join_204 (by decide) ?_
                exact ⟨rfl, kJ_180, by omega, zJo_r (by rw [ho]; omega) hval (fun g => by omega) (fun g => by omega) (by rw [eJ_180]; exact up2_row ..)⟩
              · simp only [w32_mod] at h_187
                refine ww_lload hX (pc := 190) dX0_join_190 rfl ?_
                refine ww_ldc2 hX (pc := 192) (x := (-1000000000)) dX0_join_192 tb_719 ?_
                refine ww_lcmp hX (pc := 195) dX0_join_195 ?_
                refine ww_if_lt hX (pc := 196) (tgt := 203) dX0_join_196 (by decide) (fun h_196 => ?_) (fun h_196 => ?_)
                · simp only [w32_mod] at h_196
                  refine ww_iconst hX (pc := 203) (x := 0) dX0_join_203 rfl ?_
                  refine rZ hX (pc := 204) hT (Nat.le_refl 0) (Nat.le_refl 0) dX0_join_204 (by decide) ?_
                  exact ⟨rfl, kJ_180, by omega, zJo_r (by rw [ho]; omega) hval (fun g => by omega) (fun g => by omega) (by rw [eJ_180]; exact up2_row ..)⟩
                · simp only [w32_mod] at h_196
                  refine ww_iconst hX (pc := 199) (x := 1) dX0_join_199 rfl ?_
                  refine ww_goto hX (pc := 200) (tgt := 204) dX0_join_200 (by decide) ?_
                  refine rZ hX (pc := 204) hT (Nat.le_refl 0) (Nat.le_refl 0) dX0_join_204 (by decide) ?_
                  exact ⟨rfl, kJ_180, by omega, zJo_r (by rw [ho]; omega) hval (fun g => by omega) (fun g => by omega) (by rw [eJ_180]; exact up2_row ..)⟩
            · simp only [w32_mod] at h_146
              refine ww_lconst hX (pc := 149) (x := 1) dX0_join_149 (by decide) ?_
              refine ww_goto hX (pc := 150) (tgt := 154) dX0_join_150 (by decide) ?_
              refine ww_lstore hX (pc := 154) (lv' := [some (kR (some 15)), some (kI a), some (kI b), some (kL v_6), none, some (kL v_15), none, some (kL 1), none]) dX0_join_154 (by decide) rfl rfl ?_
              refine ww_goto hX (pc := 156) (tgt := 173) dX0_join_156 (by decide) ?_
              have hval : zJv (zOc a) u v17 = 1 := by rw [ho, zJv_162]; split <;> omega
              have hvb : -2000000000000000000 ≤ 1 ∧ 1 ≤ 2000000000000000000 := by omega
              have hw1 := w64_id (x := 1) (by omega) (by omega)
              have hl1 := l_cmp_v 1 1000000000
              have hl2 := l_cmp_v 1 (-1000000000)
              have hk1 : w64 1000000000 = 1000000000 := rfl
              have hk2 : w64 (-1000000000) = -1000000000 := rfl
              refine ww_aload_n hX (pc := 173) dX0_join_173 rfl ?_
              refine ww_getR hX (pc := 174) fX0_17 (by decide) (xs_15 hL) (xr_15_1 hL) dX0_join_174 ?_
              refine ww_iload_n hX (pc := 177) dX0_join_177 rfl ?_
              refine ww_lload hX (pc := 178) dX0_join_178 rfl ?_
              refine ww_last hX (pc := 180) (xs_17 hL) (by decide) (by omega) (by omega) dX0_join_180 ?_
              refine ww_nmK (fun J_180 eJ_180 => ?_)
              have kJ_180 : Kp 15 18 Ja J_180 := by rw [eJ_180]; exact Kp_up (Kp_rf (a := 15) (b := 18)) _ _ (by decide)
              refine ww_lload hX (pc := 181) dX0_join_181 rfl ?_
              refine ww_ldc2 hX (pc := 183) (x := 1000000000) dX0_join_183 tb_718 ?_
              refine ww_lcmp hX (pc := 186) dX0_join_186 ?_
              refine ww_if_gt hX (pc := 187) (tgt := 203) dX0_join_187 (by decide) (fun h_187 => ?_) (fun h_187 => ?_)
              · simp only [w32_mod] at h_187
                refine ww_iconst hX (pc := 203) (x := 0) dX0_join_203 rfl ?_
                refine rZ hX (pc := 204) hT (Nat.le_refl 0) (Nat.le_refl 0) dX0_join_204 (by decide) ?_
                exact ⟨rfl, kJ_180, by omega, zJo_r (by rw [ho]; omega) hval (fun g => by omega) (fun g => by omega) (by rw [eJ_180]; exact up2_row ..)⟩
              · simp only [w32_mod] at h_187
                refine ww_lload hX (pc := 190) dX0_join_190 rfl ?_
                refine ww_ldc2 hX (pc := 192) (x := (-1000000000)) dX0_join_192 tb_719 ?_
                refine ww_lcmp hX (pc := 195) dX0_join_195 ?_
                refine ww_if_lt hX (pc := 196) (tgt := 203) dX0_join_196 (by decide) (fun h_196 => ?_) (fun h_196 => ?_)
                · simp only [w32_mod] at h_196
                  refine ww_iconst hX (pc := 203) (x := 0) dX0_join_203 rfl ?_
                  refine rZ hX (pc := 204) hT (Nat.le_refl 0) (Nat.le_refl 0) dX0_join_204 (by decide) ?_
                  exact ⟨rfl, kJ_180, by omega, zJo_r (by rw [ho]; omega) hval (fun g => by omega) (fun g => by omega) (by rw [eJ_180]; exact up2_row ..)⟩
                · simp only [w32_mod] at h_196
                  refine ww_iconst hX (pc := 199) (x := 1) dX0_join_199 rfl ?_
                  refine ww_goto hX (pc := 200) (tgt := 204) dX0_join_200 (by decide) ?_
                  refine rZ hX (pc := 204) hT (Nat.le_refl 0) (Nat.le_refl 0) dX0_join_204 (by decide) ?_
                  exact ⟨rfl, kJ_180, by omega, zJo_r (by rw [ho]; omega) hval (fun g => by omega) (fun g => by omega) (by rw [eJ_180]; exact up2_row ..)⟩
          · refine ⟨86, 125, rfl, by decide, ?_⟩
            have ho : zOc a = 160 := by rw [show a = -16 by omega]; rfl
            have hl9 := l_cmp_v v_6 v_15
            refine ww_lload_n hX (pc := 125) dX0_join_125 rfl ?_
            refine ww_lload hX (pc := 126) dX0_join_126 rfl ?_
            refine ww_lcmp hX (pc := 128) dX0_join_128 ?_
            refine ww_if_ge hX (pc := 129) (tgt := 136) dX0_join_129 (by decide) (fun h_129 => ?_) (fun h_129 => ?_)
            · simp only [w32_mod] at h_129
              refine ww_lconst hX (pc := 136) (x := 0) dX0_join_136 (by decide) ?_
              refine ww_lstore hX (pc := 137) (lv' := [some (kR (some 15)), some (kI a), some (kI b), some (kL v_6), none, some (kL v_15), none, some (kL 0), none]) dX0_join_137 (by decide) rfl rfl ?_
              refine ww_goto hX (pc := 139) (tgt := 173) dX0_join_139 (by decide) ?_
              have hval : zJv (zOc a) u v17 = 0 := by rw [ho, zJv_160]; split <;> omega
              have hvb : -2000000000000000000 ≤ 0 ∧ 0 ≤ 2000000000000000000 := by omega
              have hw1 := w64_id (x := 0) (by omega) (by omega)
              have hl1 := l_cmp_v 0 1000000000
              have hl2 := l_cmp_v 0 (-1000000000)
              have hk1 : w64 1000000000 = 1000000000 := rfl
              have hk2 : w64 (-1000000000) = -1000000000 := rfl
              refine ww_aload_n hX (pc := 173) dX0_join_173 rfl ?_
              refine ww_getR hX (pc := 174) fX0_17 (by decide) (xs_15 hL) (xr_15_1 hL) dX0_join_174 ?_
              refine ww_iload_n hX (pc := 177) dX0_join_177 rfl ?_
              refine ww_lload hX (pc := 178) dX0_join_178 rfl ?_
              refine ww_last hX (pc := 180) (xs_17 hL) (by decide) (by omega) (by omega) dX0_join_180 ?_
              refine ww_nmK (fun J_180 eJ_180 => ?_)
              have kJ_180 : Kp 15 18 Ja J_180 := by rw [eJ_180]; exact Kp_up (Kp_rf (a := 15) (b := 18)) _ _ (by decide)
              refine ww_lload hX (pc := 181) dX0_join_181 rfl ?_
              refine ww_ldc2 hX (pc := 183) (x := 1000000000) dX0_join_183 tb_718 ?_
              refine ww_lcmp hX (pc := 186) dX0_join_186 ?_
              refine ww_if_gt hX (pc := 187) (tgt := 203) dX0_join_187 (by decide) (fun h_187 => ?_) (fun h_187 => ?_)
              · simp only [w32_mod] at h_187
                refine ww_iconst hX (pc := 203) (x := 0) dX0_join_203 rfl ?_
                refine rZ hX (pc := 204) hT (Nat.le_refl 0) (Nat.le_refl 0) dX0_join_204 (by decide) ?_
                exact ⟨rfl, kJ_180, by omega, zJo_r (by rw [ho]; omega) hval (fun g => by omega) (fun g => by omega) (by rw [eJ_180]; exact up2_row ..)⟩
              · simp only [w32_mod] at h_187
                refine ww_lload hX (pc := 190) dX0_join_190 rfl ?_
                refine ww_ldc2 hX (pc := 192) (x := (-1000000000)) dX0_join_192 tb_719 ?_
                refine ww_lcmp hX (pc := 195) dX0_join_195 ?_
                refine ww_if_lt hX (pc := 196) (tgt := 203) dX0_join_196 (by decide) (fun h_196 => ?_) (fun h_196 => ?_)
                · simp only [w32_mod] at h_196
                  refine ww_iconst hX (pc := 203) (x := 0) dX0_join_203 rfl ?_
                  refine rZ hX (pc := 204) hT (Nat.le_refl 0) (Nat.le_refl 0) dX0_join_204 (by decide) ?_
                  exact ⟨rfl, kJ_180, by omega, zJo_r (by rw [ho]; omega) hval (fun g => by omega) (fun g => by omega) (by rw [eJ_180]; exact up2_row ..)⟩
                · simp only [w32_mod] at h_196
                  refine ww_iconst hX (pc := 199) (x := 1) dX0_join_199 rfl ?_
                  refine ww_goto hX (pc := 200) (tgt := 204) dX0_join_200 (by decide) ?_
                  refine rZ hX (pc := 204) hT (Nat.le_refl 0) (Nat.le_refl 0) dX0_join_204 (by decide) ?_
                  exact ⟨rfl, kJ_180, by omega, zJo_r (by rw [ho]; omega) hval (fun g => by omega) (fun g => by omega) (by rw [eJ_180]; exact up2_row ..)⟩
            · simp only [w32_mod] at h_129
              refine ww_lconst hX (pc := 132) (x := 1) dX0_join_132 (by decide) ?_
              refine ww_goto hX (pc := 133) (tgt := 137) dX0_join_133 (by decide) ?_
              refine ww_lstore hX (pc := 137) (lv' := [some (kR (some 15)), some (kI a), some (kI b), some (kL v_6), none, some (kL v_15), none, some (kL 1), none]) dX0_join_137 (by decide) rfl rfl ?_
              refine ww_goto hX (pc := 139) (tgt := 173) dX0_join_139 (by decide) ?_
              have hval : zJv (zOc a) u v17 = 1 := by rw [ho, zJv_160]; split <;> omega
              have hvb : -2000000000000000000 ≤ 1 ∧ 1 ≤ 2000000000000000000 := by omega
              have hw1 := w64_id (x := 1) (by omega) (by omega)
              have hl1 := l_cmp_v 1 1000000000
              have hl2 := l_cmp_v 1 (-1000000000)
              have hk1 : w64 1000000000 = 1000000000 := rfl
              have hk2 : w64 (-1000000000) = -1000000000 := rfl
              refine ww_aload_n hX (pc := 173) dX0_join_173 rfl ?_
              refine ww_getR hX (pc := 174) fX0_17 (by decide) (xs_15 hL) (xr_15_1 hL) dX0_join_174 ?_
              refine ww_iload_n hX (pc := 177) dX0_join_177 rfl ?_
              refine ww_lload hX (pc := 178) dX0_join_178 rfl ?_
              refine ww_last hX (pc := 180) (xs_17 hL) (by decide) (by omega) (by omega) dX0_join_180 ?_
              refine ww_nmK (fun J_180 eJ_180 => ?_)
              have kJ_180 : Kp 15 18 Ja J_180 := by rw [eJ_180]; exact Kp_up (Kp_rf (a := 15) (b := 18)) _ _ (by decide)
              refine ww_lload hX (pc := 181) dX0_join_181 rfl ?_
              refine ww_ldc2 hX (pc := 183) (x := 1000000000) dX0_join_183 tb_718 ?_
              refine ww_lcmp hX (pc := 186) dX0_join_186 ?_
              refine ww_if_gt hX (pc := 187) (tgt := 203) dX0_join_187 (by decide) (fun h_187 => ?_) (fun h_187 => ?_)
              · simp only [w32_mod] at h_187
                refine ww_iconst hX (pc := 203) (x := 0) dX0_join_203 rfl ?_
                refine rZ hX (pc := 204) hT (Nat.le_refl 0) (Nat.le_refl 0) dX0_join_204 (by decide) ?_
                exact ⟨rfl, kJ_180, by omega, zJo_r (by rw [ho]; omega) hval (fun g => by omega) (fun g => by omega) (by rw [eJ_180]; exact up2_row ..)⟩
              · simp only [w32_mod] at h_187
                refine ww_lload hX (pc := 190) dX0_join_190 rfl ?_
                refine ww_ldc2 hX (pc := 192) (x := (-1000000000)) dX0_join_192 tb_719 ?_
                refine ww_lcmp hX (pc := 195) dX0_join_195 ?_
                refine ww_if_lt hX (pc := 196) (tgt := 203) dX0_join_196 (by decide) (fun h_196 => ?_) (fun h_196 => ?_)
                · simp only [w32_mod] at h_196
                  refine ww_iconst hX (pc := 203) (x := 0) dX0_join_203 rfl ?_
                  refine rZ hX (pc := 204) hT (Nat.le_refl 0) (Nat.le_refl 0) dX0_join_204 (by decide) ?_
                  exact ⟨rfl, kJ_180, by omega, zJo_r (by rw [ho]; omega) hval (fun g => by omega) (fun g => by omega) (by rw [eJ_180]; exact up2_row ..)⟩
                · simp only [w32_mod] at h_196
                  refine ww_iconst hX (pc := 199) (x := 1) dX0_join_199 rfl ?_
                  refine ww_goto hX (pc := 200) (tgt := 204) dX0_join_200 (by decide) ?_
                  refine rZ hX (pc := 204) hT (Nat.le_refl 0) (Nat.le_refl 0) dX0_join_204 (by decide) ?_
                  exact ⟨rfl, kJ_180, by omega, zJo_r (by rw [ho]; omega) hval (fun g => by omega) (fun g => by omega) (by rw [eJ_180]; exact up2_row ..)⟩
          · refine ⟨77, 116, rfl, by decide, ?_⟩
            have ho : zOc a = 137 := by rw [show a = -15 by omega]; rfl
            refine ww_lload_n hX (pc := 116) dX0_join_116 rfl ?_
            refine ww_lload hX (pc := 117) dX0_join_117 rfl ?_
            refine ww_lrem hX (pc := 119) dX0_join_119 (by first | exact l_cmp_ne0 h_33 | (exfalso; omega)) ?_
            refine ww_nmL (fun v_120 hv_120 => ?_)
            refine ww_lstore hX (pc := 120) (lv' := [some (kR (some 15)), some (kI a), some (kI b), some (kL v_6), none, some (kL v_15), none, some (kL v_120), none]) dX0_join_120 (by decide) rfl rfl ?_
            refine ww_goto hX (pc := 122) (tgt := 173) dX0_join_122 (by decide) ?_
            have hval : zJv (zOc a) u v17 = v_120 := by rw [ho, zJv_137, hv_120, e6, e15]; exact (l_rem_t (by omega) (by omega) (by omega) (by omega)).symm
            have hvb : -2000000000000000000 ≤ v_120 ∧ v_120 ≤ 2000000000000000000 := by have h9 := tmod_le (b := v17) ru.1 ru.2; rw [← hval, ho, zJv_137]; omega
            have hw1 := w64_id (x := v_120) (by omega) (by omega)
            have hl1 := l_cmp_v v_120 1000000000
            have hl2 := l_cmp_v v_120 (-1000000000)
            have hk1 : w64 1000000000 = 1000000000 := rfl
            have hk2 : w64 (-1000000000) = -1000000000 := rfl
            refine ww_aload_n hX (pc := 173) dX0_join_173 rfl ?_
            refine ww_getR hX (pc := 174) fX0_17 (by decide) (xs_15 hL) (xr_15_1 hL) dX0_join_174 ?_
            refine ww_iload_n hX (pc := 177) dX0_join_177 rfl ?_
            refine ww_lload hX (pc := 178) dX0_join_178 rfl ?_
            refine ww_last hX (pc := 180) (xs_17 hL) (by decide) (by omega) (by omega) dX0_join_180 ?_
            refine ww_nmK (fun J_180 eJ_180 => ?_)
            have kJ_180 : Kp 15 18 Ja J_180 := by rw [eJ_180]; exact Kp_up (Kp_rf (a := 15) (b := 18)) _ _ (by decide)
            refine ww_lload hX (pc := 181) dX0_join_181 rfl ?_
            refine ww_ldc2 hX (pc := 183) (x := 1000000000) dX0_join_183 tb_718 ?_
            refine ww_lcmp hX (pc := 186) dX0_join_186 ?_
            refine ww_if_gt hX (pc := 187) (tgt := 203) dX0_join_187 (by decide) (fun h_187 => ?_) (fun h_187 => ?_)
            · simp only [w32_mod] at h_187
              refine ww_iconst hX (pc := 203) (x := 0) dX0_join_203 rfl ?_
              refine rZ hX (pc := 204) hT (Nat.le_refl 0) (Nat.le_refl 0) dX0_join_204 (by decide) ?_
              exact ⟨rfl, kJ_180, by omega, zJo_r (by rw [ho]; omega) hval (fun g => by omega) (fun g => by omega) (by rw [eJ_180]; exact up2_row ..)⟩
            · simp only [w32_mod] at h_187
              refine ww_lload hX (pc := 190) dX0_join_190 rfl ?_
              refine ww_ldc2 hX (pc := 192) (x := (-1000000000)) dX0_join_192 tb_719 ?_
              refine ww_lcmp hX (pc := 195) dX0_join_195 ?_
              refine ww_if_lt hX (pc := 196) (tgt := 203) dX0_join_196 (by decide) (fun h_196 => ?_) (fun h_196 => ?_)
              · simp only [w32_mod] at h_196
                refine ww_iconst hX (pc := 203) (x := 0) dX0_join_203 rfl ?_
                refine rZ hX (pc := 204) hT (Nat.le_refl 0) (Nat.le_refl 0) dX0_join_204 (by decide) ?_
                exact ⟨rfl, kJ_180, by omega, zJo_r (by rw [ho]; omega) hval (fun g => by omega) (fun g => by omega) (by rw [eJ_180]; exact up2_row ..)⟩
              · simp only [w32_mod] at h_196
                refine ww_iconst hX (pc := 199) (x := 1) dX0_join_199 rfl ?_
                refine ww_goto hX (pc := 200) (tgt := 204) dX0_join_200 (by decide) ?_
                refine rZ hX (pc := 204) hT (Nat.le_refl 0) (Nat.le_refl 0) dX0_join_204 (by decide) ?_
                exact ⟨rfl, kJ_180, by omega, zJo_r (by rw [ho]; omega) hval (fun g => by omega) (fun g => by omega) (by rw [eJ_180]; exact up2_row ..)⟩
          · refine ⟨68, 107, rfl, by decide, ?_⟩
            have ho : zOc a = 147 := by rw [show a = -14 by omega]; rfl
            refine ww_lload_n hX (pc := 107) dX0_join_107 rfl ?_
            refine ww_lload hX (pc := 108) dX0_join_108 rfl ?_
            refine ww_ldiv hX (pc := 110) dX0_join_110 (by first | exact l_cmp_ne0 h_33 | (exfalso; omega)) ?_
            refine ww_nmL (fun v_111 hv_111 => ?_)
            refine ww_lstore hX (pc := 111) (lv' := [some (kR (some 15)), some (kI a), some (kI b), some (kL v_6), none, some (kL v_15), none, some (kL v_111), none]) dX0_join_111 (by decide) rfl rfl ?_
            refine ww_goto hX (pc := 113) (tgt := 173) dX0_join_113 (by decide) ?_
            have hval : zJv (zOc a) u v17 = v_111 := by rw [ho, zJv_147, hv_111, e6, e15]; exact (l_div_t (by omega) (by omega) (by omega) (by omega)).symm
            have hvb : -2000000000000000000 ≤ v_111 ∧ v_111 ≤ 2000000000000000000 := by have h9 := tdiv_le (b := v17) ru.1 ru.2; rw [← hval, ho, zJv_147]; omega
            have hw1 := w64_id (x := v_111) (by omega) (by omega)
            have hl1 := l_cmp_v v_111 1000000000
            have hl2 := l_cmp_v v_111 (-1000000000)
            have hk1 : w64 1000000000 = 1000000000 := rfl
            have hk2 : w64 (-1000000000) = -1000000000 := rfl
            refine ww_aload_n hX (pc := 173) dX0_join_173 rfl ?_
            refine ww_getR hX (pc := 174) fX0_17 (by decide) (xs_15 hL) (xr_15_1 hL) dX0_join_174 ?_
            refine ww_iload_n hX (pc := 177) dX0_join_177 rfl ?_
            refine ww_lload hX (pc := 178) dX0_join_178 rfl ?_
            refine ww_last hX (pc := 180) (xs_17 hL) (by decide) (by omega) (by omega) dX0_join_180 ?_
            refine ww_nmK (fun J_180 eJ_180 => ?_)
            have kJ_180 : Kp 15 18 Ja J_180 := by rw [eJ_180]; exact Kp_up (Kp_rf (a := 15) (b := 18)) _ _ (by decide)
            refine ww_lload hX (pc := 181) dX0_join_181 rfl ?_
            refine ww_ldc2 hX (pc := 183) (x := 1000000000) dX0_join_183 tb_718 ?_
            refine ww_lcmp hX (pc := 186) dX0_join_186 ?_
            refine ww_if_gt hX (pc := 187) (tgt := 203) dX0_join_187 (by decide) (fun h_187 => ?_) (fun h_187 => ?_)
            · simp only [w32_mod] at h_187
              refine ww_iconst hX (pc := 203) (x := 0) dX0_join_203 rfl ?_
              refine rZ hX (pc := 204) hT (Nat.le_refl 0) (Nat.le_refl 0) dX0_join_204 (by decide) ?_
              exact ⟨rfl, kJ_180, by omega, zJo_r (by rw [ho]; omega) hval (fun g => by omega) (fun g => by omega) (by rw [eJ_180]; exact up2_row ..)⟩
            · simp only [w32_mod] at h_187
              refine ww_lload hX (pc := 190) dX0_join_190 rfl ?_
              refine ww_ldc2 hX (pc := 192) (x := (-1000000000)) dX0_join_192 tb_719 ?_
              refine ww_lcmp hX (pc := 195) dX0_join_195 ?_
              refine ww_if_lt hX (pc := 196) (tgt := 203) dX0_join_196 (by decide) (fun h_196 => ?_) (fun h_196 => ?_)
              · simp only [w32_mod] at h_196
                refine ww_iconst hX (pc := 203) (x := 0) dX0_join_203 rfl ?_
                refine rZ hX (pc := 204) hT (Nat.le_refl 0) (Nat.le_refl 0) dX0_join_204 (by decide) ?_
                exact ⟨rfl, kJ_180, by omega, zJo_r (by rw [ho]; omega) hval (fun g => by omega) (fun g => by omega) (by rw [eJ_180]; exact up2_row ..)⟩
              · simp only [w32_mod] at h_196
                refine ww_iconst hX (pc := 199) (x := 1) dX0_join_199 rfl ?_
                refine ww_goto hX (pc := 200) (tgt := 204) dX0_join_200 (by decide) ?_
                refine rZ hX (pc := 204) hT (Nat.le_refl 0) (Nat.le_refl 0) dX0_join_204 (by decide) ?_
                exact ⟨rfl, kJ_180, by omega, zJo_r (by rw [ho]; omega) hval (fun g => by omega) (fun g => by omega) (by rw [eJ_180]; exact up2_row ..)⟩
          · refine ⟨59, 98, rfl, by decide, ?_⟩
            have ho : zOc a = 142 := by rw [show a = -13 by omega]; rfl
            refine ww_lload_n hX (pc := 98) dX0_join_98 rfl ?_
            refine ww_lload hX (pc := 99) dX0_join_99 rfl ?_
            refine ww_lmul hX (pc := 101) dX0_join_101 ?_
            refine ww_nmL (fun v_102 hv_102 => ?_)
            refine ww_lstore hX (pc := 102) (lv' := [some (kR (some 15)), some (kI a), some (kI b), some (kL v_6), none, some (kL v_15), none, some (kL v_102), none]) dX0_join_102 (by decide) rfl rfl ?_
            refine ww_goto hX (pc := 104) (tgt := 173) dX0_join_104 (by decide) ?_
            have hval : zJv (zOc a) u v17 = v_102 := by rw [ho, zJv_142, hv_102, e6, e15]
            have hvb : -2000000000000000000 ≤ v_102 ∧ v_102 ≤ 2000000000000000000 := by have h9 := mul_le9 ru.1 ru.2 rv.1 rv.2; rw [← hval, ho, zJv_142]; omega
            have hw1 := w64_id (x := v_102) (by omega) (by omega)
            have hl1 := l_cmp_v v_102 1000000000
            have hl2 := l_cmp_v v_102 (-1000000000)
            have hk1 : w64 1000000000 = 1000000000 := rfl
            have hk2 : w64 (-1000000000) = -1000000000 := rfl
            refine ww_aload_n hX (pc := 173) dX0_join_173 rfl ?_
            refine ww_getR hX (pc := 174) fX0_17 (by decide) (xs_15 hL) (xr_15_1 hL) dX0_join_174 ?_
            refine ww_iload_n hX (pc := 177) dX0_join_177 rfl ?_
            refine ww_lload hX (pc := 178) dX0_join_178 rfl ?_
            refine ww_last hX (pc := 180) (xs_17 hL) (by decide) (by omega) (by omega) dX0_join_180 ?_
            refine ww_nmK (fun J_180 eJ_180 => ?_)
            have kJ_180 : Kp 15 18 Ja J_180 := by rw [eJ_180]; exact Kp_up (Kp_rf (a := 15) (b := 18)) _ _ (by decide)
            refine ww_lload hX (pc := 181) dX0_join_181 rfl ?_
            refine ww_ldc2 hX (pc := 183) (x := 1000000000) dX0_join_183 tb_718 ?_
            refine ww_lcmp hX (pc := 186) dX0_join_186 ?_
            refine ww_if_gt hX (pc := 187) (tgt := 203) dX0_join_187 (by decide) (fun h_187 => ?_) (fun h_187 => ?_)
            · simp only [w32_mod] at h_187
              refine ww_iconst hX (pc := 203) (x := 0) dX0_join_203 rfl ?_
              refine rZ hX (pc := 204) hT (Nat.le_refl 0) (Nat.le_refl 0) dX0_join_204 (by decide) ?_
              exact ⟨rfl, kJ_180, by omega, zJo_r (by rw [ho]; omega) hval (fun g => by omega) (fun g => by omega) (by rw [eJ_180]; exact up2_row ..)⟩
            · simp only [w32_mod] at h_187
              refine ww_lload hX (pc := 190) dX0_join_190 rfl ?_
              refine ww_ldc2 hX (pc := 192) (x := (-1000000000)) dX0_join_192 tb_719 ?_
              refine ww_lcmp hX (pc := 195) dX0_join_195 ?_
              refine ww_if_lt hX (pc := 196) (tgt := 203) dX0_join_196 (by decide) (fun h_196 => ?_) (fun h_196 => ?_)
              · simp only [w32_mod] at h_196
                refine ww_iconst hX (pc := 203) (x := 0) dX0_join_203 rfl ?_
                refine rZ hX (pc := 204) hT (Nat.le_refl 0) (Nat.le_refl 0) dX0_join_204 (by decide) ?_
                exact ⟨rfl, kJ_180, by omega, zJo_r (by rw [ho]; omega) hval (fun g => by omega) (fun g => by omega) (by rw [eJ_180]; exact up2_row ..)⟩
              · simp only [w32_mod] at h_196
                refine ww_iconst hX (pc := 199) (x := 1) dX0_join_199 rfl ?_
                refine ww_goto hX (pc := 200) (tgt := 204) dX0_join_200 (by decide) ?_
                refine rZ hX (pc := 204) hT (Nat.le_refl 0) (Nat.le_refl 0) dX0_join_204 (by decide) ?_
                exact ⟨rfl, kJ_180, by omega, zJo_r (by rw [ho]; omega) hval (fun g => by omega) (fun g => by omega) (by rw [eJ_180]; exact up2_row ..)⟩
          · refine ⟨50, 89, rfl, by decide, ?_⟩
            have ho : zOc a = 145 := by rw [show a = -12 by omega]; rfl
            refine ww_lload_n hX (pc := 89) dX0_join_89 rfl ?_
            refine ww_lload hX (pc := 90) dX0_join_90 rfl ?_
            refine ww_lsub hX (pc := 92) dX0_join_92 ?_
            refine ww_nmL (fun v_93 hv_93 => ?_)
            refine ww_lstore hX (pc := 93) (lv' := [some (kR (some 15)), some (kI a), some (kI b), some (kL v_6), none, some (kL v_15), none, some (kL v_93), none]) dX0_join_93 (by decide) rfl rfl ?_
            refine ww_goto hX (pc := 95) (tgt := 173) dX0_join_95 (by decide) ?_
            have hval : zJv (zOc a) u v17 = v_93 := by rw [ho, zJv_145]; omega
            have hvb : -2000000000000000000 ≤ v_93 ∧ v_93 ≤ 2000000000000000000 := by omega
            have hw1 := w64_id (x := v_93) (by omega) (by omega)
            have hl1 := l_cmp_v v_93 1000000000
            have hl2 := l_cmp_v v_93 (-1000000000)
            have hk1 : w64 1000000000 = 1000000000 := rfl
            have hk2 : w64 (-1000000000) = -1000000000 := rfl
            refine ww_aload_n hX (pc := 173) dX0_join_173 rfl ?_
            refine ww_getR hX (pc := 174) fX0_17 (by decide) (xs_15 hL) (xr_15_1 hL) dX0_join_174 ?_
            refine ww_iload_n hX (pc := 177) dX0_join_177 rfl ?_
            refine ww_lload hX (pc := 178) dX0_join_178 rfl ?_
            refine ww_last hX (pc := 180) (xs_17 hL) (by decide) (by omega) (by omega) dX0_join_180 ?_
            refine ww_nmK (fun J_180 eJ_180 => ?_)
            have kJ_180 : Kp 15 18 Ja J_180 := by rw [eJ_180]; exact Kp_up (Kp_rf (a := 15) (b := 18)) _ _ (by decide)
            refine ww_lload hX (pc := 181) dX0_join_181 rfl ?_
            refine ww_ldc2 hX (pc := 183) (x := 1000000000) dX0_join_183 tb_718 ?_
            refine ww_lcmp hX (pc := 186) dX0_join_186 ?_
            refine ww_if_gt hX (pc := 187) (tgt := 203) dX0_join_187 (by decide) (fun h_187 => ?_) (fun h_187 => ?_)
            · simp only [w32_mod] at h_187
              refine ww_iconst hX (pc := 203) (x := 0) dX0_join_203 rfl ?_
              refine rZ hX (pc := 204) hT (Nat.le_refl 0) (Nat.le_refl 0) dX0_join_204 (by decide) ?_
              exact ⟨rfl, kJ_180, by omega, zJo_r (by rw [ho]; omega) hval (fun g => by omega) (fun g => by omega) (by rw [eJ_180]; exact up2_row ..)⟩
            · simp only [w32_mod] at h_187
              refine ww_lload hX (pc := 190) dX0_join_190 rfl ?_
              refine ww_ldc2 hX (pc := 192) (x := (-1000000000)) dX0_join_192 tb_719 ?_
              refine ww_lcmp hX (pc := 195) dX0_join_195 ?_
              refine ww_if_lt hX (pc := 196) (tgt := 203) dX0_join_196 (by decide) (fun h_196 => ?_) (fun h_196 => ?_)
              · simp only [w32_mod] at h_196
                refine ww_iconst hX (pc := 203) (x := 0) dX0_join_203 rfl ?_
                refine rZ hX (pc := 204) hT (Nat.le_refl 0) (Nat.le_refl 0) dX0_join_204 (by decide) ?_
                exact ⟨rfl, kJ_180, by omega, zJo_r (by rw [ho]; omega) hval (fun g => by omega) (fun g => by omega) (by rw [eJ_180]; exact up2_row ..)⟩
              · simp only [w32_mod] at h_196
                refine ww_iconst hX (pc := 199) (x := 1) dX0_join_199 rfl ?_
                refine ww_goto hX (pc := 200) (tgt := 204) dX0_join_200 (by decide) ?_
                refine rZ hX (pc := 204) hT (Nat.le_refl 0) (Nat.le_refl 0) dX0_join_204 (by decide) ?_
                exact ⟨rfl, kJ_180, by omega, zJo_r (by rw [ho]; omega) hval (fun g => by omega) (fun g => by omega) (by rw [eJ_180]; exact up2_row ..)⟩
          · refine ⟨41, 80, rfl, by decide, ?_⟩
            have ho : zOc a = 143 := by rw [show a = -11 by omega]; rfl
            refine ww_lload_n hX (pc := 80) dX0_join_80 rfl ?_
            refine ww_lload hX (pc := 81) dX0_join_81 rfl ?_
            refine ww_ladd hX (pc := 83) dX0_join_83 ?_
            refine ww_nmL (fun v_84 hv_84 => ?_)
            refine ww_lstore hX (pc := 84) (lv' := [some (kR (some 15)), some (kI a), some (kI b), some (kL v_6), none, some (kL v_15), none, some (kL v_84), none]) dX0_join_84 (by decide) rfl rfl ?_
            refine ww_goto hX (pc := 86) (tgt := 173) dX0_join_86 (by decide) ?_
            have hval : zJv (zOc a) u v17 = v_84 := by rw [ho, zJv_143]; omega
            have hvb : -2000000000000000000 ≤ v_84 ∧ v_84 ≤ 2000000000000000000 := by omega
            have hw1 := w64_id (x := v_84) (by omega) (by omega)
            have hl1 := l_cmp_v v_84 1000000000
            have hl2 := l_cmp_v v_84 (-1000000000)
            have hk1 : w64 1000000000 = 1000000000 := rfl
            have hk2 : w64 (-1000000000) = -1000000000 := rfl
            refine ww_aload_n hX (pc := 173) dX0_join_173 rfl ?_
            refine ww_getR hX (pc := 174) fX0_17 (by decide) (xs_15 hL) (xr_15_1 hL) dX0_join_174 ?_
            refine ww_iload_n hX (pc := 177) dX0_join_177 rfl ?_
            refine ww_lload hX (pc := 178) dX0_join_178 rfl ?_
            refine ww_last hX (pc := 180) (xs_17 hL) (by decide) (by omega) (by omega) dX0_join_180 ?_
            refine ww_nmK (fun J_180 eJ_180 => ?_)
            have kJ_180 : Kp 15 18 Ja J_180 := by rw [eJ_180]; exact Kp_up (Kp_rf (a := 15) (b := 18)) _ _ (by decide)
            refine ww_lload hX (pc := 181) dX0_join_181 rfl ?_
            refine ww_ldc2 hX (pc := 183) (x := 1000000000) dX0_join_183 tb_718 ?_
            refine ww_lcmp hX (pc := 186) dX0_join_186 ?_
            refine ww_if_gt hX (pc := 187) (tgt := 203) dX0_join_187 (by decide) (fun h_187 => ?_) (fun h_187 => ?_)
            · simp only [w32_mod] at h_187
              refine ww_iconst hX (pc := 203) (x := 0) dX0_join_203 rfl ?_
              refine rZ hX (pc := 204) hT (Nat.le_refl 0) (Nat.le_refl 0) dX0_join_204 (by decide) ?_
              exact ⟨rfl, kJ_180, by omega, zJo_r (by rw [ho]; omega) hval (fun g => by omega) (fun g => by omega) (by rw [eJ_180]; exact up2_row ..)⟩
            · simp only [w32_mod] at h_187
              refine ww_lload hX (pc := 190) dX0_join_190 rfl ?_
              refine ww_ldc2 hX (pc := 192) (x := (-1000000000)) dX0_join_192 tb_719 ?_
              refine ww_lcmp hX (pc := 195) dX0_join_195 ?_
              refine ww_if_lt hX (pc := 196) (tgt := 203) dX0_join_196 (by decide) (fun h_196 => ?_) (fun h_196 => ?_)
              · simp only [w32_mod] at h_196
                refine ww_iconst hX (pc := 203) (x := 0) dX0_join_203 rfl ?_
                refine rZ hX (pc := 204) hT (Nat.le_refl 0) (Nat.le_refl 0) dX0_join_204 (by decide) ?_
                exact ⟨rfl, kJ_180, by omega, zJo_r (by rw [ho]; omega) hval (fun g => by omega) (fun g => by omega) (by rw [eJ_180]; exact up2_row ..)⟩
              · simp only [w32_mod] at h_196
                refine ww_iconst hX (pc := 199) (x := 1) dX0_join_199 rfl ?_
                refine ww_goto hX (pc := 200) (tgt := 204) dX0_join_200 (by decide) ?_
                refine rZ hX (pc := 204) hT (Nat.le_refl 0) (Nat.le_refl 0) dX0_join_204 (by decide) ?_
                exact ⟨rfl, kJ_180, by omega, zJo_r (by rw [ho]; omega) hval (fun g => by omega) (fun g => by omega) (by rw [eJ_180]; exact up2_row ..)⟩
      · simp only [w32_mod] at h_33
        refine ww_iconst hX (pc := 36) (x := 0) dX0_join_36 rfl ?_
        refine rZ hX (pc := 37) hT (Nat.le_refl 0) (Nat.le_refl 0) dX0_join_37 (by decide) ?_
        exact ⟨rfl, (Kp_rf (a := 15) (b := 18)), by omega, (by
            rcases (show a = -14 ∨ a = -15 by omega) with h9 | h9
            · rw [h9]; exact zJo_0 ⟨Or.inl rfl, by omega⟩ (by omega)
            · rw [h9]; exact zJo_0 ⟨Or.inr rfl, by omega⟩ (by omega))⟩
