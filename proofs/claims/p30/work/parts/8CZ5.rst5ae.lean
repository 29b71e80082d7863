set_option maxHeartbeats 4000000 in
set_option maxRecDepth 20000 in
theorem c8_X11_status (l0 : Launch) {Ia Ja : aI1} {Ra : aR1} {Sa : aS1} (hL : LY Ra Sa) (hQ : RX Ia)  : CT l0 0 0 0 mX11_status [kR (some 49)] Ia Ja Ra Sa (cI (fun x I' J' => Ia = I' ∧ Ja = J' ∧ x = Ia 49 0) Ra Sa) := by
  refine ct_in pn_X11 (Nat.le_of_ble_eq_true rfl) (fun X hX hT hIn => ?_)
  have hX : aK l0 X cX11_status 1 RX11 (some .int) 0 0 0 := hX
  change WW X 0 [some (kR (some 49))] [] Ia Ja Ra Sa 0 0
  have qIa := RX_o hQ
  refine ww_aload_n hX (pc := 0) dX11_status_0 rfl ?_
  refine ww_getI hX (pc := 1) fX11_3 (by decide) (xs_49 hL) dX11_status_1 ?_
  refine rI hX (pc := 4) hT (Nat.le_refl 0) (Nat.le_refl 0) dX11_status_4 ?_
  exact ⟨rfl, rfl, rfl⟩
def CNr (I : aI1) (rd a : Int) : Int := if a = 0 then I 51 304 else if a = 1 then I 51 305 else if a = 2 then I 51 310 else if a = 3 then rd else if a = 4 then I 51 308 else if a = 5 then I 51 309 else if a = 6 then I 49 10 else if a = 7 then I 50 1 else if a = 8 then I 50 2 else if a = 9 then I 50 3 else if a = 10 then I 50 5 else if a = 11 then I 50 6 else if a = 12 then I 49 33 else -1
set_option maxHeartbeats 4000000 in
set_option maxRecDepth 20000 in
theorem c8_X11_count (l0 : Launch) {Ia Ja : aI1} {Ra : aR1} {Sa : aS1} (hL : LY Ra Sa) (hQ : RX Ia) {a : Int} (ha0 : -2147483648 ≤ a) (ha1 : a < 2147483648) (hcr : ∀ t : Nat, (t : Int) ≤ FU (Ia 51 304) → -1 ≤ Ia 51 t ∧ Ia 51 t ≤ 7)  : CT l0 2 0 0 mX11_count [kR (some 49), kI a] Ia Ja Ra Sa (cI (fun x I' J' => Ia = I' ∧ Ja = J' ∧ x = CNr Ia (cnR (Ia 51) (FU (Ia 51 304) + 1).toNat) a) Ra Sa) := by
  refine ct_in pn_X11 (Nat.le_of_ble_eq_true rfl) (fun X hX hT hIn => ?_)
  have hX : aK l0 X cX11_count 2 RX11 (some .int) 2 0 0 := hX
  change WW X 0 [some (kR (some 49)), some (kI a)] [] Ia Ja Ra Sa 0 0
  have qIa := RX_o hQ
  refine ww_iload_n hX (pc := 0) dX11_count_0 rfl ?_
  refine ww_table hX (pc := 1) dX11_count_1 153 (by decide) (fun h_1 => ?_) (fun i_1 h_1 e_1 => ?_)
  · simp only [w32_mod] at h_1
    refine ww_iconst hX (pc := 153) (x := (-1)) dX11_count_153 rfl ?_
    refine rI hX (pc := 154) hT (Nat.le_refl 0) (Nat.le_refl 0) dX11_count_154 ?_
    exact ⟨rfl, rfl, by
          unfold CNr
          (repeat (first | rw [if_pos (by omega)] | rw [if_neg (by omega)])) <;> first | rfl | exact congrArg (Ia 50) (by omega)⟩
  · simp only [w32_mod] at e_1
    rcases (show i_1 = 0 ∨ i_1 = 1 ∨ i_1 = 2 ∨ i_1 = 3 ∨ i_1 = 4 ∨ i_1 = 5 ∨ i_1 = 6 ∨ i_1 = 7 ∨ i_1 = 8 ∨ i_1 = 9 ∨ i_1 = 10 ∨ i_1 = 11 ∨ i_1 = 12 by omega) with rfl | rfl | rfl | rfl | rfl | rfl | rfl | rfl | rfl | rfl | rfl | rfl | rfl
    · refine ⟨67, 68, rfl, by decide, ?_⟩
      refine ww_aload_n hX (pc := 68) dX11_count_68 rfl ?_
      refine ww_getR hX (pc := 69) fX11_20 (by decide) (xs_49 hL) (xr_49_3 hL) dX11_count_69 ?_
      refine ww_sipush hX (pc := 72) (x := 304) dX11_count_72 (by decide) ?_
      refine ww_iald hX (pc := 75) (xs_51 hL) (by decide) (by omega) (by omega) dX11_count_75 ?_
      refine ww_toI (b := Ia 51 304) rfl ?_
      refine rI hX (pc := 76) hT (Nat.le_refl 0) (Nat.le_refl 0) dX11_count_76 ?_
      exact ⟨rfl, rfl, by
            unfold CNr
            (repeat (first | rw [if_pos (by omega)] | rw [if_neg (by omega)])) <;> first | rfl | exact congrArg (Ia 50) (by omega)⟩
    · refine ⟨76, 77, rfl, by decide, ?_⟩
      refine ww_aload_n hX (pc := 77) dX11_count_77 rfl ?_
      refine ww_getR hX (pc := 78) fX11_20 (by decide) (xs_49 hL) (xr_49_3 hL) dX11_count_78 ?_
      refine ww_sipush hX (pc := 81) (x := 305) dX11_count_81 (by decide) ?_
      refine ww_iald hX (pc := 84) (xs_51 hL) (by decide) (by omega) (by omega) dX11_count_84 ?_
      refine ww_toI (b := Ia 51 305) rfl ?_
      refine rI hX (pc := 85) hT (Nat.le_refl 0) (Nat.le_refl 0) dX11_count_85 ?_
      exact ⟨rfl, rfl, by
            unfold CNr
            (repeat (first | rw [if_pos (by omega)] | rw [if_neg (by omega)])) <;> first | rfl | exact congrArg (Ia 50) (by omega)⟩
    · refine ⟨85, 86, rfl, by decide, ?_⟩
      refine ww_aload_n hX (pc := 86) dX11_count_86 rfl ?_
      refine ww_getR hX (pc := 87) fX11_20 (by decide) (xs_49 hL) (xr_49_3 hL) dX11_count_87 ?_
      refine ww_sipush hX (pc := 90) (x := 310) dX11_count_90 (by decide) ?_
      refine ww_iald hX (pc := 93) (xs_51 hL) (by decide) (by omega) (by omega) dX11_count_93 ?_
      refine ww_toI (b := Ia 51 310) rfl ?_
      refine rI hX (pc := 94) hT (Nat.le_refl 0) (Nat.le_refl 0) dX11_count_94 ?_
      exact ⟨rfl, rfl, by
            unfold CNr
            (repeat (first | rw [if_pos (by omega)] | rw [if_neg (by omega)])) <;> first | rfl | exact congrArg (Ia 50) (by omega)⟩
    · refine ⟨94, 95, rfl, by decide, ?_⟩
      refine ww_aload_n hX (pc := 95) dX11_count_95 rfl ?_
      refine vI0 hX (pc := 96) sX11_139 (xs_49 hL) (c5_X11_readMany l0 hL hQ hcr) (by decide) (Nat.le_refl 0) (Nat.le_refl 0) (Nat.le_of_ble_eq_true rfl) dX11_count_96 (fun x_96 I_96 J_96 h_96 => ?_)
      obtain ⟨rfl, rfl, h_96⟩ := h_96
      refine rI hX (pc := 99) hT (Nat.le_refl 0) (Nat.le_refl 0) dX11_count_99 ?_
      exact ⟨rfl, rfl, by
            rw [h_96]
            unfold CNr
            (repeat (first | rw [if_pos (by omega)] | rw [if_neg (by omega)])) <;> first | rfl | exact congrArg (Ia 50) (by omega)⟩
    · refine ⟨99, 100, rfl, by decide, ?_⟩
      refine ww_aload_n hX (pc := 100) dX11_count_100 rfl ?_
      refine ww_getR hX (pc := 101) fX11_20 (by decide) (xs_49 hL) (xr_49_3 hL) dX11_count_101 ?_
      refine ww_sipush hX (pc := 104) (x := 308) dX11_count_104 (by decide) ?_
      refine ww_iald hX (pc := 107) (xs_51 hL) (by decide) (by omega) (by omega) dX11_count_107 ?_
      refine ww_toI (b := Ia 51 308) rfl ?_
      refine rI hX (pc := 108) hT (Nat.le_refl 0) (Nat.le_refl 0) dX11_count_108 ?_
      exact ⟨rfl, rfl, by
            unfold CNr
            (repeat (first | rw [if_pos (by omega)] | rw [if_neg (by omega)])) <;> first | rfl | exact congrArg (Ia 50) (by omega)⟩
    · refine ⟨108, 109, rfl, by decide, ?_⟩
      refine ww_aload_n hX (pc := 109) dX11_count_109 rfl ?_
      refine ww_getR hX (pc := 110) fX11_20 (by decide) (xs_49 hL) (xr_49_3 hL) dX11_count_110 ?_
      refine ww_sipush hX (pc := 113) (x := 309) dX11_count_113 (by decide) ?_
      refine ww_iald hX (pc := 116) (xs_51 hL) (by decide) (by omega) (by omega) dX11_count_116 ?_
      refine ww_toI (b := Ia 51 309) rfl ?_
      refine rI hX (pc := 117) hT (Nat.le_refl 0) (Nat.le_refl 0) dX11_count_117 ?_
      exact ⟨rfl, rfl, by
            unfold CNr
            (repeat (first | rw [if_pos (by omega)] | rw [if_neg (by omega)])) <;> first | rfl | exact congrArg (Ia 50) (by omega)⟩
    · refine ⟨117, 118, rfl, by decide, ?_⟩
      refine ww_aload_n hX (pc := 118) dX11_count_118 rfl ?_
      refine ww_getI hX (pc := 119) fX11_129 (by decide) (xs_49 hL) dX11_count_119 ?_
      refine rI hX (pc := 122) hT (Nat.le_refl 0) (Nat.le_refl 0) dX11_count_122 ?_
      exact ⟨rfl, rfl, by
            unfold CNr
            (repeat (first | rw [if_pos (by omega)] | rw [if_neg (by omega)])) <;> first | rfl | exact congrArg (Ia 50) (by omega)⟩
    · refine ⟨122, 123, rfl, by decide, ?_⟩
      refine ww_aload_n hX (pc := 123) dX11_count_123 rfl ?_
      refine ww_getR hX (pc := 124) fX11_7 (by decide) (xs_49 hL) (xr_49_2 hL) dX11_count_124 ?_
      refine ww_iload_n hX (pc := 127) dX11_count_127 rfl ?_
      refine ww_bipush hX (pc := 128) (x := 6) dX11_count_128 (by decide) ?_
      refine ww_isub hX (pc := 130) dX11_count_130 ?_
      refine ww_iald hX (pc := 131) (xs_50 hL) (by decide) (by omega) (by omega) dX11_count_131 ?_
      refine rI hX (pc := 132) hT (Nat.le_refl 0) (Nat.le_refl 0) dX11_count_132 ?_
      exact ⟨rfl, rfl, by
            unfold CNr
            (repeat (first | rw [if_pos (by omega)] | rw [if_neg (by omega)])) <;> first | rfl | exact congrArg (Ia 50) (by omega)⟩
    · refine ⟨122, 123, rfl, by decide, ?_⟩
      refine ww_aload_n hX (pc := 123) dX11_count_123 rfl ?_
      refine ww_getR hX (pc := 124) fX11_7 (by decide) (xs_49 hL) (xr_49_2 hL) dX11_count_124 ?_
      refine ww_iload_n hX (pc := 127) dX11_count_127 rfl ?_
      refine ww_bipush hX (pc := 128) (x := 6) dX11_count_128 (by decide) ?_
      refine ww_isub hX (pc := 130) dX11_count_130 ?_
      refine ww_iald hX (pc := 131) (xs_50 hL) (by decide) (by omega) (by omega) dX11_count_131 ?_
      refine rI hX (pc := 132) hT (Nat.le_refl 0) (Nat.le_refl 0) dX11_count_132 ?_
      exact ⟨rfl, rfl, by
            unfold CNr
            (repeat (first | rw [if_pos (by omega)] | rw [if_neg (by omega)])) <;> first | rfl | exact congrArg (Ia 50) (by omega)⟩
    · refine ⟨122, 123, rfl, by decide, ?_⟩
      refine ww_aload_n hX (pc := 123) dX11_count_123 rfl ?_
      refine ww_getR hX (pc := 124) fX11_7 (by decide) (xs_49 hL) (xr_49_2 hL) dX11_count_124 ?_
      refine ww_iload_n hX (pc := 127) dX11_count_127 rfl ?_
      refine ww_bipush hX (pc := 128) (x := 6) dX11_count_128 (by decide) ?_
      refine ww_isub hX (pc := 130) dX11_count_130 ?_
      refine ww_iald hX (pc := 131) (xs_50 hL) (by decide) (by omega) (by omega) dX11_count_131 ?_
      refine rI hX (pc := 132) hT (Nat.le_refl 0) (Nat.le_refl 0) dX11_count_132 ?_
      exact ⟨rfl, rfl, by
            unfold CNr
            (repeat (first | rw [if_pos (by omega)] | rw [if_neg (by omega)])) <;> first | rfl | exact congrArg (Ia 50) (by omega)⟩
    · refine ⟨132, 133, rfl, by decide, ?_⟩
      refine ww_aload_n hX (pc := 133) dX11_count_133 rfl ?_
      refine ww_getR hX (pc := 134) fX11_7 (by decide) (xs_49 hL) (xr_49_2 hL) dX11_count_134 ?_
      refine ww_iconst hX (pc := 137) (x := 5) dX11_count_137 rfl ?_
      refine ww_iald hX (pc := 138) (xs_50 hL) (by decide) (by omega) (by omega) dX11_count_138 ?_
      refine ww_toI (b := Ia 50 5) rfl ?_
      refine rI hX (pc := 139) hT (Nat.le_refl 0) (Nat.le_refl 0) dX11_count_139 ?_
      exact ⟨rfl, rfl, by
            unfold CNr
            (repeat (first | rw [if_pos (by omega)] | rw [if_neg (by omega)])) <;> first | rfl | exact congrArg (Ia 50) (by omega)⟩
    · refine ⟨139, 140, rfl, by decide, ?_⟩
      refine ww_aload_n hX (pc := 140) dX11_count_140 rfl ?_
      refine ww_getR hX (pc := 141) fX11_7 (by decide) (xs_49 hL) (xr_49_2 hL) dX11_count_141 ?_
      refine ww_bipush hX (pc := 144) (x := 6) dX11_count_144 (by decide) ?_
      refine ww_iald hX (pc := 146) (xs_50 hL) (by decide) (by omega) (by omega) dX11_count_146 ?_
      refine ww_toI (b := Ia 50 6) rfl ?_
      refine rI hX (pc := 147) hT (Nat.le_refl 0) (Nat.le_refl 0) dX11_count_147 ?_
      exact ⟨rfl, rfl, by
            unfold CNr
            (repeat (first | rw [if_pos (by omega)] | rw [if_neg (by omega)])) <;> first | rfl | exact congrArg (Ia 50) (by omega)⟩
    · refine ⟨147, 148, rfl, by decide, ?_⟩
      refine ww_aload_n hX (pc := 148) dX11_count_148 rfl ?_
      refine ww_getI hX (pc := 149) fX11_334 (by decide) (xs_49 hL) dX11_count_149 ?_
      refine rI hX (pc := 152) hT (Nat.le_refl 0) (Nat.le_refl 0) dX11_count_152 ?_
      exact ⟨rfl, rfl, by
            unfold CNr
            (repeat (first | rw [if_pos (by omega)] | rw [if_neg (by omega)])) <;> first | rfl | exact congrArg (Ia 50) (by omega)⟩
