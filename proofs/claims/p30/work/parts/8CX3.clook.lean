/-- what count tells -/
def CNc (I : aI1) (rd a : Int) : Int := if a = 0 then I 1 5 else if a = 1 then I 1 6 else if a = 2 then I 1 9 else if a = 3 then rd else if a = 4 then I 1 10 else if a = 5 then I 1 11 else if a = 6 then I 8 1 else if a = 7 then I 48 1 else if a = 8 then I 48 2 else if a = 9 then I 48 3 else if a = 10 then I 48 5 else if a = 11 then I 48 6 else if a = 12 then I 0 12 else -1

set_option maxHeartbeats 4000000 in
set_option maxRecDepth 20000 in
theorem c9_X10_status (l0 : Launch) {Ia Ja : aI1} {Ra : aR1} {Sa : aS1} (hL : LY Ra Sa) (hC : CX Ia) (hF : FRk Ia Ja)  : CT l0 10 0 0 mX10_status [kR (some 0)] Ia Ja Ra Sa (cI (fun x I' J' => (Kp 0 49 Ia I' ∧ Kp 0 49 Ja J' ∧ CX I' ∧ Fw [] [] Ia I' ∧ x = Ia 0 16) ∧ FRk I' J') Ra Sa) := by
  refine ct_in pn_X10 (Nat.le_of_ble_eq_true rfl) (fun X hX hT hIn => ?_)
  have hX : aK l0 X cX10_status 1 RX10 (some .int) 10 0 0 := hX
  change WW X 0 [some (kR (some 0))] [] Ia Ja Ra Sa 0 0
  have hI := hC.1
  have hq := XI_o hI
  refine ww_aload_n hX (pc := 0) dX10_status_0 rfl ?_
  refine ww_getI hX (pc := 1) fX10_304 (by decide) (xs_0 hL) dX10_status_1 ?_
  refine rI hX (pc := 4) hT (Nat.le_refl 0) (Nat.le_refl 0) dX10_status_4 ?_
  exact ⟨⟨(Kp_rf (a := 0) (b := 49)), (Kp_rf (a := 0) (b := 49)), hC, Fw_rf, rfl⟩, hF⟩
set_option maxHeartbeats 4000000 in
set_option maxRecDepth 20000 in
theorem c9_X10_fault (l0 : Launch) {Ia Ja : aI1} {Ra : aR1} {Sa : aS1} (hL : LY Ra Sa) (hC : CX Ia) (hF : FRk Ia Ja)  : CT l0 10 0 0 mX10_fault [kR (some 0)] Ia Ja Ra Sa (cI (fun x I' J' => (Kp 0 49 Ia I' ∧ Kp 0 49 Ja J' ∧ CX I' ∧ Fw [] [] Ia I' ∧ x = Ia 10 0) ∧ FRk I' J') Ra Sa) := by
  refine ct_in pn_X10 (Nat.le_of_ble_eq_true rfl) (fun X hX hT hIn => ?_)
  have hX : aK l0 X cX10_fault 1 RX10 (some .int) 10 0 0 := hX
  change WW X 0 [some (kR (some 0))] [] Ia Ja Ra Sa 0 0
  have hI := hC.1
  have hq := XI_o hI
  refine ww_aload_n hX (pc := 0) dX10_fault_0 rfl ?_
  refine ww_getR hX (pc := 1) fX10_32 (by decide) (xs_0 hL) (xr_0_3 hL) dX10_fault_1 ?_
  refine ww_getI hX (pc := 4) fX10_181 (by decide) (xs_10 hL) dX10_fault_4 ?_
  refine rI hX (pc := 7) hT (Nat.le_refl 0) (Nat.le_refl 0) dX10_fault_7 ?_
  exact ⟨⟨(Kp_rf (a := 0) (b := 49)), (Kp_rf (a := 0) (b := 49)), hC, Fw_rf, rfl⟩, hF⟩
set_option maxHeartbeats 4000000 in
set_option maxRecDepth 20000 in
theorem c9_X10_log (l0 : Launch) {Ia Ja : aI1} {Ra : aR1} {Sa : aS1} (hL : LY Ra Sa) (hC : CX Ia) (hF : FRk Ia Ja) {a : Int} (ha0 : -2147483648 ≤ a) (ha1 : a < 2147483648)  : CT l0 10 0 0 mX10_log [kR (some 0), kI a] Ia Ja Ra Sa (cI (fun x I' J' => (Kp 0 49 Ia I' ∧ Kp 0 49 Ja J' ∧ CX I' ∧ Fw [] [] Ia I' ∧ x = if a = -1 then Ia 1 8 else if 0 ≤ a ∧ a < Ia 1 10 then Ia 5 a.toNat else -1) ∧ FRk I' J') Ra Sa) := by
  refine ct_in pn_X10 (Nat.le_of_ble_eq_true rfl) (fun X hX hT hIn => ?_)
  have hX : aK l0 X cX10_log 2 RX10 (some .int) 10 0 0 := hX
  change WW X 0 [some (kR (some 0)), some (kI a)] [] Ia Ja Ra Sa 0 0
  have hI := hC.1
  have hq := XI_o hI
  refine ww_iload_n hX (pc := 0) dX10_log_0 rfl ?_
  refine ww_iconst hX (pc := 1) (x := (-1)) dX10_log_1 rfl ?_
  refine ww_icmp_ne hX (pc := 2) (tgt := 13) dX10_log_2 (by decide) (fun h_2 => ?_) (fun h_2 => ?_)
  · simp only [w32_mod] at h_2
    refine ww_iload_n hX (pc := 13) dX10_log_13 rfl ?_
    refine ww_if_lt hX (pc := 14) (tgt := 40) dX10_log_14 (by decide) (fun h_14 => ?_) (fun h_14 => ?_)
    · simp only [w32_mod] at h_14
      refine ww_iconst hX (pc := 40) (x := (-1)) dX10_log_40 rfl ?_
      refine rI hX (pc := 41) hT (Nat.le_refl 0) (Nat.le_refl 0) dX10_log_41 ?_
      exact ⟨⟨(Kp_rf (a := 0) (b := 49)), (Kp_rf (a := 0) (b := 49)), hC, Fw_rf, by (repeat (first | rw [if_pos (by omega)] | rw [if_neg (by omega)])) <;> rfl⟩, hF⟩
    · simp only [w32_mod] at h_14
      refine ww_iload_n hX (pc := 17) dX10_log_17 rfl ?_
      refine ww_aload_n hX (pc := 18) dX10_log_18 rfl ?_
      refine ww_getR hX (pc := 19) fX10_10 (by decide) (xs_0 hL) (xr_0_0 hL) dX10_log_19 ?_
      refine ww_getI hX (pc := 22) fX10_239 (by decide) (xs_1 hL) dX10_log_22 ?_
      refine ww_icmp_ge hX (pc := 25) (tgt := 40) dX10_log_25 (by decide) (fun h_25 => ?_) (fun h_25 => ?_)
      · simp only [w32_mod] at h_25
        refine ww_iconst hX (pc := 40) (x := (-1)) dX10_log_40 rfl ?_
        refine rI hX (pc := 41) hT (Nat.le_refl 0) (Nat.le_refl 0) dX10_log_41 ?_
        exact ⟨⟨(Kp_rf (a := 0) (b := 49)), (Kp_rf (a := 0) (b := 49)), hC, Fw_rf, by (repeat (first | rw [if_pos (by omega)] | rw [if_neg (by omega)])) <;> rfl⟩, hF⟩
      · simp only [w32_mod] at h_25
        refine ww_aload_n hX (pc := 28) dX10_log_28 rfl ?_
        refine ww_getR hX (pc := 29) fX10_10 (by decide) (xs_0 hL) (xr_0_0 hL) dX10_log_29 ?_
        refine ww_getR hX (pc := 32) fX10_247 (by decide) (xs_1 hL) (xr_1_3 hL) dX10_log_32 ?_
        refine ww_iload_n hX (pc := 35) dX10_log_35 rfl ?_
        refine ww_iald hX (pc := 36) (xs_5 hL) (by decide) (by omega) (by omega) dX10_log_36 ?_
        refine ww_goto hX (pc := 37) (tgt := 41) dX10_log_37 (by decide) ?_
        refine rI hX (pc := 41) hT (Nat.le_refl 0) (Nat.le_refl 0) dX10_log_41 ?_
        exact ⟨⟨(Kp_rf (a := 0) (b := 49)), (Kp_rf (a := 0) (b := 49)), hC, Fw_rf, by (repeat (first | rw [if_pos (by omega)] | rw [if_neg (by omega)])) <;> rfl⟩, hF⟩
  · simp only [w32_mod] at h_2
    refine ww_aload_n hX (pc := 5) dX10_log_5 rfl ?_
    refine ww_getR hX (pc := 6) fX10_10 (by decide) (xs_0 hL) (xr_0_0 hL) dX10_log_6 ?_
    refine ww_getI hX (pc := 9) fX10_236 (by decide) (xs_1 hL) dX10_log_9 ?_
    refine rI hX (pc := 12) hT (Nat.le_refl 0) (Nat.le_refl 0) dX10_log_12 ?_
    exact ⟨⟨(Kp_rf (a := 0) (b := 49)), (Kp_rf (a := 0) (b := 49)), hC, Fw_rf, by (repeat (first | rw [if_pos (by omega)] | rw [if_neg (by omega)])) <;> rfl⟩, hF⟩
set_option maxHeartbeats 4000000 in
set_option maxRecDepth 20000 in
theorem c9_X10_drawn (l0 : Launch) {Ia Ja : aI1} {Ra : aR1} {Sa : aS1} (hL : LY Ra Sa) (hC : CX Ia) (hF : FRk Ia Ja) {a : Int} (ha0 : -2147483648 ≤ a) (ha1 : a < 2147483648)  : CT l0 10 0 0 mX10_drawn [kR (some 0), kI a] Ia Ja Ra Sa (cI (fun x I' J' => (Kp 0 49 Ia I' ∧ Kp 0 49 Ja J' ∧ CX I' ∧ Fw [] [] Ia I' ∧ x = if a = -1 then Ia 0 14 else if 0 ≤ a ∧ a < Ia 0 13 then Ia 47 a.toNat else -1) ∧ FRk I' J') Ra Sa) := by
  refine ct_in pn_X10 (Nat.le_of_ble_eq_true rfl) (fun X hX hT hIn => ?_)
  have hX : aK l0 X cX10_drawn 2 RX10 (some .int) 10 0 0 := hX
  change WW X 0 [some (kR (some 0)), some (kI a)] [] Ia Ja Ra Sa 0 0
  have hI := hC.1
  have hq := XI_o hI
  refine ww_iload_n hX (pc := 0) dX10_drawn_0 rfl ?_
  refine ww_iconst hX (pc := 1) (x := (-1)) dX10_drawn_1 rfl ?_
  refine ww_icmp_ne hX (pc := 2) (tgt := 10) dX10_drawn_2 (by decide) (fun h_2 => ?_) (fun h_2 => ?_)
  · simp only [w32_mod] at h_2
    refine ww_iload_n hX (pc := 10) dX10_drawn_10 rfl ?_
    refine ww_if_lt hX (pc := 11) (tgt := 31) dX10_drawn_11 (by decide) (fun h_11 => ?_) (fun h_11 => ?_)
    · simp only [w32_mod] at h_11
      refine ww_iconst hX (pc := 31) (x := (-1)) dX10_drawn_31 rfl ?_
      refine rI hX (pc := 32) hT (Nat.le_refl 0) (Nat.le_refl 0) dX10_drawn_32 ?_
      exact ⟨⟨(Kp_rf (a := 0) (b := 49)), (Kp_rf (a := 0) (b := 49)), hC, Fw_rf, by (repeat (first | rw [if_pos (by omega)] | rw [if_neg (by omega)])) <;> rfl⟩, hF⟩
    · simp only [w32_mod] at h_11
      refine ww_iload_n hX (pc := 14) dX10_drawn_14 rfl ?_
      refine ww_aload_n hX (pc := 15) dX10_drawn_15 rfl ?_
      refine ww_getI hX (pc := 16) fX10_298 (by decide) (xs_0 hL) dX10_drawn_16 ?_
      refine ww_icmp_ge hX (pc := 19) (tgt := 31) dX10_drawn_19 (by decide) (fun h_19 => ?_) (fun h_19 => ?_)
      · simp only [w32_mod] at h_19
        refine ww_iconst hX (pc := 31) (x := (-1)) dX10_drawn_31 rfl ?_
        refine rI hX (pc := 32) hT (Nat.le_refl 0) (Nat.le_refl 0) dX10_drawn_32 ?_
        exact ⟨⟨(Kp_rf (a := 0) (b := 49)), (Kp_rf (a := 0) (b := 49)), hC, Fw_rf, by (repeat (first | rw [if_pos (by omega)] | rw [if_neg (by omega)])) <;> rfl⟩, hF⟩
      · simp only [w32_mod] at h_19
        refine ww_aload_n hX (pc := 22) dX10_drawn_22 rfl ?_
        refine ww_getR hX (pc := 23) fX10_79 (by decide) (xs_0 hL) (xr_0_10 hL) dX10_drawn_23 ?_
        refine ww_iload_n hX (pc := 26) dX10_drawn_26 rfl ?_
        refine ww_iald hX (pc := 27) (xs_47 hL) (by decide) (by omega) (by omega) dX10_drawn_27 ?_
        refine ww_goto hX (pc := 28) (tgt := 32) dX10_drawn_28 (by decide) ?_
        refine rI hX (pc := 32) hT (Nat.le_refl 0) (Nat.le_refl 0) dX10_drawn_32 ?_
        exact ⟨⟨(Kp_rf (a := 0) (b := 49)), (Kp_rf (a := 0) (b := 49)), hC, Fw_rf, by (repeat (first | rw [if_pos (by omega)] | rw [if_neg (by omega)])) <;> rfl⟩, hF⟩
  · simp only [w32_mod] at h_2
    refine ww_aload_n hX (pc := 5) dX10_drawn_5 rfl ?_
    refine ww_getI hX (pc := 6) fX10_85 (by decide) (xs_0 hL) dX10_drawn_6 ?_
    refine rI hX (pc := 9) hT (Nat.le_refl 0) (Nat.le_refl 0) dX10_drawn_9 ?_
    exact ⟨⟨(Kp_rf (a := 0) (b := 49)), (Kp_rf (a := 0) (b := 49)), hC, Fw_rf, by (repeat (first | rw [if_pos (by omega)] | rw [if_neg (by omega)])) <;> rfl⟩, hF⟩
set_option maxHeartbeats 4000000 in
set_option maxRecDepth 20000 in
theorem c9_X10_count (l0 : Launch) {Ia Ja : aI1} {Ra : aR1} {Sa : aS1} (hL : LY Ra Sa) (hC : CX Ia) (hF : FRk Ia Ja) {a : Int} (ha0 : -2147483648 ≤ a) (ha1 : a < 2147483648)  : CT l0 10 0 0 mX10_count [kR (some 0), kI a] Ia Ja Ra Sa (cI (fun x I' J' => (Kp 0 49 Ia I' ∧ Kp 0 49 Ja J' ∧ CX I' ∧ Fw [] [] Ia I' ∧ x = CNc Ia (cnR (Ia 3) (FU (Ia 1 5) + 1).toNat) a) ∧ FRk I' J') Ra Sa) := by
  refine ct_in pn_X10 (Nat.le_of_ble_eq_true rfl) (fun X hX hT hIn => ?_)
  have hX : aK l0 X cX10_count 2 RX10 (some .int) 10 0 0 := hX
  change WW X 0 [some (kR (some 0)), some (kI a)] [] Ia Ja Ra Sa 0 0
  have hI := hC.1
  have hq := XI_o hI
  refine ww_iload_n hX (pc := 0) dX10_count_0 rfl ?_
  refine ww_table hX (pc := 1) dX10_count_1 165 (by decide) (fun h_1 => ?_) (fun i_1 h_1 e_1 => ?_)
  · simp only [w32_mod] at h_1
    refine ww_iconst hX (pc := 165) (x := (-1)) dX10_count_165 rfl ?_
    refine rI hX (pc := 166) hT (Nat.le_refl 0) (Nat.le_refl 0) dX10_count_166 ?_
    exact ⟨⟨(Kp_rf (a := 0) (b := 49)), (Kp_rf (a := 0) (b := 49)), hC, Fw_rf, by
          unfold CNc
          (repeat (first | rw [if_pos (by omega)] | rw [if_neg (by omega)])) <;> rfl⟩, hF⟩
  · simp only [w32_mod] at e_1
    rcases (show i_1 = 0 ∨ i_1 = 1 ∨ i_1 = 2 ∨ i_1 = 3 ∨ i_1 = 4 ∨ i_1 = 5 ∨ i_1 = 6 ∨ i_1 = 7 ∨ i_1 = 8 ∨ i_1 = 9 ∨ i_1 = 10 ∨ i_1 = 11 ∨ i_1 = 12 by omega) with rfl | rfl | rfl | rfl | rfl | rfl | rfl | rfl | rfl | rfl | rfl | rfl | rfl
    · refine ⟨67, 68, rfl, by decide, ?_⟩
      refine ww_aload_n hX (pc := 68) dX10_count_68 rfl ?_
      refine ww_getR hX (pc := 69) fX10_10 (by decide) (xs_0 hL) (xr_0_0 hL) dX10_count_69 ?_
      refine ww_getI hX (pc := 72) fX10_93 (by decide) (xs_1 hL) dX10_count_72 ?_
      refine rI hX (pc := 75) hT (Nat.le_refl 0) (Nat.le_refl 0) dX10_count_75 ?_
      exact ⟨⟨(Kp_rf (a := 0) (b := 49)), (Kp_rf (a := 0) (b := 49)), hC, Fw_rf, by
            unfold CNc
            (repeat (first | rw [if_pos (by omega)] | rw [if_neg (by omega)])) <;> rfl⟩, hF⟩
    · refine ⟨75, 76, rfl, by decide, ?_⟩
      refine ww_aload_n hX (pc := 76) dX10_count_76 rfl ?_
      refine ww_getR hX (pc := 77) fX10_10 (by decide) (xs_0 hL) (xr_0_0 hL) dX10_count_77 ?_
      refine ww_getI hX (pc := 80) fX10_117 (by decide) (xs_1 hL) dX10_count_80 ?_
      refine rI hX (pc := 83) hT (Nat.le_refl 0) (Nat.le_refl 0) dX10_count_83 ?_
      exact ⟨⟨(Kp_rf (a := 0) (b := 49)), (Kp_rf (a := 0) (b := 49)), hC, Fw_rf, by
            unfold CNc
            (repeat (first | rw [if_pos (by omega)] | rw [if_neg (by omega)])) <;> rfl⟩, hF⟩
    · refine ⟨83, 84, rfl, by decide, ?_⟩
      refine ww_aload_n hX (pc := 84) dX10_count_84 rfl ?_
      refine ww_getR hX (pc := 85) fX10_10 (by decide) (xs_0 hL) (xr_0_0 hL) dX10_count_85 ?_
      refine ww_getI hX (pc := 88) fX10_170 (by decide) (xs_1 hL) dX10_count_88 ?_
      refine rI hX (pc := 91) hT (Nat.le_refl 0) (Nat.le_refl 0) dX10_count_91 ?_
      exact ⟨⟨(Kp_rf (a := 0) (b := 49)), (Kp_rf (a := 0) (b := 49)), hC, Fw_rf, by
            unfold CNc
            (repeat (first | rw [if_pos (by omega)] | rw [if_neg (by omega)])) <;> rfl⟩, hF⟩
    · refine ⟨91, 92, rfl, by decide, ?_⟩
      refine ww_aload_n hX (pc := 92) dX10_count_92 rfl ?_
      refine ww_getR hX (pc := 93) fX10_10 (by decide) (xs_0 hL) (xr_0_0 hL) dX10_count_93 ?_
      refine vI0 hX (pc := 96) sX10_167 (xs_1 hL) (c5_X1_readCount l0 hL hC.1) (by decide) (Nat.le_refl 0) (Nat.le_refl 0) (Nat.le_of_ble_eq_true rfl) dX10_count_96 (fun x_96 I_96 J_96 h_96 => ?_)
      obtain ⟨rfl, rfl, h_96⟩ := h_96
      refine rI hX (pc := 99) hT (Nat.le_refl 0) (Nat.le_refl 0) dX10_count_99 ?_
      exact ⟨⟨(Kp_rf (a := 0) (b := 49)), (Kp_rf (a := 0) (b := 49)), hC, Fw_rf, by
            rw [h_96]
            unfold CNc
            (repeat (first | rw [if_pos (by omega)] | rw [if_neg (by omega)])) <;> rfl⟩, hF⟩
    · refine ⟨99, 100, rfl, by decide, ?_⟩
      refine ww_aload_n hX (pc := 100) dX10_count_100 rfl ?_
      refine ww_getR hX (pc := 101) fX10_10 (by decide) (xs_0 hL) (xr_0_0 hL) dX10_count_101 ?_
      refine ww_getI hX (pc := 104) fX10_239 (by decide) (xs_1 hL) dX10_count_104 ?_
      refine rI hX (pc := 107) hT (Nat.le_refl 0) (Nat.le_refl 0) dX10_count_107 ?_
      exact ⟨⟨(Kp_rf (a := 0) (b := 49)), (Kp_rf (a := 0) (b := 49)), hC, Fw_rf, by
            unfold CNc
            (repeat (first | rw [if_pos (by omega)] | rw [if_neg (by omega)])) <;> rfl⟩, hF⟩
    · refine ⟨107, 108, rfl, by decide, ?_⟩
      refine ww_aload_n hX (pc := 108) dX10_count_108 rfl ?_
      refine ww_getR hX (pc := 109) fX10_10 (by decide) (xs_0 hL) (xr_0_0 hL) dX10_count_109 ?_
      refine ww_getI hX (pc := 112) fX10_275 (by decide) (xs_1 hL) dX10_count_112 ?_
      refine rI hX (pc := 115) hT (Nat.le_refl 0) (Nat.le_refl 0) dX10_count_115 ?_
      exact ⟨⟨(Kp_rf (a := 0) (b := 49)), (Kp_rf (a := 0) (b := 49)), hC, Fw_rf, by
            unfold CNc
            (repeat (first | rw [if_pos (by omega)] | rw [if_neg (by omega)])) <;> rfl⟩, hF⟩
    · refine ⟨115, 116, rfl, by decide, ?_⟩
      refine ww_aload_n hX (pc := 116) dX10_count_116 rfl ?_
      refine ww_getR hX (pc := 117) fX10_23 (by decide) (xs_0 hL) (xr_0_2 hL) dX10_count_117 ?_
      refine ww_getI hX (pc := 120) fX10_148 (by decide) (xs_8 hL) dX10_count_120 ?_
      refine rI hX (pc := 123) hT (Nat.le_refl 0) (Nat.le_refl 0) dX10_count_123 ?_
      exact ⟨⟨(Kp_rf (a := 0) (b := 49)), (Kp_rf (a := 0) (b := 49)), hC, Fw_rf, by
            unfold CNc
            (repeat (first | rw [if_pos (by omega)] | rw [if_neg (by omega)])) <;> rfl⟩, hF⟩
    · refine ⟨123, 124, rfl, by decide, ?_⟩
      refine ww_aload_n hX (pc := 124) dX10_count_124 rfl ?_
      refine ww_getR hX (pc := 125) fX10_82 (by decide) (xs_0 hL) (xr_0_11 hL) dX10_count_125 ?_
      refine ww_iconst hX (pc := 128) (x := 1) dX10_count_128 rfl ?_
      refine ww_iald hX (pc := 129) (xs_48 hL) (by decide) (by omega) (by omega) dX10_count_129 ?_
      refine rI hX (pc := 130) hT (Nat.le_refl 0) (Nat.le_refl 0) dX10_count_130 ?_
      exact ⟨⟨(Kp_rf (a := 0) (b := 49)), (Kp_rf (a := 0) (b := 49)), hC, Fw_rf, by
            unfold CNc
            (repeat (first | rw [if_pos (by omega)] | rw [if_neg (by omega)])) <;> rfl⟩, hF⟩
    · refine ⟨130, 131, rfl, by decide, ?_⟩
      refine ww_aload_n hX (pc := 131) dX10_count_131 rfl ?_
      refine ww_getR hX (pc := 132) fX10_82 (by decide) (xs_0 hL) (xr_0_11 hL) dX10_count_132 ?_
      refine ww_iconst hX (pc := 135) (x := 2) dX10_count_135 rfl ?_
      refine ww_iald hX (pc := 136) (xs_48 hL) (by decide) (by omega) (by omega) dX10_count_136 ?_
      refine rI hX (pc := 137) hT (Nat.le_refl 0) (Nat.le_refl 0) dX10_count_137 ?_
      exact ⟨⟨(Kp_rf (a := 0) (b := 49)), (Kp_rf (a := 0) (b := 49)), hC, Fw_rf, by
            unfold CNc
            (repeat (first | rw [if_pos (by omega)] | rw [if_neg (by omega)])) <;> rfl⟩, hF⟩
    · refine ⟨137, 138, rfl, by decide, ?_⟩
      refine ww_aload_n hX (pc := 138) dX10_count_138 rfl ?_
      refine ww_getR hX (pc := 139) fX10_82 (by decide) (xs_0 hL) (xr_0_11 hL) dX10_count_139 ?_
      refine ww_iconst hX (pc := 142) (x := 3) dX10_count_142 rfl ?_
      refine ww_iald hX (pc := 143) (xs_48 hL) (by decide) (by omega) (by omega) dX10_count_143 ?_
      refine rI hX (pc := 144) hT (Nat.le_refl 0) (Nat.le_refl 0) dX10_count_144 ?_
      exact ⟨⟨(Kp_rf (a := 0) (b := 49)), (Kp_rf (a := 0) (b := 49)), hC, Fw_rf, by
            unfold CNc
            (repeat (first | rw [if_pos (by omega)] | rw [if_neg (by omega)])) <;> rfl⟩, hF⟩
    · refine ⟨144, 145, rfl, by decide, ?_⟩
      refine ww_aload_n hX (pc := 145) dX10_count_145 rfl ?_
      refine ww_getR hX (pc := 146) fX10_82 (by decide) (xs_0 hL) (xr_0_11 hL) dX10_count_146 ?_
      refine ww_iconst hX (pc := 149) (x := 5) dX10_count_149 rfl ?_
      refine ww_iald hX (pc := 150) (xs_48 hL) (by decide) (by omega) (by omega) dX10_count_150 ?_
      refine rI hX (pc := 151) hT (Nat.le_refl 0) (Nat.le_refl 0) dX10_count_151 ?_
      exact ⟨⟨(Kp_rf (a := 0) (b := 49)), (Kp_rf (a := 0) (b := 49)), hC, Fw_rf, by
            unfold CNc
            (repeat (first | rw [if_pos (by omega)] | rw [if_neg (by omega)])) <;> rfl⟩, hF⟩
    · refine ⟨151, 152, rfl, by decide, ?_⟩
      refine ww_aload_n hX (pc := 152) dX10_count_152 rfl ?_
      refine ww_getR hX (pc := 153) fX10_82 (by decide) (xs_0 hL) (xr_0_11 hL) dX10_count_153 ?_
      refine ww_bipush hX (pc := 156) (x := 6) dX10_count_156 (by decide) ?_
      refine ww_iald hX (pc := 158) (xs_48 hL) (by decide) (by omega) (by omega) dX10_count_158 ?_
      refine rI hX (pc := 159) hT (Nat.le_refl 0) (Nat.le_refl 0) dX10_count_159 ?_
      exact ⟨⟨(Kp_rf (a := 0) (b := 49)), (Kp_rf (a := 0) (b := 49)), hC, Fw_rf, by
            unfold CNc
            (repeat (first | rw [if_pos (by omega)] | rw [if_neg (by omega)])) <;> rfl⟩, hF⟩
    · refine ⟨159, 160, rfl, by decide, ?_⟩
      refine ww_aload_n hX (pc := 160) dX10_count_160 rfl ?_
      refine ww_getI hX (pc := 161) fX10_256 (by decide) (xs_0 hL) dX10_count_161 ?_
      refine rI hX (pc := 164) hT (Nat.le_refl 0) (Nat.le_refl 0) dX10_count_164 ?_
      exact ⟨⟨(Kp_rf (a := 0) (b := 49)), (Kp_rf (a := 0) (b := 49)), hC, Fw_rf, by
            unfold CNc
            (repeat (first | rw [if_pos (by omega)] | rw [if_neg (by omega)])) <;> rfl⟩, hF⟩
