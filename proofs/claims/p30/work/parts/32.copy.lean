/-- a Coast at o with its rows side by side -/
def CoSh (R : aR1) (S : aS1) (o : Nat) : Prop := S[o]? = some (7, 0) ∧ S[o + 1]? = some (0, 8) ∧ S[o + 2]? = some (0, 256) ∧ S[o + 3]? = some (4, 6) ∧ S[o + 4]? = some (0, 24) ∧ S[o + 5]? = some (0, 16) ∧ R o 0 = some (o + 1) ∧ R o 1 = some (o + 2) ∧ R o 2 = some (o + 3) ∧ R o 3 = some (o + 4) ∧ R o 4 = some (o + 5)
theorem CoSh_1 {R : aR1} {S : aS1} (h : LY R S) : CoSh R S 1 := ⟨xs_1 h, xs_2 h, xs_3 h, xs_4 h, xs_5 h, xs_6 h, xr_1_0 h, xr_1_1 h, xr_1_2 h, xr_1_3 h, xr_1_4 h⟩
/-- a Coast's rows are another's -/
def CoEq (I I' : aI1) (R R' : aR1) (o q : Nat) : Prop := (∀ j, j < 8 → I' (o + 1) j = I (q + 1) j) ∧ (∀ j, j < 256 → I' (o + 2) j = I (q + 2) j) ∧ (∀ j, j < 6 → R' (o + 3) j = R (q + 3) j) ∧ (∀ j, j < 24 → I' (o + 4) j = I (q + 4) j) ∧ (∀ j, j < 16 → I' (o + 5) j = I (q + 5) j) ∧ (∀ j, 5 ≤ j → j ≤ 11 → I' o j = I q j)
theorem cpy_at {f g : Nat → Int} {n j : Nat} (h : j < n) : va_cpy f g 0 0 n j = f j := by
  unfold va_cpy
  rw [if_pos ⟨Nat.zero_le _, by omega⟩]
  congr 1
  omega
set_option maxHeartbeats 4000000 in
set_option maxRecDepth 20000 in
theorem c_X1_copyFrom (l0 : Launch) {Ia Ja : aI1} {Ra : aR1} {Sa : aS1} {o q : Nat} (ho : CoSh Ra Sa o) (hq : CoSh Ra Sa q) (hoq : o + 5 < q ∨ q + 5 < o) (hlw : ∀ i, i < 6 → ∀ w, Ra (q + 3) i = some w → ∃ n, Sa[w]? = some (12, n))  : CT l0 1 0 0 mX1_copyFrom [kR (some o), kR (some q)] Ia Ja Ra Sa (dV (fun I' J' R' S' => Ja = J' ∧ (∀ k, k ≠ o → k ≠ o + 1 → k ≠ o + 2 → k ≠ o + 4 → k ≠ o + 5 → I' k = Ia k) ∧ (∀ k, k ≠ o + 3 → R' k = Ra k) ∧ (Sa = S' ∧ CoEq Ia I' Ra R' o q))) := by
  refine ct_in pn_X1 (Nat.le_of_ble_eq_true rfl) (fun X hX hT hIn => ?_)
  have hX : aK l0 X cX1_copyFrom 3 RX1 none 1 0 0 := hX
  change WW X 0 [some (kR (some o)), some (kR (some q)), none] [] Ia Ja Ra Sa 0 0
  refine ww_aload_n hX (pc := 0) dX1_copyFrom_0 rfl ?_
  refine ww_getR hX (pc := 1) fX1_9 (by decide) (hq.1) (hq.2.2.2.2.2.2.1) dX1_copyFrom_1 ?_
  refine ww_iconst hX (pc := 4) (x := 0) dX1_copyFrom_4 rfl ?_
  refine ww_aload_n hX (pc := 5) dX1_copyFrom_5 rfl ?_
  refine ww_getR hX (pc := 6) fX1_9 (by decide) (ho.1) (ho.2.2.2.2.2.2.1) dX1_copyFrom_6 ?_
  refine ww_iconst hX (pc := 9) (x := 0) dX1_copyFrom_9 rfl ?_
  refine ww_bipush hX (pc := 10) (x := 8) dX1_copyFrom_10 (by decide) ?_
  refine ww_copy hX (pc := 12) tb_1069 tb_663 tb_662 tb_19 (hq.2.1) (ho.2.1) (by decide) (by decide) (by omega) (by omega) (by omega) (by omega) (by omega) (by decide) (Nat.le_of_ble_eq_true rfl) dX1_copyFrom_12 ?_
  refine ww_nmH (fun I_12 eI_12 => ?_)
  refine ww_aload_n hX (pc := 15) dX1_copyFrom_15 rfl ?_
  refine ww_getR hX (pc := 16) fX1_15 (by decide) (hq.1) (hq.2.2.2.2.2.2.2.1) dX1_copyFrom_16 ?_
  refine ww_iconst hX (pc := 19) (x := 0) dX1_copyFrom_19 rfl ?_
  refine ww_aload_n hX (pc := 20) dX1_copyFrom_20 rfl ?_
  refine ww_getR hX (pc := 21) fX1_15 (by decide) (ho.1) (ho.2.2.2.2.2.2.2.1) dX1_copyFrom_21 ?_
  refine ww_iconst hX (pc := 24) (x := 0) dX1_copyFrom_24 rfl ?_
  refine ww_sipush hX (pc := 25) (x := 256) dX1_copyFrom_25 (by decide) ?_
  refine ww_copy hX (pc := 28) tb_1069 tb_663 tb_662 tb_19 (hq.2.2.1) (ho.2.2.1) (by decide) (by decide) (by omega) (by omega) (by omega) (by omega) (by omega) (by decide) (Nat.le_of_ble_eq_true rfl) dX1_copyFrom_28 ?_
  refine ww_nmH (fun I_28 eI_28 => ?_)
  refine ww_aload_n hX (pc := 31) dX1_copyFrom_31 rfl ?_
  refine ww_getR hX (pc := 32) fX1_24 (by decide) (hq.1) (hq.2.2.2.2.2.2.2.2.2.1) dX1_copyFrom_32 ?_
  refine ww_iconst hX (pc := 35) (x := 0) dX1_copyFrom_35 rfl ?_
  refine ww_aload_n hX (pc := 36) dX1_copyFrom_36 rfl ?_
  refine ww_getR hX (pc := 37) fX1_24 (by decide) (ho.1) (ho.2.2.2.2.2.2.2.2.2.1) dX1_copyFrom_37 ?_
  refine ww_iconst hX (pc := 40) (x := 0) dX1_copyFrom_40 rfl ?_
  refine ww_bipush hX (pc := 41) (x := 24) dX1_copyFrom_41 (by decide) ?_
  refine ww_copy hX (pc := 43) tb_1069 tb_663 tb_662 tb_19 (hq.2.2.2.2.1) (ho.2.2.2.2.1) (by decide) (by decide) (by omega) (by omega) (by omega) (by omega) (by omega) (by decide) (Nat.le_of_ble_eq_true rfl) dX1_copyFrom_43 ?_
  refine ww_nmH (fun I_43 eI_43 => ?_)
  refine ww_aload_n hX (pc := 46) dX1_copyFrom_46 rfl ?_
  refine ww_getR hX (pc := 47) fX1_27 (by decide) (hq.1) (hq.2.2.2.2.2.2.2.2.2.2) dX1_copyFrom_47 ?_
  refine ww_iconst hX (pc := 50) (x := 0) dX1_copyFrom_50 rfl ?_
  refine ww_aload_n hX (pc := 51) dX1_copyFrom_51 rfl ?_
  refine ww_getR hX (pc := 52) fX1_27 (by decide) (ho.1) (ho.2.2.2.2.2.2.2.2.2.2) dX1_copyFrom_52 ?_
  refine ww_iconst hX (pc := 55) (x := 0) dX1_copyFrom_55 rfl ?_
  refine ww_bipush hX (pc := 56) (x := 16) dX1_copyFrom_56 (by decide) ?_
  refine ww_copy hX (pc := 58) tb_1069 tb_663 tb_662 tb_19 (hq.2.2.2.2.2.1) (ho.2.2.2.2.2.1) (by decide) (by decide) (by omega) (by omega) (by omega) (by omega) (by omega) (by decide) (Nat.le_of_ble_eq_true rfl) dX1_copyFrom_58 ?_
  refine ww_nmH (fun I_58 eI_58 => ?_)
  refine ww_iconst hX (pc := 61) (x := 0) dX1_copyFrom_61 rfl ?_
  refine ww_istore_n hX (pc := 62) (lv' := [some (kR (some o)), some (kR (some q)), some (kI 0)]) dX1_copyFrom_62 (by decide) rfl rfl ?_
  have e58 : ∀ k, k ≠ o + 1 → k ≠ o + 2 → k ≠ o + 4 → k ≠ o + 5 → I_58 k = Ia k := fun k h1 h2 h3 h4 => by rw [eI_58, upR_n _ _ h4, eI_43, upR_n _ _ h3, eI_28, upR_n _ _ h2, eI_12, upR_n _ _ h1]
  have hl_63 : ∀ (n_63 : Nat) (i : Int) (R2 : aR1), (6 - i).toNat = n_63 → ((0 ≤ i ∧ i ≤ 6) ∧ (∀ k, k ≠ o + 3 → R2 k = Ra k) ∧ ∀ j : Nat, (j : Int) < i → R2 (o + 3) j = Ra (q + 3) j) → WW X 63 [some (kR (some o)), some (kR (some q)), some (kI i)] [] I_58 Ja R2 Sa 0 0 := by
    intro n_63
    induction n_63 using Nat.strongRecOn with
    | ind n_63 ih_63 =>
      intro i R2 hm_63 hv_63
      have hq_63 := Sh0_i hm_63
      clear hm_63
      obtain ⟨hi, hR2, hj2⟩ := hv_63
      refine ww_iload_n hX (pc := 63) dX1_copyFrom_63 rfl ?_
      refine ww_bipush hX (pc := 64) (x := 6) dX1_copyFrom_64 (by decide) ?_
      refine ww_icmp_ge hX (pc := 66) (tgt := 87) dX1_copyFrom_66 (by decide) (fun h_66 => ?_) (fun h_66 => ?_)
      · simp only [w32_mod] at h_66
        refine ww_aload_n hX (pc := 87) dX1_copyFrom_87 rfl ?_
        refine ww_aload_n hX (pc := 88) dX1_copyFrom_88 rfl ?_
        refine ww_getI hX (pc := 89) fX1_30 (by decide) (hq.1) dX1_copyFrom_89 ?_
        refine ww_putI hX (pc := 92) (fun h9 => absurd h9 (by decide)) gX1_30 rfl (ho.1) dX1_copyFrom_92 ?_
        refine ww_nmH (fun I_92 eI_92 => ?_)
        have qI_92 : I_92 q = I_58 q := by rw [eI_92, up2_off _ _ _ (by omega)]
        have wI_92_5 : I_92 o 5 = I_58 q 5 := by rw [eI_92, up2_s]
        have rI_92 : ∀ k, k ≠ o → I_92 k = I_58 k := fun k hk => by rw [eI_92, up2_off _ _ _ hk]
        refine ww_aload_n hX (pc := 95) dX1_copyFrom_95 rfl ?_
        refine ww_aload_n hX (pc := 96) dX1_copyFrom_96 rfl ?_
        refine ww_getI hX (pc := 97) fX1_34 (by decide) (hq.1) dX1_copyFrom_97 ?_
        refine ww_putI hX (pc := 100) (fun h9 => absurd h9 (by decide)) gX1_34 rfl (ho.1) dX1_copyFrom_100 ?_
        refine ww_nmH (fun I_100 eI_100 => ?_)
        have qI_100 : I_100 q = I_58 q := by rw [eI_100, up2_off _ _ _ (by omega), qI_92]
        have wI_100_6 : I_100 o 6 = I_58 q 6 := by rw [eI_100, up2_s, qI_92]
        have wI_100_5 : I_100 o 5 = I_58 q 5 := by rw [eI_100, up2_n _ _ (Or.inr (by decide)), wI_92_5]
        have rI_100 : ∀ k, k ≠ o → I_100 k = I_58 k := fun k hk => by rw [eI_100, up2_off _ _ _ hk, rI_92 k hk]
        refine ww_aload_n hX (pc := 103) dX1_copyFrom_103 rfl ?_
        refine ww_aload_n hX (pc := 104) dX1_copyFrom_104 rfl ?_
        refine ww_getI hX (pc := 105) fX1_47 (by decide) (hq.1) dX1_copyFrom_105 ?_
        refine ww_putI hX (pc := 108) (fun h9 => absurd h9 (by decide)) gX1_47 rfl (ho.1) dX1_copyFrom_108 ?_
        refine ww_nmH (fun I_108 eI_108 => ?_)
        have qI_108 : I_108 q = I_58 q := by rw [eI_108, up2_off _ _ _ (by omega), qI_100]
        have wI_108_7 : I_108 o 7 = I_58 q 7 := by rw [eI_108, up2_s, qI_100]
        have wI_108_5 : I_108 o 5 = I_58 q 5 := by rw [eI_108, up2_n _ _ (Or.inr (by decide)), wI_100_5]
        have wI_108_6 : I_108 o 6 = I_58 q 6 := by rw [eI_108, up2_n _ _ (Or.inr (by decide)), wI_100_6]
        have rI_108 : ∀ k, k ≠ o → I_108 k = I_58 k := fun k hk => by rw [eI_108, up2_off _ _ _ hk, rI_100 k hk]
        refine ww_aload_n hX (pc := 111) dX1_copyFrom_111 rfl ?_
        refine ww_aload_n hX (pc := 112) dX1_copyFrom_112 rfl ?_
        refine ww_getI hX (pc := 113) fX1_58 (by decide) (hq.1) dX1_copyFrom_113 ?_
        refine ww_putI hX (pc := 116) (fun h9 => absurd h9 (by decide)) gX1_58 rfl (ho.1) dX1_copyFrom_116 ?_
        refine ww_nmH (fun I_116 eI_116 => ?_)
        have qI_116 : I_116 q = I_58 q := by rw [eI_116, up2_off _ _ _ (by omega), qI_108]
        have wI_116_8 : I_116 o 8 = I_58 q 8 := by rw [eI_116, up2_s, qI_108]
        have wI_116_5 : I_116 o 5 = I_58 q 5 := by rw [eI_116, up2_n _ _ (Or.inr (by decide)), wI_108_5]
        have wI_116_6 : I_116 o 6 = I_58 q 6 := by rw [eI_116, up2_n _ _ (Or.inr (by decide)), wI_108_6]
        have wI_116_7 : I_116 o 7 = I_58 q 7 := by rw [eI_116, up2_n _ _ (Or.inr (by decide)), wI_108_7]
        have rI_116 : ∀ k, k ≠ o → I_116 k = I_58 k := fun k hk => by rw [eI_116, up2_off _ _ _ hk, rI_108 k hk]
        refine ww_aload_n hX (pc := 119) dX1_copyFrom_119 rfl ?_
        refine ww_aload_n hX (pc := 120) dX1_copyFrom_120 rfl ?_
        refine ww_getI hX (pc := 121) fX1_73 (by decide) (hq.1) dX1_copyFrom_121 ?_
        refine ww_putI hX (pc := 124) (fun h9 => absurd h9 (by decide)) gX1_73 rfl (ho.1) dX1_copyFrom_124 ?_
        refine ww_nmH (fun I_124 eI_124 => ?_)
        have qI_124 : I_124 q = I_58 q := by rw [eI_124, up2_off _ _ _ (by omega), qI_116]
        have wI_124_9 : I_124 o 9 = I_58 q 9 := by rw [eI_124, up2_s, qI_116]
        have wI_124_5 : I_124 o 5 = I_58 q 5 := by rw [eI_124, up2_n _ _ (Or.inr (by decide)), wI_116_5]
        have wI_124_6 : I_124 o 6 = I_58 q 6 := by rw [eI_124, up2_n _ _ (Or.inr (by decide)), wI_116_6]
        have wI_124_7 : I_124 o 7 = I_58 q 7 := by rw [eI_124, up2_n _ _ (Or.inr (by decide)), wI_116_7]
        have wI_124_8 : I_124 o 8 = I_58 q 8 := by rw [eI_124, up2_n _ _ (Or.inr (by decide)), wI_116_8]
        have rI_124 : ∀ k, k ≠ o → I_124 k = I_58 k := fun k hk => by rw [eI_124, up2_off _ _ _ hk, rI_116 k hk]
        refine ww_aload_n hX (pc := 127) dX1_copyFrom_127 rfl ?_
        refine ww_aload_n hX (pc := 128) dX1_copyFrom_128 rfl ?_
        refine ww_getI hX (pc := 129) fX1_61 (by decide) (hq.1) dX1_copyFrom_129 ?_
        refine ww_putI hX (pc := 132) (fun h9 => absurd h9 (by decide)) gX1_61 rfl (ho.1) dX1_copyFrom_132 ?_
        refine ww_nmH (fun I_132 eI_132 => ?_)
        have qI_132 : I_132 q = I_58 q := by rw [eI_132, up2_off _ _ _ (by omega), qI_124]
        have wI_132_10 : I_132 o 10 = I_58 q 10 := by rw [eI_132, up2_s, qI_124]
        have wI_132_5 : I_132 o 5 = I_58 q 5 := by rw [eI_132, up2_n _ _ (Or.inr (by decide)), wI_124_5]
        have wI_132_6 : I_132 o 6 = I_58 q 6 := by rw [eI_132, up2_n _ _ (Or.inr (by decide)), wI_124_6]
        have wI_132_7 : I_132 o 7 = I_58 q 7 := by rw [eI_132, up2_n _ _ (Or.inr (by decide)), wI_124_7]
        have wI_132_8 : I_132 o 8 = I_58 q 8 := by rw [eI_132, up2_n _ _ (Or.inr (by decide)), wI_124_8]
        have wI_132_9 : I_132 o 9 = I_58 q 9 := by rw [eI_132, up2_n _ _ (Or.inr (by decide)), wI_124_9]
        have rI_132 : ∀ k, k ≠ o → I_132 k = I_58 k := fun k hk => by rw [eI_132, up2_off _ _ _ hk, rI_124 k hk]
        refine ww_aload_n hX (pc := 135) dX1_copyFrom_135 rfl ?_
        refine ww_aload_n hX (pc := 136) dX1_copyFrom_136 rfl ?_
        refine ww_getI hX (pc := 137) fX1_64 (by decide) (hq.1) dX1_copyFrom_137 ?_
        refine ww_putI hX (pc := 140) (fun h9 => absurd h9 (by decide)) gX1_64 rfl (ho.1) dX1_copyFrom_140 ?_
        refine ww_nmH (fun I_140 eI_140 => ?_)
        have qI_140 : I_140 q = I_58 q := by rw [eI_140, up2_off _ _ _ (by omega), qI_132]
        have wI_140_11 : I_140 o 11 = I_58 q 11 := by rw [eI_140, up2_s, qI_132]
        have wI_140_5 : I_140 o 5 = I_58 q 5 := by rw [eI_140, up2_n _ _ (Or.inr (by decide)), wI_132_5]
        have wI_140_6 : I_140 o 6 = I_58 q 6 := by rw [eI_140, up2_n _ _ (Or.inr (by decide)), wI_132_6]
        have wI_140_7 : I_140 o 7 = I_58 q 7 := by rw [eI_140, up2_n _ _ (Or.inr (by decide)), wI_132_7]
        have wI_140_8 : I_140 o 8 = I_58 q 8 := by rw [eI_140, up2_n _ _ (Or.inr (by decide)), wI_132_8]
        have wI_140_9 : I_140 o 9 = I_58 q 9 := by rw [eI_140, up2_n _ _ (Or.inr (by decide)), wI_132_9]
        have wI_140_10 : I_140 o 10 = I_58 q 10 := by rw [eI_140, up2_n _ _ (Or.inr (by decide)), wI_132_10]
        have rI_140 : ∀ k, k ≠ o → I_140 k = I_58 k := fun k hk => by rw [eI_140, up2_off _ _ _ hk, rI_132 k hk]
        refine ww_vret hX (pc := 143) hT (Nat.zero_le _) (Nat.zero_le _) dX1_copyFrom_143 ?_
        show _ ∧ _
        refine ⟨rfl, rfl, fun k h1 h2 h3 h4 h5 => (rI_140 k h1).trans (e58 k h2 h3 h4 h5), hR2, rfl, ?_⟩
        refine ⟨fun j hj => ?_, fun j hj => ?_, fun j hj => hj2 j (by omega), fun j hj => ?_, fun j hj => ?_, fun j h1 h2 => ?_⟩
        · rw [rI_140 _ (by omega), eI_58, upR_n _ _ (by omega), eI_43, upR_n _ _ (by omega), eI_28, upR_n _ _ (by omega), eI_12, upR_s]
          exact cpy_at hj
        · rw [rI_140 _ (by omega), eI_58, upR_n _ _ (by omega), eI_43, upR_n _ _ (by omega), eI_28, upR_s, eI_12, upR_n _ _ (show q + 2 ≠ o + 1 by omega)]
          exact cpy_at hj
        · rw [rI_140 _ (by omega), eI_58, upR_n _ _ (by omega), eI_43, upR_s, eI_28, upR_n _ _ (show q + 4 ≠ o + 2 by omega), eI_12, upR_n _ _ (show q + 4 ≠ o + 1 by omega)]
          exact cpy_at hj
        · rw [rI_140 _ (by omega), eI_58, upR_s, eI_43, upR_n _ _ (show q + 5 ≠ o + 4 by omega), eI_28, upR_n _ _ (show q + 5 ≠ o + 2 by omega), eI_12, upR_n _ _ (show q + 5 ≠ o + 1 by omega)]
          exact cpy_at hj
        · rw [← e58 q (by omega) (by omega) (by omega) (by omega)]
          rcases (show j = 5 ∨ j = 6 ∨ j = 7 ∨ j = 8 ∨ j = 9 ∨ j = 10 ∨ j = 11 by omega) with rfl | rfl | rfl | rfl | rfl | rfl | rfl
          · exact wI_140_5
          · exact wI_140_6
          · exact wI_140_7
          · exact wI_140_8
          · exact wI_140_9
          · exact wI_140_10
          · exact wI_140_11
      · simp only [w32_mod] at h_66
        refine ww_aload_n hX (pc := 69) dX1_copyFrom_69 rfl ?_
        refine ww_getR hX (pc := 70) fX1_20 (by decide) (ho.1) (by rw [hR2 o (by omega)]; exact ho.2.2.2.2.2.2.2.2.1) dX1_copyFrom_70 ?_
        refine ww_iload_n hX (pc := 73) dX1_copyFrom_73 rfl ?_
        refine ww_aload_n hX (pc := 74) dX1_copyFrom_74 rfl ?_
        refine ww_getR hX (pc := 75) fX1_20 (by decide) (hq.1) (by rw [hR2 q (by omega)]; exact hq.2.2.2.2.2.2.2.2.1) dX1_copyFrom_75 ?_
        refine ww_iload_n hX (pc := 78) dX1_copyFrom_78 rfl ?_
        refine ww_aald hX (pc := 79) (Or.inl rfl) hq.2.2.2.1 (by decide) (by omega) (by omega) dX1_copyFrom_79 ?_
        have e79 : R2 (q + 3) i.toNat = Ra (q + 3) i.toNat := by rw [hR2 (q + 3) (by omega)]
        rw [e79]
        have hne : ∀ v, WW X 81 [some (kR (some o)), some (kR (some q)), some (kI i)] [] I_58 Ja (up2 R2 (o + 3) i.toNat v) Sa 0 0 ∨ v ≠ Ra (q + 3) i.toNat := fun v => by
          by_cases hv : v = Ra (q + 3) i.toNat
          · refine Or.inl ?_
            refine ww_iinc hX (pc := 81) (lv' := [some (kR (some o)), some (kR (some q)), some (kI (i + 1))]) dX1_copyFrom_81 rfl (by decide) rfl rfl ?_
            refine ww_goto hX (pc := 84) (tgt := 63) dX1_copyFrom_84 (by decide) ?_
            refine ih_63 _ (by have hm9 := Sh0_e hq_63; omega) (i + 1) _ rfl ⟨by omega, fun k hk => by rw [up2_off _ _ _ hk]; exact hR2 k hk, fun j hj => ?_⟩
            by_cases hji : j = i.toNat
            · rw [hji, up2_s]; exact hv
            · rw [up2_n _ _ (Or.inr hji)]; exact hj2 j (by omega)
          · exact Or.inr hv
        cases hc : Ra (q + 3) i.toNat with
        | none => exact ww_aast4N hX (pc := 80) ho.2.2.2.1 (by decide) (by omega) (by omega) dX1_copyFrom_80 ((hne none).resolve_right (fun h => h hc.symm))
        | some v =>
          obtain ⟨n9, hv9⟩ := hlw i.toNat (by omega) v hc
          exact ww_aast4 hX (pc := 80) ho.2.2.2.1 (by decide) (by omega) (by omega) hv9 dX1_copyFrom_80 ((hne (some v)).resolve_right (fun h => h hc.symm))
  exact hl_63 _ 0 Ra rfl ⟨by omega, fun _ _ => rfl, fun j hj => by omega⟩
