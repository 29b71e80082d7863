def Kq (o b : Nat) (I I' : aI1) : Prop := ∀ k, k ≠ o → k ≠ b → I' k = I k
theorem Kq_rf {o b : Nat} {I : aI1} : Kq o b I I := fun _ _ _ => rfl
theorem Kq_tr {o b : Nat} {I I1 I2 : aI1} (h : Kq o b I I1) (h2 : Kq o b I1 I2) : Kq o b I I2 := fun k h3 h4 => (h2 k h3 h4).trans (h k h3 h4)
theorem Kq_up {o b : Nat} {I I1 : aI1} (h : Kq o b I I1) {k : Nat} (j : Nat) (v : Int) (hk : k = o ∨ k = b) : Kq o b I (up2 I1 k j v) := fun q h1 h2 => by
  rw [up2_off _ _ _ (by omega)]
  exact h q h1 h2
theorem Kq_upR {o b : Nat} {I I1 : aI1} (h : Kq o b I I1) {k : Nat} (f : Nat → Int) (hk : k = o ∨ k = b) : Kq o b I (upR I1 k f) := fun q h1 h2 => by
  rw [upR_n _ _ (by omega)]
  exact h q h1 h2
theorem Kq_kp {o b x y : Nat} {I I1 : aI1} (h : Kq o b I I1) (h1 : x ≤ o ∧ o < y) (h2 : x ≤ b ∧ b < y) : Kp x y I I1 := fun q hq => h q (by omega) (by omega)
theorem i_min_r {a b : Int} (h1 : -2147483648 ≤ a) (h2 : a < 2147483648) (h3 : -2147483648 ≤ b) (h4 : b < 2147483648) : i_min a b = min a b := by
  unfold i_min
  rw [w32_id h1 h2, w32_id h3 h4]
  split <;> omega
theorem i_max_r {a b : Int} (h1 : -2147483648 ≤ a) (h2 : a < 2147483648) (h3 : -2147483648 ≤ b) (h4 : b < 2147483648) : i_max a b = max a b := by
  unfold i_max
  rw [w32_id h1 h2, w32_id h3 h4]
  split <;> omega
theorem l_cmp_ne {a b : Int} (h : ¬ (l_cmp a b + 2147483648) % 4294967296 - 2147483648 = 0) : ¬ w64 a = w64 b := fun e => h (by
  unfold l_cmp
  rw [if_neg (by omega), if_pos e]
  rfl)
theorem l_max_1 (x : Int) : ¬ w64 (l_max 1 x) = 0 := by
  unfold l_max
  have h1 : w64 1 = 1 := rfl
  split
  · rw [h1]; decide
  · omega
theorem i_or_256 {a b : Int} (h0 : 0 ≤ a) (h1 : a < 256) (h2 : 0 ≤ b) (h3 : b < 256) : 0 ≤ i_or a b ∧ i_or a b < 256 := by
  have := i_or_lt 8 (a := a) (b := b) (by decide) h0 (by simpa using h1) h2 (by simpa using h3)
  have h := i_or_ge (a := a) (b := b) h0 (by omega) h2 (by omega)
  exact ⟨by omega, by simpa using this⟩
theorem i_xor_256 {a b : Int} (h0 : 0 ≤ a) (h1 : a < 256) (h2 : 0 ≤ b) (h3 : b < 256) : 0 ≤ i_xor a b ∧ i_xor a b < 256 := by
  have := i_xor_lt 8 (a := a) (b := b) (by decide) h0 (by simpa using h1) h2 (by simpa using h3)
  exact ⟨this.1, by simpa using this.2⟩
theorem i_shl_128 {n : Int} (h0 : 0 ≤ n) (h1 : n ≤ 7) : 1 ≤ i_shl 1 n ∧ i_shl 1 n ≤ 128 := by
  rcases (show n = 0 ∨ n = 1 ∨ n = 2 ∨ n = 3 ∨ n = 4 ∨ n = 5 ∨ n = 6 ∨ n = 7 by omega) with rfl | rfl | rfl | rfl | rfl | rfl | rfl | rfl <;> decide +kernel
set_option maxHeartbeats 4000000 in
set_option maxRecDepth 20000 in
theorem c_X5_fillBest (l0 : Launch) {Ia Ja : aI1} {Ra : aR1} {Sa : aS1} {t o b c no nc : Nat} (hst : Sa[t]? = some (11, 0)) (hr0 : Ra t 0 = some o) (hr1 : Ra t 1 = some b) (hso : Sa[o]? = some (0, no)) (hsb : Sa[b]? = some (0, 8)) (hsc : Sa[c]? = some (0, nc)) (hno : no ≤ 65536) (hnc : nc ≤ 65536) (hco : c ≠ o) (hcb : c ≠ b) (hcr : ∀ j, j < nc → -2147483648 ≤ Ia c j ∧ Ia c j < 2147483648) {a g e : Int} (ha0 : -1 ≤ a) (ha : a < no) (ha2 : a < nc) (he : 0 ≤ e) (he2 : e ≤ 65536)  : CT l0 1 0 0 mX5_fillBest [kR (some t), kR (some c), kI a, kI g, kI e] Ia Ja Ra Sa (cV (fun I' J' => Ja = J' ∧ Kq o b Ia I') Ra Sa) := by
  refine ct_in pn_X5 (Nat.le_of_ble_eq_true rfl) (fun X hX hT hIn => ?_)
  have hX : aK l0 X cX5_fillBest 7 RX5 none 1 0 0 := hX
  change WW X 0 [some (kR (some t)), some (kR (some c)), some (kI a), some (kI g), some (kI e), none, none] [] Ia Ja Ra Sa 0 0
  refine ww_aload_n hX (pc := 0) dX5_fillBest_0 rfl ?_
  refine ww_getR hX (pc := 1) fX5_9 (by decide) hst hr1 dX5_fillBest_1 ?_
  refine ww_iconst hX (pc := 4) (x := (-1)) dX5_fillBest_4 rfl ?_
  refine sV2 hX (pc := 5) sX5_28 (c_J7_fill_53178 l0 hsb (by decide)) (by decide) (Nat.le_refl 0) (Nat.le_refl 0) (Nat.le_of_ble_eq_true rfl) dX5_fillBest_5 (fun I_5 J_5 h_5 => ?_)
  obtain ⟨rfl, eI_5⟩ := h_5
  have kI_5 : Kq o b Ia I_5 := by rw [eI_5]; exact Kq_upR Kq_rf _ (by simp)
  refine ww_iload hX (pc := 8) dX5_fillBest_8 rfl ?_
  refine ww_iconst hX (pc := 10) (x := 1) dX5_fillBest_10 rfl ?_
  refine ww_iadd hX (pc := 11) dX5_fillBest_11 ?_
  refine ww_iload hX (pc := 12) dX5_fillBest_12 rfl ?_
  refine ww_ior hX (pc := 14) dX5_fillBest_14 ?_
  refine ww_nmI (fun v_15 hv_15 => ?_)
  refine ww_istore hX (pc := 15) (lv' := [some (kR (some t)), some (kR (some c)), some (kI a), some (kI g), some (kI e), some (kI v_15), none]) dX5_fillBest_15 (by decide) rfl rfl ?_
  have hor0 := i_or_ge (a := e + 1) (b := e) (by omega) (by omega) (by omega) (by omega)
  have hl_17 : ∀ (n_17 : Nat) (to : Int) (I2 : aI1), (a + 1 - to).toNat = n_17 → (Kq o b Ia I2 ∧ 0 ≤ to ∧ to < 2147483648) → WW X 17 [some (kR (some t)), some (kR (some c)), some (kI a), some (kI g), some (kI e), some (kI to), none] [] I2 Ja Ra Sa 0 0 := by
    intro n_17
    induction n_17 using Nat.strongRecOn with
    | ind n_17 ih_17 =>
      intro to I2 hm_17 hv_17
      obtain ⟨kI2, hto0, hto1⟩ := hv_17
      refine ww_iload hX (pc := 17) dX5_fillBest_17 rfl ?_
      refine ww_iload_n hX (pc := 19) dX5_fillBest_19 rfl ?_
      refine ww_icmp_gt hX (pc := 20) (tgt := 87) dX5_fillBest_20 (by decide) (fun h_20 => ?_) (fun h_20 => ?_)
      · simp only [w32_mod] at h_20
        refine rV hX (pc := 87) hT (Nat.le_refl 0) (Nat.le_refl 0) dX5_fillBest_87 ?_
        exact ⟨rfl, kI2⟩
      · simp only [w32_mod] at h_20
        have hcr2 := hcr to.toNat (by omega)
        rw [← kI2 c hco hcb] at hcr2
        refine ww_aload_n hX (pc := 23) dX5_fillBest_23 rfl ?_
        refine ww_iload hX (pc := 24) dX5_fillBest_24 rfl ?_
        refine ww_iald hX (pc := 26) hsc (by omega) (by omega) (by omega) dX5_fillBest_26 ?_
        refine ww_nmI (fun v_27 hv_27 => ?_)
        refine ww_istore hX (pc := 27) (lv' := [some (kR (some t)), some (kR (some c)), some (kI a), some (kI g), some (kI e), some (kI to), some (kI v_27)]) dX5_fillBest_27 (by decide) rfl rfl ?_
        refine ww_iload hX (pc := 29) dX5_fillBest_29 rfl ?_
        refine ww_if_lt hX (pc := 31) (tgt := 75) dX5_fillBest_31 (by decide) (fun h_31 => ?_) (fun h_31 => ?_)
        · simp only [w32_mod] at h_31
          refine ww_iload hX (pc := 75) dX5_fillBest_75 rfl ?_
          refine ww_iconst hX (pc := 77) (x := 1) dX5_fillBest_77 rfl ?_
          refine ww_iadd hX (pc := 78) dX5_fillBest_78 ?_
          refine ww_iload hX (pc := 79) dX5_fillBest_79 rfl ?_
          refine ww_ior hX (pc := 81) dX5_fillBest_81 ?_
          refine ww_nmI (fun v_82 hv_82 => ?_)
          refine ww_istore hX (pc := 82) (lv' := [some (kR (some t)), some (kR (some c)), some (kI a), some (kI g), some (kI e), some (kI v_82), some (kI v_27)]) dX5_fillBest_82 (by decide) rfl rfl ?_
          refine ww_goto hX (pc := 84) (tgt := 17) dX5_fillBest_84 (by decide) ?_
          refine ww_sub [some (kR (some t)), some (kR (some c)), some (kI a), some (kI g), some (kI e), some (kI v_82), none] (aLe_s (aLe_s (aLe_s (aLe_s (aLe_s (aLe_s (aLe_n aLe_0))))))) ?_
          have hor := i_or_ge (a := to + 1) (b := e) (by omega) (by omega) (by omega) (by omega)
          exact ih_17 _ (by omega) v_82 I2 rfl ⟨kI2, by omega, by omega⟩
        · simp only [w32_mod] at h_31
          refine ww_iload hX (pc := 34) dX5_fillBest_34 rfl ?_
          refine ww_bipush hX (pc := 36) (x := 8) dX5_fillBest_36 (by decide) ?_
          refine ww_icmp_ge hX (pc := 38) (tgt := 75) dX5_fillBest_38 (by decide) (fun h_38 => ?_) (fun h_38 => ?_)
          · simp only [w32_mod] at h_38
            refine ww_iload hX (pc := 75) dX5_fillBest_75 rfl ?_
            refine ww_iconst hX (pc := 77) (x := 1) dX5_fillBest_77 rfl ?_
            refine ww_iadd hX (pc := 78) dX5_fillBest_78 ?_
            refine ww_iload hX (pc := 79) dX5_fillBest_79 rfl ?_
            refine ww_ior hX (pc := 81) dX5_fillBest_81 ?_
            refine ww_nmI (fun v_82 hv_82 => ?_)
            refine ww_istore hX (pc := 82) (lv' := [some (kR (some t)), some (kR (some c)), some (kI a), some (kI g), some (kI e), some (kI v_82), some (kI v_27)]) dX5_fillBest_82 (by decide) rfl rfl ?_
            refine ww_goto hX (pc := 84) (tgt := 17) dX5_fillBest_84 (by decide) ?_
            refine ww_sub [some (kR (some t)), some (kR (some c)), some (kI a), some (kI g), some (kI e), some (kI v_82), none] (aLe_s (aLe_s (aLe_s (aLe_s (aLe_s (aLe_s (aLe_n aLe_0))))))) ?_
            have hor := i_or_ge (a := to + 1) (b := e) (by omega) (by omega) (by omega) (by omega)
            exact ih_17 _ (by omega) v_82 I2 rfl ⟨kI2, by omega, by omega⟩
          · simp only [w32_mod] at h_38
            refine ww_iload hX (pc := 41) dX5_fillBest_41 rfl ?_
            refine ww_iload hX (pc := 43) dX5_fillBest_43 rfl ?_
            refine ww_ixor hX (pc := 45) dX5_fillBest_45 ?_
            refine ww_iload_n hX (pc := 46) dX5_fillBest_46 rfl ?_
            refine ww_iand hX (pc := 47) dX5_fillBest_47 ?_
            refine ww_if_ne hX (pc := 48) (tgt := 75) dX5_fillBest_48 (by decide) (fun h_48 => ?_) (fun h_48 => ?_)
            · simp only [w32_mod] at h_48
              refine ww_iload hX (pc := 75) dX5_fillBest_75 rfl ?_
              refine ww_iconst hX (pc := 77) (x := 1) dX5_fillBest_77 rfl ?_
              refine ww_iadd hX (pc := 78) dX5_fillBest_78 ?_
              refine ww_iload hX (pc := 79) dX5_fillBest_79 rfl ?_
              refine ww_ior hX (pc := 81) dX5_fillBest_81 ?_
              refine ww_nmI (fun v_82 hv_82 => ?_)
              refine ww_istore hX (pc := 82) (lv' := [some (kR (some t)), some (kR (some c)), some (kI a), some (kI g), some (kI e), some (kI v_82), some (kI v_27)]) dX5_fillBest_82 (by decide) rfl rfl ?_
              refine ww_goto hX (pc := 84) (tgt := 17) dX5_fillBest_84 (by decide) ?_
              refine ww_sub [some (kR (some t)), some (kR (some c)), some (kI a), some (kI g), some (kI e), some (kI v_82), none] (aLe_s (aLe_s (aLe_s (aLe_s (aLe_s (aLe_s (aLe_n aLe_0))))))) ?_
              have hor := i_or_ge (a := to + 1) (b := e) (by omega) (by omega) (by omega) (by omega)
              exact ih_17 _ (by omega) v_82 I2 rfl ⟨kI2, by omega, by omega⟩
            · simp only [w32_mod] at h_48
              refine ww_aload_n hX (pc := 51) dX5_fillBest_51 rfl ?_
              refine ww_getR hX (pc := 52) fX5_9 (by decide) hst hr1 dX5_fillBest_52 ?_
              refine ww_iload hX (pc := 55) dX5_fillBest_55 rfl ?_
              refine ww_aload_n hX (pc := 57) dX5_fillBest_57 rfl ?_
              refine ww_getR hX (pc := 58) fX5_9 (by decide) hst hr1 dX5_fillBest_58 ?_
              refine ww_iload hX (pc := 61) dX5_fillBest_61 rfl ?_
              refine ww_iald hX (pc := 63) hsb (by decide) (by omega) (by omega) dX5_fillBest_63 ?_
              refine ww_aload_n hX (pc := 64) dX5_fillBest_64 rfl ?_
              refine ww_getR hX (pc := 65) fX5_15 (by decide) hst hr0 dX5_fillBest_65 ?_
              refine ww_iload hX (pc := 68) dX5_fillBest_68 rfl ?_
              refine ww_iald hX (pc := 70) hso (by omega) (by omega) (by omega) dX5_fillBest_70 ?_
              refine ww_mmax hX (pc := 71) tb_750 tb_460 tb_13 tb_461 (by decide) (Nat.le_refl 0) (Nat.le_refl 0) (Nat.le_of_ble_eq_true rfl) dX5_fillBest_71 ?_
              refine ww_iast hX (pc := 74) hsb (by decide) (by omega) (by omega) dX5_fillBest_74 ?_
              refine ww_nmH (fun I_74 eI_74 => ?_)
              have kI_74 : Kq o b Ia I_74 := by rw [eI_74]; exact Kq_up kI2 _ _ (by simp)
              refine ww_iload hX (pc := 75) dX5_fillBest_75 rfl ?_
              refine ww_iconst hX (pc := 77) (x := 1) dX5_fillBest_77 rfl ?_
              refine ww_iadd hX (pc := 78) dX5_fillBest_78 ?_
              refine ww_iload hX (pc := 79) dX5_fillBest_79 rfl ?_
              refine ww_ior hX (pc := 81) dX5_fillBest_81 ?_
              refine ww_nmI (fun v_82 hv_82 => ?_)
              refine ww_istore hX (pc := 82) (lv' := [some (kR (some t)), some (kR (some c)), some (kI a), some (kI g), some (kI e), some (kI v_82), some (kI v_27)]) dX5_fillBest_82 (by decide) rfl rfl ?_
              refine ww_goto hX (pc := 84) (tgt := 17) dX5_fillBest_84 (by decide) ?_
              refine ww_sub [some (kR (some t)), some (kR (some c)), some (kI a), some (kI g), some (kI e), some (kI v_82), none] (aLe_s (aLe_s (aLe_s (aLe_s (aLe_s (aLe_s (aLe_n aLe_0))))))) ?_
              have hor := i_or_ge (a := to + 1) (b := e) (by omega) (by omega) (by omega) (by omega)
              exact ih_17 _ (by omega) v_82 I_74 rfl ⟨kI_74, by omega, by omega⟩
  exact hl_17 _ v_15 I_5 rfl ⟨kI_5, by omega, by omega⟩
set_option maxHeartbeats 4000000 in
set_option maxRecDepth 20000 in
theorem c_X5_fill (l0 : Launch) {Ia Ja : aI1} {Ra : aR1} {Sa : aS1} {t o b c no nc : Nat} (hst : Sa[t]? = some (11, 0)) (hr0 : Ra t 0 = some o) (hr1 : Ra t 1 = some b) (hso : Sa[o]? = some (0, no)) (hsb : Sa[b]? = some (0, 8)) (hsc : Sa[c]? = some (0, nc)) (hno : no ≤ 65536) (hnc : nc ≤ 65536) (hco : c ≠ o) (hcb : c ≠ b) (hcr : ∀ j, j < nc → -2147483648 ≤ Ia c j ∧ Ia c j < 2147483648) {a g q : Int} (ha0 : 0 ≤ a) (ha : a ≤ 65536) (hon : 1 ≤ no) (hcn : no ≤ nc)  : CT l0 2 0 0 mX5_fill [kR (some t), kR (some c), kI a, kI g, kI q] Ia Ja Ra Sa (cV (fun I' J' => Ja = J' ∧ Kq o b Ia I') Ra Sa) := by
  refine ct_in pn_X5 (Nat.le_of_ble_eq_true rfl) (fun X hX hT hIn => ?_)
  have hX : aK l0 X cX5_fill 9 RX5 none 2 0 0 := hX
  change WW X 0 [some (kR (some t)), some (kR (some c)), some (kI a), some (kI g), some (kI q), none, none, none, none] [] Ia Ja Ra Sa 0 0
  refine ww_iload_n hX (pc := 0) dX5_fill_0 rfl ?_
  refine ww_aload_n hX (pc := 1) dX5_fill_1 rfl ?_
  refine ww_getR hX (pc := 2) fX5_15 (by decide) hst hr0 dX5_fill_2 ?_
  refine ww_alen hX (pc := 5) (by decide) hso dX5_fill_5 ?_
  refine ww_iconst hX (pc := 6) (x := 1) dX5_fill_6 rfl ?_
  refine ww_isub hX (pc := 7) dX5_fill_7 ?_
  refine ww_mmin hX (pc := 8) tb_744 tb_579 tb_13 tb_580 (by decide) (Nat.le_refl 0) (Nat.le_refl 0) (Nat.le_of_ble_eq_true rfl) dX5_fill_8 ?_
  refine ww_nmI (fun v_11 hv_11 => ?_)
  refine ww_istore hX (pc := 11) (lv' := [some (kR (some t)), some (kR (some c)), some (kI a), some (kI g), some (kI q), some (kI v_11), none, none, none]) dX5_fill_11 (by decide) rfl rfl ?_
  rw [i_min_r (by omega) (by omega) (by omega) (by omega)] at hv_11
  refine ww_iload hX (pc := 13) dX5_fill_13 rfl ?_
  refine ww_istore hX (pc := 15) (lv' := [some (kR (some t)), some (kR (some c)), some (kI a), some (kI g), some (kI q), some (kI v_11), some (kI v_11), none, none]) dX5_fill_15 (by decide) rfl rfl ?_
  have hl_17 : ∀ (n_17 : Nat) (e : Int) (I2 : aI1), (e + 1).toNat = n_17 → (Kq o b Ia I2 ∧ -1 ≤ e ∧ e ≤ v_11) → WW X 17 [some (kR (some t)), some (kR (some c)), some (kI a), some (kI g), some (kI q), some (kI v_11), some (kI e), none, none] [] I2 Ja Ra Sa 0 0 := by
    intro n_17
    induction n_17 using Nat.strongRecOn with
    | ind n_17 ih_17 =>
      intro e I2 hm_17 hv_17
      obtain ⟨kI2, he0, he1⟩ := hv_17
      refine ww_iload hX (pc := 17) dX5_fill_17 rfl ?_
      refine ww_if_lt hX (pc := 19) (tgt := 99) dX5_fill_19 (by decide) (fun h_19 => ?_) (fun h_19 => ?_)
      · simp only [w32_mod] at h_19
        refine rV hX (pc := 99) hT (Nat.le_refl 0) (Nat.le_refl 0) dX5_fill_99 ?_
        exact ⟨rfl, kI2⟩
      · simp only [w32_mod] at h_19
        refine ww_aload_n hX (pc := 22) dX5_fill_22 rfl ?_
        refine ww_aload_n hX (pc := 23) dX5_fill_23 rfl ?_
        refine ww_iload hX (pc := 24) dX5_fill_24 rfl ?_
        refine ww_iload_n hX (pc := 26) dX5_fill_26 rfl ?_
        refine ww_iload hX (pc := 27) dX5_fill_27 rfl ?_
        refine vV4 hX (pc := 29) sX5_24 hst (c_X5_fillBest l0 (Ia := I2) hst hr0 hr1 hso hsb hsc hno hnc hco hcb (by rw [kI2 c hco hcb]; exact hcr) (by omega) (by omega) (by omega) (by omega) (by omega)) (by decide) (Nat.le_refl 0) (Nat.le_refl 0) (Nat.le_of_ble_eq_true rfl) dX5_fill_29 (fun I_29 J_29 h_29 => ?_)
        obtain ⟨rfl, h_29⟩ := h_29
        have kI_29 : Kq o b Ia I_29 := Kq_tr kI2 h_29
        refine ww_bipush hX (pc := 32) (x := 8) dX5_fill_32 (by decide) ?_
        refine ww_istore hX (pc := 34) (lv' := [some (kR (some t)), some (kR (some c)), some (kI a), some (kI g), some (kI q), some (kI v_11), some (kI e), some (kI 8), none]) dX5_fill_34 (by decide) rfl rfl ?_
        refine ww_iconst hX (pc := 36) (x := 0) dX5_fill_36 rfl ?_
        refine ww_istore hX (pc := 37) (lv' := [some (kR (some t)), some (kR (some c)), some (kI a), some (kI g), some (kI q), some (kI v_11), some (kI e), some (kI 8), some (kI 0)]) dX5_fill_37 (by decide) rfl rfl ?_
        have hl_39 : ∀ (n_39 : Nat) (lst : Int) (w : Int), (8 - w).toNat = n_39 → (0 ≤ w ∧ w ≤ 8) → WW X 39 [some (kR (some t)), some (kR (some c)), some (kI a), some (kI g), some (kI q), some (kI v_11), some (kI e), some (kI lst), some (kI w)] [] I_29 Ja Ra Sa 0 0 := by
          intro n_39
          induction n_39 using Nat.strongRecOn with
          | ind n_39 ih_39 =>
            intro lst w hm_39 hv_39
            obtain ⟨hw0, hw1⟩ := hv_39
            refine ww_iload hX (pc := 39) dX5_fill_39 rfl ?_
            refine ww_iload hX (pc := 41) dX5_fill_41 rfl ?_
            refine ww_icmp_ge hX (pc := 43) (tgt := 84) dX5_fill_43 (by decide) (fun h_43 => ?_) (fun h_43 => ?_)
            · simp only [w32_mod] at h_43
              refine ww_aload_n hX (pc := 84) dX5_fill_84 rfl ?_
              refine ww_getR hX (pc := 85) fX5_15 (by decide) hst hr0 dX5_fill_85 ?_
              refine ww_iload hX (pc := 88) dX5_fill_88 rfl ?_
              refine ww_iload hX (pc := 90) dX5_fill_90 rfl ?_
              refine ww_iast hX (pc := 92) hso (by omega) (by omega) (by omega) dX5_fill_92 ?_
              refine ww_nmH (fun I_92 eI_92 => ?_)
              have kI_92 : Kq o b Ia I_92 := by rw [eI_92]; exact Kq_up kI_29 _ _ (by simp)
              refine ww_iinc hX (pc := 93) (lv' := [some (kR (some t)), some (kR (some c)), some (kI a), some (kI g), some (kI q), some (kI v_11), some (kI (e + (-1))), some (kI lst), some (kI w)]) dX5_fill_93 rfl (by decide) rfl rfl ?_
              refine ww_goto hX (pc := 96) (tgt := 17) dX5_fill_96 (by decide) ?_
              refine ww_sub [some (kR (some t)), some (kR (some c)), some (kI a), some (kI g), some (kI q), some (kI v_11), some (kI (e + (-1))), none, none] (aLe_s (aLe_s (aLe_s (aLe_s (aLe_s (aLe_s (aLe_s (aLe_n (aLe_n aLe_0))))))))) ?_
              exact ih_17 _ (by omega) (e + (-1)) I_92 rfl ⟨kI_92, by omega, by omega⟩
            · simp only [w32_mod] at h_43
              refine ww_iload hX (pc := 46) dX5_fill_46 rfl ?_
              refine ww_bipush hX (pc := 48) (x := 8) dX5_fill_48 (by decide) ?_
              refine ww_icmp_ge hX (pc := 50) (tgt := 84) dX5_fill_50 (by decide) (fun h_50 => ?_) (fun h_50 => ?_)
              · simp only [w32_mod] at h_50
                refine ww_aload_n hX (pc := 84) dX5_fill_84 rfl ?_
                refine ww_getR hX (pc := 85) fX5_15 (by decide) hst hr0 dX5_fill_85 ?_
                refine ww_iload hX (pc := 88) dX5_fill_88 rfl ?_
                refine ww_iload hX (pc := 90) dX5_fill_90 rfl ?_
                refine ww_iast hX (pc := 92) hso (by omega) (by omega) (by omega) dX5_fill_92 ?_
                refine ww_nmH (fun I_92 eI_92 => ?_)
                have kI_92 : Kq o b Ia I_92 := by rw [eI_92]; exact Kq_up kI_29 _ _ (by simp)
                refine ww_iinc hX (pc := 93) (lv' := [some (kR (some t)), some (kR (some c)), some (kI a), some (kI g), some (kI q), some (kI v_11), some (kI (e + (-1))), some (kI lst), some (kI w)]) dX5_fill_93 rfl (by decide) rfl rfl ?_
                refine ww_goto hX (pc := 96) (tgt := 17) dX5_fill_96 (by decide) ?_
                refine ww_sub [some (kR (some t)), some (kR (some c)), some (kI a), some (kI g), some (kI q), some (kI v_11), some (kI (e + (-1))), none, none] (aLe_s (aLe_s (aLe_s (aLe_s (aLe_s (aLe_s (aLe_s (aLe_n (aLe_n aLe_0))))))))) ?_
                exact ih_17 _ (by omega) (e + (-1)) I_92 rfl ⟨kI_92, by omega, by omega⟩
              · simp only [w32_mod] at h_50
                refine ww_iload hX (pc := 53) dX5_fill_53 rfl ?_
                refine ww_aload_n hX (pc := 55) dX5_fill_55 rfl ?_
                refine ww_iload hX (pc := 56) dX5_fill_56 rfl ?_
                refine ww_iald hX (pc := 58) hsc (by omega) (by omega) (by omega) dX5_fill_58 ?_
                refine ww_icmp_eq hX (pc := 59) (tgt := 78) dX5_fill_59 (by decide) (fun h_59 => ?_) (fun h_59 => ?_)
                · simp only [w32_mod] at h_59
                  refine ww_iinc hX (pc := 78) (lv' := [some (kR (some t)), some (kR (some c)), some (kI a), some (kI g), some (kI q), some (kI v_11), some (kI e), some (kI lst), some (kI (w + 1))]) dX5_fill_78 rfl (by decide) rfl rfl ?_
                  refine ww_goto hX (pc := 81) (tgt := 39) dX5_fill_81 (by decide) ?_
                  exact ih_39 _ (by omega) lst (w + 1) rfl ⟨by omega, by omega⟩
                · simp only [w32_mod] at h_59
                  refine ww_iload hX (pc := 62) dX5_fill_62 rfl ?_
                  refine ww_aload_n hX (pc := 64) dX5_fill_64 rfl ?_
                  refine ww_getR hX (pc := 65) fX5_9 (by decide) hst hr1 dX5_fill_65 ?_
                  refine ww_iload hX (pc := 68) dX5_fill_68 rfl ?_
                  refine ww_iald hX (pc := 70) hsb (by decide) (by omega) (by omega) dX5_fill_70 ?_
                  refine ww_iconst hX (pc := 71) (x := 1) dX5_fill_71 rfl ?_
                  refine ww_iadd hX (pc := 72) dX5_fill_72 ?_
                  refine ww_mmin hX (pc := 73) tb_744 tb_579 tb_13 tb_580 (by decide) (Nat.le_refl 0) (Nat.le_refl 0) (Nat.le_of_ble_eq_true rfl) dX5_fill_73 ?_
                  refine ww_nmI (fun v_76 hv_76 => ?_)
                  refine ww_istore hX (pc := 76) (lv' := [some (kR (some t)), some (kR (some c)), some (kI a), some (kI g), some (kI q), some (kI v_11), some (kI e), some (kI v_76), some (kI w)]) dX5_fill_76 (by decide) rfl rfl ?_
                  refine ww_iinc hX (pc := 78) (lv' := [some (kR (some t)), some (kR (some c)), some (kI a), some (kI g), some (kI q), some (kI v_11), some (kI e), some (kI v_76), some (kI (w + 1))]) dX5_fill_78 rfl (by decide) rfl rfl ?_
                  refine ww_goto hX (pc := 81) (tgt := 39) dX5_fill_81 (by decide) ?_
                  exact ih_39 _ (by omega) v_76 (w + 1) rfl ⟨by omega, by omega⟩
        exact hl_39 _ 8 0 rfl ⟨by omega, by omega⟩
  exact hl_17 _ v_11 Ia rfl ⟨Kq_rf, by omega, by omega⟩
