theorem bc_r {a : Int} (h0 : 0 ≤ a) (h1 : a < 256) : 0 ≤ bc a ∧ bc a ≤ 8 := by
  have h : ∀ n : Fin 256, 0 ≤ bc ((n.val : Nat) : Int) ∧ bc ((n.val : Nat) : Int) ≤ 8 := by decide +kernel
  have := h ⟨a.toNat, by omega⟩
  rwa [show ((a.toNat : Nat) : Int) = a by omega] at this
set_option maxHeartbeats 4000000 in
set_option maxRecDepth 20000 in
theorem c_J6_bitCount_0f7a4 (l0 : Launch) {Ia Ja : aI1} {Ra : aR1} {Sa : aS1} {a : Int}  : CT l0 0 0 0 mJ6_bitCount_0f7a4 [kI a] Ia Ja Ra Sa (cI (fun x I' J' => Ia = I' ∧ Ja = J' ∧ x = bc a) Ra Sa) := by
  refine ct_in pn_J6 (Nat.le_of_ble_eq_true rfl) (fun X hX hT hIn => ?_)
  have hX : aK l0 X cJ6_bitCount_0f7a4 1 RJ6 (some .int) 0 0 0 := hX
  change WW X 0 [some (kI a)] [] Ia Ja Ra Sa 0 0
  refine ww_iload_n hX (pc := 0) dJ6_bitCount_0f7a4_0 rfl ?_
  refine ww_iload_n hX (pc := 1) dJ6_bitCount_0f7a4_1 rfl ?_
  refine ww_iconst hX (pc := 2) (x := 1) dJ6_bitCount_0f7a4_2 rfl ?_
  refine ww_iushr hX (pc := 3) dJ6_bitCount_0f7a4_3 ?_
  refine ww_ldcw hX (pc := 4) (x := 1431655765) dJ6_bitCount_0f7a4_4 tb_701 ?_
  refine ww_iand hX (pc := 7) dJ6_bitCount_0f7a4_7 ?_
  refine ww_isub hX (pc := 8) dJ6_bitCount_0f7a4_8 ?_
  refine ww_nmI (fun v_9 hv_9 => ?_)
  refine ww_istore_n hX (pc := 9) (lv' := [some (kI v_9)]) dJ6_bitCount_0f7a4_9 (by decide) rfl rfl ?_
  refine ww_iload_n hX (pc := 10) dJ6_bitCount_0f7a4_10 rfl ?_
  refine ww_ldcw hX (pc := 11) (x := 858993459) dJ6_bitCount_0f7a4_11 tb_702 ?_
  refine ww_iand hX (pc := 14) dJ6_bitCount_0f7a4_14 ?_
  refine ww_iload_n hX (pc := 15) dJ6_bitCount_0f7a4_15 rfl ?_
  refine ww_iconst hX (pc := 16) (x := 2) dJ6_bitCount_0f7a4_16 rfl ?_
  refine ww_iushr hX (pc := 17) dJ6_bitCount_0f7a4_17 ?_
  refine ww_ldcw hX (pc := 18) (x := 858993459) dJ6_bitCount_0f7a4_18 tb_702 ?_
  refine ww_iand hX (pc := 21) dJ6_bitCount_0f7a4_21 ?_
  refine ww_iadd hX (pc := 22) dJ6_bitCount_0f7a4_22 ?_
  refine ww_nmI (fun v_23 hv_23 => ?_)
  refine ww_istore_n hX (pc := 23) (lv' := [some (kI v_23)]) dJ6_bitCount_0f7a4_23 (by decide) rfl rfl ?_
  refine ww_iload_n hX (pc := 24) dJ6_bitCount_0f7a4_24 rfl ?_
  refine ww_iload_n hX (pc := 25) dJ6_bitCount_0f7a4_25 rfl ?_
  refine ww_iconst hX (pc := 26) (x := 4) dJ6_bitCount_0f7a4_26 rfl ?_
  refine ww_iushr hX (pc := 27) dJ6_bitCount_0f7a4_27 ?_
  refine ww_iadd hX (pc := 28) dJ6_bitCount_0f7a4_28 ?_
  refine ww_ldcw hX (pc := 29) (x := 252645135) dJ6_bitCount_0f7a4_29 tb_703 ?_
  refine ww_iand hX (pc := 32) dJ6_bitCount_0f7a4_32 ?_
  refine ww_nmI (fun v_33 hv_33 => ?_)
  refine ww_istore_n hX (pc := 33) (lv' := [some (kI v_33)]) dJ6_bitCount_0f7a4_33 (by decide) rfl rfl ?_
  refine ww_iload_n hX (pc := 34) dJ6_bitCount_0f7a4_34 rfl ?_
  refine ww_iload_n hX (pc := 35) dJ6_bitCount_0f7a4_35 rfl ?_
  refine ww_bipush hX (pc := 36) (x := 8) dJ6_bitCount_0f7a4_36 (by decide) ?_
  refine ww_iushr hX (pc := 38) dJ6_bitCount_0f7a4_38 ?_
  refine ww_iadd hX (pc := 39) dJ6_bitCount_0f7a4_39 ?_
  refine ww_nmI (fun v_40 hv_40 => ?_)
  refine ww_istore_n hX (pc := 40) (lv' := [some (kI v_40)]) dJ6_bitCount_0f7a4_40 (by decide) rfl rfl ?_
  refine ww_iload_n hX (pc := 41) dJ6_bitCount_0f7a4_41 rfl ?_
  refine ww_iload_n hX (pc := 42) dJ6_bitCount_0f7a4_42 rfl ?_
  refine ww_bipush hX (pc := 43) (x := 16) dJ6_bitCount_0f7a4_43 (by decide) ?_
  refine ww_iushr hX (pc := 45) dJ6_bitCount_0f7a4_45 ?_
  refine ww_iadd hX (pc := 46) dJ6_bitCount_0f7a4_46 ?_
  refine ww_nmI (fun v_47 hv_47 => ?_)
  refine ww_istore_n hX (pc := 47) (lv' := [some (kI v_47)]) dJ6_bitCount_0f7a4_47 (by decide) rfl rfl ?_
  refine ww_iload_n hX (pc := 48) dJ6_bitCount_0f7a4_48 rfl ?_
  refine ww_bipush hX (pc := 49) (x := 63) dJ6_bitCount_0f7a4_49 (by decide) ?_
  refine ww_iand hX (pc := 51) dJ6_bitCount_0f7a4_51 ?_
  refine rI hX (pc := 52) hT (Nat.le_refl 0) (Nat.le_refl 0) dJ6_bitCount_0f7a4_52 ?_
  exact ⟨rfl, rfl, by subst_vars; rfl⟩
set_option maxHeartbeats 4000000 in
set_option maxRecDepth 20000 in
theorem c_J7_fill_53178 (l0 : Launch) {Ia Ja : aI1} {Ra : aR1} {Sa : aS1} {k n : Nat} {v : Int} (hs : Sa[k]? = some (0, n)) (hn : n < 2147483648)  : CT l0 0 0 0 mJ7_fill_53178 [kR (some k), kI v] Ia Ja Ra Sa (cV (fun I' J' => Ja = J' ∧ I' = upR Ia k (fun j => if j < n then v else Ia k j)) Ra Sa) := by
  refine ct_in pn_J7 (Nat.le_of_ble_eq_true rfl) (fun X hX hT hIn => ?_)
  have hX : aK l0 X cJ7_fill_53178 4 RJ7 none 0 0 0 := hX
  change WW X 0 [some (kR (some k)), some (kI v), none, none] [] Ia Ja Ra Sa 0 0
  refine ww_iconst hX (pc := 0) (x := 0) dJ7_fill_53178_0 rfl ?_
  refine ww_istore_n hX (pc := 1) (lv' := [some (kR (some k)), some (kI v), some (kI 0), none]) dJ7_fill_53178_1 (by decide) rfl rfl ?_
  refine ww_aload_n hX (pc := 2) dJ7_fill_53178_2 rfl ?_
  refine ww_alen hX (pc := 3) (by decide) hs dJ7_fill_53178_3 ?_
  refine ww_nmI (fun v_4 hv_4 => ?_)
  refine ww_istore_n hX (pc := 4) (lv' := [some (kR (some k)), some (kI v), some (kI 0), some (kI v_4)]) dJ7_fill_53178_4 (by decide) rfl rfl ?_
  have hl_5 : ∀ (n_5 : Nat) (i : Int) (I2 : aI1), ((n : Int) - i).toNat = n_5 → (0 ≤ i ∧ i ≤ n ∧ I2 = upR Ia k (fun j => if (j : Int) < i then v else Ia k j)) → WW X 5 [some (kR (some k)), some (kI v), some (kI i), some (kI v_4)] [] I2 Ja Ra Sa 0 0 := by
    intro n_5
    induction n_5 using Nat.strongRecOn with
    | ind n_5 ih_5 =>
      intro i I2 hm_5 hv_5
      have hq_5 := Sh0_i hm_5
      clear hm_5
      obtain ⟨hi0, hi1, hI2⟩ := hv_5
      refine ww_iload_n hX (pc := 5) dJ7_fill_53178_5 rfl ?_
      refine ww_iload_n hX (pc := 6) dJ7_fill_53178_6 rfl ?_
      refine ww_icmp_ge hX (pc := 7) (tgt := 20) dJ7_fill_53178_7 (by decide) (fun h_7 => ?_) (fun h_7 => ?_)
      · simp only [w32_mod] at h_7
        refine rV hX (pc := 20) hT (Nat.le_refl 0) (Nat.le_refl 0) dJ7_fill_53178_20 ?_
        exact ⟨rfl, by rw [hI2]; exact fill_end (by omega)⟩
      · simp only [w32_mod] at h_7
        refine ww_aload_n hX (pc := 10) dJ7_fill_53178_10 rfl ?_
        refine ww_iload_n hX (pc := 11) dJ7_fill_53178_11 rfl ?_
        refine ww_iload_n hX (pc := 12) dJ7_fill_53178_12 rfl ?_
        refine ww_iast hX (pc := 13) hs (by omega) (by omega) (by omega) dJ7_fill_53178_13 ?_
        refine ww_nmH (fun I_13 eI_13 => ?_)
        refine ww_iinc hX (pc := 14) (lv' := [some (kR (some k)), some (kI v), some (kI (i + 1)), some (kI v_4)]) dJ7_fill_53178_14 rfl (by decide) rfl rfl ?_
        refine ww_goto hX (pc := 17) (tgt := 5) dJ7_fill_53178_17 (by decide) ?_
        exact ih_5 _ (by have hm9 := Sh0_e hq_5; omega) (i + 1) I_13 rfl ⟨by omega, by omega, by rw [eI_13, hI2]; exact fill_step hi0⟩
  exact hl_5 _ 0 Ia rfl ⟨by omega, by omega, fill_0⟩
set_option maxHeartbeats 4000000 in
set_option maxRecDepth 20000 in
theorem c_J7_fill_d0a16 (l0 : Launch) {Ia Ja : aI1} {Ra : aR1} {Sa : aS1} {k n : Nat} {v : Int} (hs : Sa[k]? = some (1, n)) (hn : n < 2147483648)  : CT l0 0 0 0 mJ7_fill_d0a16 [kR (some k), kL v] Ia Ja Ra Sa (cV (fun I' J' => Ia = I' ∧ J' = upR Ja k (fun j => if j < n then v else Ja k j)) Ra Sa) := by
  refine ct_in pn_J7 (Nat.le_of_ble_eq_true rfl) (fun X hX hT hIn => ?_)
  have hX : aK l0 X cJ7_fill_d0a16 5 RJ7 none 0 0 0 := hX
  change WW X 0 [some (kR (some k)), some (kL v), none, none, none] [] Ia Ja Ra Sa 0 0
  refine ww_iconst hX (pc := 0) (x := 0) dJ7_fill_d0a16_0 rfl ?_
  refine ww_istore_n hX (pc := 1) (lv' := [some (kR (some k)), some (kL v), none, some (kI 0), none]) dJ7_fill_d0a16_1 (by decide) rfl rfl ?_
  refine ww_aload_n hX (pc := 2) dJ7_fill_d0a16_2 rfl ?_
  refine ww_alen hX (pc := 3) (by decide) hs dJ7_fill_d0a16_3 ?_
  refine ww_nmI (fun v_4 hv_4 => ?_)
  refine ww_istore hX (pc := 4) (lv' := [some (kR (some k)), some (kL v), none, some (kI 0), some (kI v_4)]) dJ7_fill_d0a16_4 (by decide) rfl rfl ?_
  have hl_6 : ∀ (n_6 : Nat) (i : Int) (J2 : aI1), ((n : Int) - i).toNat = n_6 → (0 ≤ i ∧ i ≤ n ∧ J2 = upR Ja k (fun j => if (j : Int) < i then v else Ja k j)) → WW X 6 [some (kR (some k)), some (kL v), none, some (kI i), some (kI v_4)] [] Ia J2 Ra Sa 0 0 := by
    intro n_6
    induction n_6 using Nat.strongRecOn with
    | ind n_6 ih_6 =>
      intro i J2 hm_6 hv_6
      have hq_6 := Sh0_i hm_6
      clear hm_6
      obtain ⟨hi0, hi1, hI2⟩ := hv_6
      refine ww_iload_n hX (pc := 6) dJ7_fill_d0a16_6 rfl ?_
      refine ww_iload hX (pc := 7) dJ7_fill_d0a16_7 rfl ?_
      refine ww_icmp_ge hX (pc := 9) (tgt := 22) dJ7_fill_d0a16_9 (by decide) (fun h_9 => ?_) (fun h_9 => ?_)
      · simp only [w32_mod] at h_9
        refine rV hX (pc := 22) hT (Nat.le_refl 0) (Nat.le_refl 0) dJ7_fill_d0a16_22 ?_
        exact ⟨rfl, by rw [hI2]; exact fill_end (by omega)⟩
      · simp only [w32_mod] at h_9
        refine ww_aload_n hX (pc := 12) dJ7_fill_d0a16_12 rfl ?_
        refine ww_iload_n hX (pc := 13) dJ7_fill_d0a16_13 rfl ?_
        refine ww_lload_n hX (pc := 14) dJ7_fill_d0a16_14 rfl ?_
        refine ww_last hX (pc := 15) hs (by omega) (by omega) (by omega) dJ7_fill_d0a16_15 ?_
        refine ww_nmK (fun J_15 eJ_15 => ?_)
        refine ww_iinc hX (pc := 16) (lv' := [some (kR (some k)), some (kL v), none, some (kI (i + 1)), some (kI v_4)]) dJ7_fill_d0a16_16 rfl (by decide) rfl rfl ?_
        refine ww_goto hX (pc := 19) (tgt := 6) dJ7_fill_d0a16_19 (by decide) ?_
        exact ih_6 _ (by have hm9 := Sh0_e hq_6; omega) (i + 1) J_15 rfl ⟨by omega, by omega, by rw [eJ_15, hI2]; exact fill_step hi0⟩
  exact hl_6 _ 0 Ja rfl ⟨by omega, by omega, fill_0⟩
set_option maxHeartbeats 4000000 in
set_option maxRecDepth 20000 in
theorem c_J7_rangeCheck_23922 (l0 : Launch) {Ia Ja : aI1} {Ra : aR1} {Sa : aS1} {a b c : Int} (h1 : 0 ≤ b) (h2 : b ≤ c) (h3 : c ≤ a) (h4 : a < 2147483648)  : CT l0 0 0 0 mJ7_rangeCheck_23922 [kI a, kI b, kI c] Ia Ja Ra Sa (cV (fun I' J' => Ia = I' ∧ Ja = J') Ra Sa) := by
  refine ct_in pn_J7 (Nat.le_of_ble_eq_true rfl) (fun X hX hT hIn => ?_)
  have hX : aK l0 X cJ7_rangeCheck_23922 3 RJ7 none 0 0 0 := hX
  change WW X 0 [some (kI a), some (kI b), some (kI c)] [] Ia Ja Ra Sa 0 0
  refine ww_iload_n hX (pc := 0) dJ7_rangeCheck_23922_0 rfl ?_
  refine ww_iload_n hX (pc := 1) dJ7_rangeCheck_23922_1 rfl ?_
  refine ww_icmp_le hX (pc := 2) (tgt := 46) dJ7_rangeCheck_23922_2 (by decide) (fun h_2 => ?_) (fun h_2 => ?_)
  · simp only [w32_mod] at h_2
    refine ww_iload_n hX (pc := 46) dJ7_rangeCheck_23922_46 rfl ?_
    refine ww_if_ge hX (pc := 47) (tgt := 59) dJ7_rangeCheck_23922_47 (by decide) (fun h_47 => ?_) (fun h_47 => ?_)
    · simp only [w32_mod] at h_47
      refine ww_iload_n hX (pc := 59) dJ7_rangeCheck_23922_59 rfl ?_
      refine ww_iload_n hX (pc := 60) dJ7_rangeCheck_23922_60 rfl ?_
      refine ww_icmp_le hX (pc := 61) (tgt := 73) dJ7_rangeCheck_23922_61 (by decide) (fun h_61 => ?_) (fun h_61 => ?_)
      · simp only [w32_mod] at h_61
        refine rV hX (pc := 73) hT (Nat.le_refl 0) (Nat.le_refl 0) dJ7_rangeCheck_23922_73 ?_
        exact ⟨rfl, rfl⟩
      · simp only [w32_mod] at h_61
        exfalso
        omega
    · simp only [w32_mod] at h_47
      exfalso
      omega
  · simp only [w32_mod] at h_2
    exfalso
    omega
set_option maxHeartbeats 4000000 in
set_option maxRecDepth 20000 in
theorem c_J7_fill_bad5a (l0 : Launch) {Ia Ja : aI1} {Ra : aR1} {Sa : aS1} {k n : Nat} {v a b : Int} (hs : Sa[k]? = some (1, n)) (hn : n < 2147483648) (h1 : 0 ≤ a) (h2 : a ≤ b) (h3 : b ≤ n)  : CT l0 1 0 0 mJ7_fill_bad5a [kR (some k), kI a, kI b, kL v] Ia Ja Ra Sa (cV (fun I' J' => Ia = I' ∧ J' = upR Ja k (fun j => if a ≤ (j : Int) ∧ (j : Int) < b then v else Ja k j)) Ra Sa) := by
  refine ct_in pn_J7 (Nat.le_of_ble_eq_true rfl) (fun X hX hT hIn => ?_)
  have hX : aK l0 X cJ7_fill_bad5a 6 RJ7 none 1 0 0 := hX
  change WW X 0 [some (kR (some k)), some (kI a), some (kI b), some (kL v), none, none] [] Ia Ja Ra Sa 0 0
  refine ww_aload_n hX (pc := 0) dJ7_fill_bad5a_0 rfl ?_
  refine ww_alen hX (pc := 1) (by decide) hs dJ7_fill_bad5a_1 ?_
  refine ww_iload_n hX (pc := 2) dJ7_fill_bad5a_2 rfl ?_
  refine ww_iload_n hX (pc := 3) dJ7_fill_bad5a_3 rfl ?_
  refine sV3 hX (pc := 4) sJ7_13 (c_J7_rangeCheck_23922 l0 (by omega) (by omega) (by omega) (by omega)) (by decide) (Nat.le_refl 0) (Nat.le_refl 0) (Nat.le_of_ble_eq_true rfl) dJ7_fill_bad5a_4 (fun I_4 J_4 h_4 => ?_)
  obtain ⟨rfl, rfl⟩ := h_4
  refine ww_iload_n hX (pc := 7) dJ7_fill_bad5a_7 rfl ?_
  refine ww_istore hX (pc := 8) (lv' := [some (kR (some k)), some (kI a), some (kI b), some (kL v), none, some (kI a)]) dJ7_fill_bad5a_8 (by decide) rfl rfl ?_
  have hl_10 : ∀ (n_10 : Nat) (i : Int) (J2 : aI1), (b - i).toNat = n_10 → (a ≤ i ∧ i ≤ b ∧ J2 = upR Ja k (fun j => if a ≤ (j : Int) ∧ (j : Int) < i then v else Ja k j)) → WW X 10 [some (kR (some k)), some (kI a), some (kI b), some (kL v), none, some (kI i)] [] Ia J2 Ra Sa 0 0 := by
    intro n_10
    induction n_10 using Nat.strongRecOn with
    | ind n_10 ih_10 =>
      intro i J2 hm_10 hv_10
      have hq_10 := Sh0_i hm_10
      clear hm_10
      obtain ⟨hi0, hi1, hI2⟩ := hv_10
      refine ww_iload hX (pc := 10) dJ7_fill_bad5a_10 rfl ?_
      refine ww_iload_n hX (pc := 12) dJ7_fill_bad5a_12 rfl ?_
      refine ww_icmp_ge hX (pc := 13) (tgt := 27) dJ7_fill_bad5a_13 (by decide) (fun h_13 => ?_) (fun h_13 => ?_)
      · simp only [w32_mod] at h_13
        refine rV hX (pc := 27) hT (Nat.le_refl 0) (Nat.le_refl 0) dJ7_fill_bad5a_27 ?_
        exact ⟨rfl, by rw [hI2, show i = b by omega]⟩
      · simp only [w32_mod] at h_13
        refine ww_aload_n hX (pc := 16) dJ7_fill_bad5a_16 rfl ?_
        refine ww_iload hX (pc := 17) dJ7_fill_bad5a_17 rfl ?_
        refine ww_lload_n hX (pc := 19) dJ7_fill_bad5a_19 rfl ?_
        refine ww_last hX (pc := 20) hs (by omega) (by omega) (by omega) dJ7_fill_bad5a_20 ?_
        refine ww_nmK (fun J_20 eJ_20 => ?_)
        refine ww_iinc hX (pc := 21) (lv' := [some (kR (some k)), some (kI a), some (kI b), some (kL v), none, some (kI (i + 1))]) dJ7_fill_bad5a_21 rfl (by decide) rfl rfl ?_
        refine ww_goto hX (pc := 24) (tgt := 10) dJ7_fill_bad5a_24 (by decide) ?_
        exact ih_10 _ (by have hm9 := Sh0_e hq_10; omega) (i + 1) J_20 rfl ⟨by omega, by omega, by rw [eJ_20, hI2]; exact fill_stepF h1 hi0⟩
  exact hl_10 _ a Ja rfl ⟨by omega, by omega, fill_0F⟩
set_option maxHeartbeats 4000000 in
set_option maxRecDepth 20000 in
theorem c_J0_coder_7d493 (l0 : Launch) {Ia Ja : aI1} {Ra : aR1} {Sa : aS1} {n : Nat} (hn : n < 13)  : CT l0 0 0 0 mJ0_coder_7d493 [kS n] Ia Ja Ra Sa (cI (fun x I' J' => Ia = I' ∧ Ja = J' ∧ x = 0) Ra Sa) := by
  refine ct_in pn_J0 (Nat.le_of_ble_eq_true rfl) (fun X hX hT hIn => ?_)
  have hX : aK l0 X cJ0_coder_7d493 1 RJ0 (some .byte) 0 0 0 := hX
  change WW X 0 [some (kS n)] [] Ia Ja Ra Sa 0 0
  refine ww_gcs hX (pc := 0) tb_518 dJ0_coder_7d493_0 ?_
  refine ww_if_eq hX (pc := 3) (tgt := 13) dJ0_coder_7d493_3 (by decide) (fun h_3 => ?_) (fun h_3 => ?_)
  · simp only [w32_mod] at h_3
    exfalso
    revert h_3
    decide
  · simp only [w32_mod] at h_3
    refine ww_aload_nS hX (pc := 6) dJ0_coder_7d493_6 rfl ?_
    refine ww_getSc hX (pc := 7) hn tb_1631 dJ0_coder_7d493_7 ?_
    refine ww_goto hX (pc := 10) (tgt := 14) dJ0_coder_7d493_10 (by decide) ?_
    refine rB hX (pc := 14) hT (Nat.le_refl 0) (Nat.le_refl 0) dJ0_coder_7d493_14 rfl ?_
    exact ⟨rfl, rfl, rfl⟩
set_option maxHeartbeats 4000000 in
set_option maxRecDepth 20000 in
theorem c_J0_isLatin1_aae02 (l0 : Launch) {Ia Ja : aI1} {Ra : aR1} {Sa : aS1} {n : Nat} (hn : n < 13)  : CT l0 0 0 0 mJ0_isLatin1_aae02 [kS n] Ia Ja Ra Sa (cI (fun x I' J' => Ia = I' ∧ Ja = J' ∧ x = 1) Ra Sa) := by
  refine ct_in pn_J0 (Nat.le_of_ble_eq_true rfl) (fun X hX hT hIn => ?_)
  have hX : aK l0 X cJ0_isLatin1_aae02 1 RJ0 (some .boolean) 0 0 0 := hX
  change WW X 0 [some (kS n)] [] Ia Ja Ra Sa 0 0
  refine ww_gcs hX (pc := 0) tb_518 dJ0_isLatin1_aae02_0 ?_
  refine ww_if_eq hX (pc := 3) (tgt := 17) dJ0_isLatin1_aae02_3 (by decide) (fun h_3 => ?_) (fun h_3 => ?_)
  · simp only [w32_mod] at h_3
    exfalso
    revert h_3
    decide
  · simp only [w32_mod] at h_3
    refine ww_aload_nS hX (pc := 6) dJ0_isLatin1_aae02_6 rfl ?_
    refine ww_getSc hX (pc := 7) hn tb_1631 dJ0_isLatin1_aae02_7 ?_
    refine ww_if_ne hX (pc := 10) (tgt := 17) dJ0_isLatin1_aae02_10 (by decide) (fun h_10 => ?_) (fun h_10 => ?_)
    · simp only [w32_mod] at h_10
      exfalso
      revert h_10
      decide
    · simp only [w32_mod] at h_10
      refine ww_iconst hX (pc := 13) (x := 1) dJ0_isLatin1_aae02_13 rfl ?_
      refine ww_goto hX (pc := 14) (tgt := 18) dJ0_isLatin1_aae02_14 (by decide) ?_
      refine rZ hX (pc := 18) hT (Nat.le_refl 0) (Nat.le_refl 0) dJ0_isLatin1_aae02_18 (by decide) ?_
      exact ⟨rfl, rfl, rfl⟩
set_option maxHeartbeats 4000000 in
set_option maxRecDepth 20000 in
theorem c_J0_length_8abf5 (l0 : Launch) {Ia Ja : aI1} {Ra : aR1} {Sa : aS1} {n : Nat} (hn : n < 13)  : CT l0 1 0 0 mJ0_length_8abf5 [kS n] Ia Ja Ra Sa (cI (fun x I' J' => Ia = I' ∧ Ja = J' ∧ x = ((strLen.getD n 0 : Nat) : Int)) Ra Sa) := by
  refine ct_in pn_J0 (Nat.le_of_ble_eq_true rfl) (fun X hX hT hIn => ?_)
  have hX : aK l0 X cJ0_length_8abf5 1 RJ0 (some .int) 1 0 0 := hX
  change WW X 0 [some (kS n)] [] Ia Ja Ra Sa 0 0
  refine ww_aload_nS hX (pc := 0) dJ0_length_8abf5_0 rfl ?_
  refine ww_getSv hX (pc := 1) hn tb_1630 dJ0_length_8abf5_1 ?_
  refine ww_alenS hX (pc := 4) hn dJ0_length_8abf5_4 ?_
  refine ww_aload_nS hX (pc := 5) dJ0_length_8abf5_5 rfl ?_
  refine xI0 hX (pc := 6) sJ0_335 hn (c_J0_coder_7d493 l0 hn) (by decide) (Nat.le_refl 0) (Nat.le_refl 0) (Nat.le_of_ble_eq_true rfl) dJ0_length_8abf5_6 (fun x_6 I_6 J_6 h_6 => ?_)
  obtain ⟨rfl, rfl, h_6⟩ := h_6
  refine ww_ishr hX (pc := 9) dJ0_length_8abf5_9 ?_
  refine rI hX (pc := 10) hT (Nat.le_refl 0) (Nat.le_refl 0) dJ0_length_8abf5_10 ?_
  exact ⟨rfl, rfl, by
    subst h_6
    have h9 := strLen_r hn
    generalize strLen.getD n 0 = q at h9
    rcases (show q = 2 ∨ q = 3 ∨ q = 4 ∨ q = 5 by omega) with rfl | rfl | rfl | rfl <;> decide⟩
set_option maxHeartbeats 4000000 in
set_option maxRecDepth 20000 in
theorem c_J3_checkIndex_a (l0 : Launch) {Ia Ja : aI1} {Ra : aR1} {Sa : aS1} {a b : Int} (h0 : 0 ≤ a) (h1 : a < b) (h2 : b < 2147483648)  : CT l0 0 0 0 mJ3_checkIndex_8e157 [kI a, kI b, kR none] Ia Ja Ra Sa (cI (fun x I' J' => Ia = I' ∧ Ja = J' ∧ True) Ra Sa) := by
  refine ct_in pn_J3 (Nat.le_of_ble_eq_true rfl) (fun X hX hT hIn => ?_)
  have hX : aK l0 X cJ3_checkIndex_8e157 3 RJ3 (some .int) 0 0 0 := hX
  change WW X 0 [some (kI a), some (kI b), some (kR none)] [] Ia Ja Ra Sa 0 0
  refine ww_iload_n hX (pc := 0) dJ3_checkIndex_8e157_0 rfl ?_
  refine ww_if_lt hX (pc := 1) (tgt := 9) dJ3_checkIndex_8e157_1 (by decide) (fun h_1 => ?_) (fun h_1 => ?_)
  · simp only [w32_mod] at h_1
    exfalso
    omega
  · simp only [w32_mod] at h_1
    refine ww_iload_n hX (pc := 4) dJ3_checkIndex_8e157_4 rfl ?_
    refine ww_iload_n hX (pc := 5) dJ3_checkIndex_8e157_5 rfl ?_
    refine ww_icmp_lt hX (pc := 6) (tgt := 16) dJ3_checkIndex_8e157_6 (by decide) (fun h_6 => ?_) (fun h_6 => ?_)
    · simp only [w32_mod] at h_6
      refine ww_iload_n hX (pc := 16) dJ3_checkIndex_8e157_16 rfl ?_
      refine rI hX (pc := 17) hT (Nat.le_refl 0) (Nat.le_refl 0) dJ3_checkIndex_8e157_17 ?_
      exact ⟨rfl, rfl, trivial⟩
    · simp only [w32_mod] at h_6
      exfalso
      omega
set_option maxHeartbeats 4000000 in
set_option maxRecDepth 20000 in
theorem c_J3_checkIndex_b (l0 : Launch) {Ia Ja : aI1} {Ra : aR1} {Sa : aS1} {a b : Int} (h0 : 0 ≤ a) (h1 : a < b) (h2 : b < 2147483648)  : CT l0 0 0 0 mJ3_checkIndex_8e157 [kI a, kI b, kS 200] Ia Ja Ra Sa (cI (fun x I' J' => Ia = I' ∧ Ja = J' ∧ True) Ra Sa) := by
  refine ct_in pn_J3 (Nat.le_of_ble_eq_true rfl) (fun X hX hT hIn => ?_)
  have hX : aK l0 X cJ3_checkIndex_8e157 3 RJ3 (some .int) 0 0 0 := hX
  change WW X 0 [some (kI a), some (kI b), some (kS 200)] [] Ia Ja Ra Sa 0 0
  refine ww_iload_n hX (pc := 0) dJ3_checkIndex_8e157_0 rfl ?_
  refine ww_if_lt hX (pc := 1) (tgt := 9) dJ3_checkIndex_8e157_1 (by decide) (fun h_1 => ?_) (fun h_1 => ?_)
  · simp only [w32_mod] at h_1
    exfalso
    omega
  · simp only [w32_mod] at h_1
    refine ww_iload_n hX (pc := 4) dJ3_checkIndex_8e157_4 rfl ?_
    refine ww_iload_n hX (pc := 5) dJ3_checkIndex_8e157_5 rfl ?_
    refine ww_icmp_lt hX (pc := 6) (tgt := 16) dJ3_checkIndex_8e157_6 (by decide) (fun h_6 => ?_) (fun h_6 => ?_)
    · simp only [w32_mod] at h_6
      refine ww_iload_n hX (pc := 16) dJ3_checkIndex_8e157_16 rfl ?_
      refine rI hX (pc := 17) hT (Nat.le_refl 0) (Nat.le_refl 0) dJ3_checkIndex_8e157_17 ?_
      exact ⟨rfl, rfl, trivial⟩
    · simp only [w32_mod] at h_6
      exfalso
      omega
set_option maxHeartbeats 4000000 in
set_option maxRecDepth 20000 in
theorem c_J0_checkIndex_df160 (l0 : Launch) {Ia Ja : aI1} {Ra : aR1} {Sa : aS1} {a b : Int} (h0 : 0 ≤ a) (h1 : a < b) (h2 : b < 2147483648)  : CT l0 1 0 0 mJ0_checkIndex_df160 [kI a, kI b] Ia Ja Ra Sa (cV (fun I' J' => Ia = I' ∧ Ja = J') Ra Sa) := by
  refine ct_in pn_J0 (Nat.le_of_ble_eq_true rfl) (fun X hX hT hIn => ?_)
  have hX : aK l0 X cJ0_checkIndex_df160 2 RJ0 none 1 0 0 := hX
  change WW X 0 [some (kI a), some (kI b)] [] Ia Ja Ra Sa 0 0
  refine ww_iload_n hX (pc := 0) dJ0_checkIndex_df160_0 rfl ?_
  refine ww_iload_n hX (pc := 1) dJ0_checkIndex_df160_1 rfl ?_
  refine ww_gfm hX (pc := 2) tb_534 dJ0_checkIndex_df160_2 ?_ ?_
  · skip
    refine sI3 hX (pc := 5) sJ0_1059 (c_J3_checkIndex_a l0 (by omega) (by omega) (by omega)) (by decide) (Nat.le_refl 0) (Nat.le_refl 0) (Nat.le_of_ble_eq_true rfl) dJ0_checkIndex_df160_5 (fun x_5 I_5 J_5 h_5 => ?_)
    obtain ⟨rfl, rfl, h_5⟩ := h_5
    refine ww_popI hX (pc := 8) dJ0_checkIndex_df160_8 ?_
    refine rV hX (pc := 9) hT (Nat.le_refl 0) (Nat.le_refl 0) dJ0_checkIndex_df160_9 ?_
    exact ⟨rfl, rfl⟩
  · skip
    refine sI3 hX (pc := 5) sJ0_1059 (c_J3_checkIndex_b l0 (by omega) (by omega) (by omega)) (by decide) (Nat.le_refl 0) (Nat.le_refl 0) (Nat.le_of_ble_eq_true rfl) dJ0_checkIndex_df160_5 (fun x_5 I_5 J_5 h_5 => ?_)
    obtain ⟨rfl, rfl, h_5⟩ := h_5
    refine ww_popI hX (pc := 8) dJ0_checkIndex_df160_8 ?_
    refine rV hX (pc := 9) hT (Nat.le_refl 0) (Nat.le_refl 0) dJ0_checkIndex_df160_9 ?_
    exact ⟨rfl, rfl⟩
set_option maxHeartbeats 4000000 in
set_option maxRecDepth 20000 in
theorem c_J1_charAt_3b067 (l0 : Launch) {Ia Ja : aI1} {Ra : aR1} {Sa : aS1} {n : Nat} {i : Int} (hn : n < 13) (h0 : 0 ≤ i) (h1 : i < (strLen.getD n 0 : Nat))  : CT l0 2 0 0 mJ1_charAt_3b067 [kS (100 + n), kI i] Ia Ja Ra Sa (cI (fun x I' J' => Ia = I' ∧ Ja = J' ∧ x = chS n i) Ra Sa) := by
  refine ct_in pn_J1 (Nat.le_of_ble_eq_true rfl) (fun X hX hT hIn => ?_)
  have hX : aK l0 X cJ1_charAt_3b067 2 RJ1 (some .char) 2 0 0 := hX
  change WW X 0 [some (kS (100 + n)), some (kI i)] [] Ia Ja Ra Sa 0 0
  refine ww_iload_n hX (pc := 0) dJ1_charAt_3b067_0 rfl ?_
  refine ww_aload_nS hX (pc := 1) dJ1_charAt_3b067_1 rfl ?_
  refine ww_alenS hX (pc := 2) hn dJ1_charAt_3b067_2 ?_
  refine sV2 hX (pc := 3) sJ1_9 (c_J0_checkIndex_df160 l0 (by omega) (by omega) (by have := strLen_r hn; omega)) (by decide) (Nat.le_refl 0) (Nat.le_refl 0) (Nat.le_of_ble_eq_true rfl) dJ1_charAt_3b067_3 (fun I_3 J_3 h_3 => ?_)
  obtain ⟨rfl, rfl⟩ := h_3
  refine ww_aload_nS hX (pc := 6) dJ1_charAt_3b067_6 rfl ?_
  refine ww_iload_n hX (pc := 7) dJ1_charAt_3b067_7 rfl ?_
  refine ww_baldS hX (pc := 8) hn (by omega) (by omega) (by have := strLen_r hn; omega) dJ1_charAt_3b067_8 ?_
  refine ww_sipush hX (pc := 9) (x := 255) dJ1_charAt_3b067_9 (by decide) ?_
  refine ww_iand hX (pc := 12) dJ1_charAt_3b067_12 ?_
  refine ww_i2c hX (pc := 13) dJ1_charAt_3b067_13 ?_
  refine rC hX (pc := 14) hT (Nat.le_refl 0) (Nat.le_refl 0) dJ1_charAt_3b067_14 (i_c_nar _) ?_
  exact ⟨rfl, rfl, rfl⟩
set_option maxHeartbeats 4000000 in
set_option maxRecDepth 20000 in
theorem c_J0_charAt_5068e (l0 : Launch) {Ia Ja : aI1} {Ra : aR1} {Sa : aS1} {n : Nat} {i : Int} (hn : n < 13) (h0 : 0 ≤ i) (h1 : i < (strLen.getD n 0 : Nat))  : CT l0 3 0 0 mJ0_charAt_5068e [kS n, kI i] Ia Ja Ra Sa (cI (fun x I' J' => Ia = I' ∧ Ja = J' ∧ x = chS n i) Ra Sa) := by
  refine ct_in pn_J0 (Nat.le_of_ble_eq_true rfl) (fun X hX hT hIn => ?_)
  have hX : aK l0 X cJ0_charAt_5068e 2 RJ0 (some .char) 3 0 0 := hX
  change WW X 0 [some (kS n), some (kI i)] [] Ia Ja Ra Sa 0 0
  refine ww_aload_nS hX (pc := 0) dJ0_charAt_5068e_0 rfl ?_
  refine xI0 hX (pc := 1) sJ0_492 hn (c_J0_isLatin1_aae02 l0 hn) (by decide) (Nat.le_refl 0) (Nat.le_refl 0) (Nat.le_of_ble_eq_true rfl) dJ0_charAt_5068e_1 (fun x_1 I_1 J_1 h_1 => ?_)
  obtain ⟨rfl, rfl, h_1⟩ := h_1
  refine ww_if_eq hX (pc := 4) (tgt := 16) dJ0_charAt_5068e_4 (by decide) (fun h_4 => ?_) (fun h_4 => ?_)
  · simp only [w32_mod] at h_4
    exfalso
    omega
  · simp only [w32_mod] at h_4
    refine ww_aload_nS hX (pc := 7) dJ0_charAt_5068e_7 rfl ?_
    refine ww_getSv hX (pc := 8) hn tb_1630 dJ0_charAt_5068e_8 ?_
    refine ww_iload_n hX (pc := 11) dJ0_charAt_5068e_11 rfl ?_
    refine sI2 hX (pc := 12) sJ0_495 (c_J1_charAt_3b067 l0 hn h0 h1) (by decide) (Nat.le_refl 0) (Nat.le_refl 0) (Nat.le_of_ble_eq_true rfl) dJ0_charAt_5068e_12 (fun x_12 I_12 J_12 h_12 => ?_)
    obtain ⟨rfl, rfl, h_12⟩ := h_12
    refine rC hX (pc := 15) hT (Nat.le_refl 0) (Nat.le_refl 0) dJ0_charAt_5068e_15 (by rw [h_12]; exact i_c_nar _) ?_
    exact ⟨rfl, rfl, h_12⟩
