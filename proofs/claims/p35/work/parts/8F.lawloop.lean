def zI9 : aI1 := fun _ _ => 0
def zR9 : aR1 := fun _ _ => none
theorem law_loop {l0 : Launch} {X : aX} (hX : aK l0 X cL_law 4 RL ret 400 600000 7302250) (hZ : aLz X) {L : Nat} {sc : Nat → Int} (hsc : aScr X L sc) (hLL : L ≤ 3072) : ∀ (n : Nat) (i : Int) (I J : aI1) (R : aR1) (S : aS1) (uc us : Nat), (L + 6 - i).toNat = n → 0 ≤ i → i ≤ L + 6 → CI I R S → RX I → CPF I R → (uc : Int) ≤ 100 + i → (us : Int) ≤ 60000 + 72 * i → WW X 18 [some (kS 300), some (kR (some 0)), some (kR (some 49)), some (kI i)] [] I J R S uc us := by
  intro n
  induction n using Nat.strongRecOn with
  | ind n ih =>
    intro i I J R S uc us hn hi0 hi1 hC hQ hP huc hus
    refine ww_iload_n hX (pc := 18) dL_law_18 rfl ?_
    refine ww_aload_nS hX (pc := 19) dL_law_19 rfl ?_
    refine ww_slen hX (pc := 20) hsc dL_law_20 ?_
    refine ww_bipush hX (pc := 21) (x := 6) dL_law_21 (by decide) ?_
    refine ww_isub hX (pc := 23) dL_law_23 ?_
    refine ww_icmp_gt hX (pc := 24) (tgt := 1365) dL_law_24 (by decide) (fun h_24 => ?_) (fun h_24 => ?_)
    · refine ww_iconst hX (pc := 1365) (x := 1) dL_law_1365 rfl ?_
      exact ww_lend hX hZ (by omega) (by omega) dL_law_1366
    · simp only [w32_mod] at h_24
      have hi6 : i + 6 ≤ L := by omega
      have hk : ∀ (I' J' : aI1) (R' : aR1) (S' : aS1) (uc' us' : Nat), CI I' R' S' → RX I' → CPF I' R' → uc' ≤ uc + 6 → us' ≤ us + 428 → WW X 1359 [some (kS 300), some (kR (some 0)), some (kR (some 49)), some (kI i)] [] I' J' R' S' uc' us' := fun I' J' R' S' uc' us' c1 q1 p1 u1 u2 => by
        refine ww_iinc hX (pc := 1359) (lv' := [some (kS 300), some (kR (some 0)), some (kR (some 49)), some (kI (i + 6))]) dL_law_1359 rfl (by decide) rfl rfl ?_
        refine ww_goto hX (pc := 1362) (tgt := 18) dL_law_1362 (by decide) ?_
        exact ih _ (by omega) (i + 6) I' J' R' S' uc' us' rfl (by omega) (by omega) c1 q1 p1 (by omega) (by omega)
      refine ww_aload_nS hX (pc := 27) dL_law_27 rfl ?_
      refine ww_iload_n hX (pc := 28) dL_law_28 rfl ?_
      refine ww_sld hX (pc := 29) hsc (by omega) (by omega) (by omega) dL_law_29 ?_
      refine ww_bipush hX (pc := 30) (x := 63) dL_law_30 (by decide) ?_
      refine ww_iand hX (pc := 32) dL_law_32 ?_
      refine ww_table hX dL_law_33 1359 (by decide) (fun _ => hk I J R S uc us hC hQ hP (by omega) (by omega)) (fun i_33 h_33 _ => ?_)
      rcases (show i_33 = 0 ∨ i_33 = 1 ∨ i_33 = 2 ∨ i_33 = 3 ∨ i_33 = 4 ∨ i_33 = 5 ∨ i_33 = 6 ∨ i_33 = 7 ∨ i_33 = 8 ∨ i_33 = 9 ∨ i_33 = 10 ∨ i_33 = 11 ∨ i_33 = 12 ∨ i_33 = 13 ∨ i_33 = 14 ∨ i_33 = 15 ∨ i_33 = 16 ∨ i_33 = 17 ∨ i_33 = 18 ∨ i_33 = 19 ∨ i_33 = 20 ∨ i_33 = 21 ∨ i_33 = 22 ∨ i_33 = 23 ∨ i_33 = 24 ∨ i_33 = 25 ∨ i_33 = 26 ∨ i_33 = 27 ∨ i_33 = 28 ∨ i_33 = 29 ∨ i_33 = 30 ∨ i_33 = 31 ∨ i_33 = 32 ∨ i_33 = 33 ∨ i_33 = 34 ∨ i_33 = 35 ∨ i_33 = 36 ∨ i_33 = 37 ∨ i_33 = 38 ∨ i_33 = 39 ∨ i_33 = 40 ∨ i_33 = 41 ∨ i_33 = 42 by omega) with rfl | rfl | rfl | rfl | rfl | rfl | rfl | rfl | rfl | rfl | rfl | rfl | rfl | rfl | rfl | rfl | rfl | rfl | rfl | rfl | rfl | rfl | rfl | rfl | rfl | rfl | rfl | rfl | rfl | rfl | rfl | rfl | rfl | rfl | rfl | rfl | rfl | rfl | rfl | rfl | rfl | rfl | rfl
      · exact ⟨187, 220, rfl, by decide, lc_0 hX hsc hi0 hi6 hLL hC hQ hP (by omega) (by omega) hk⟩
      · exact ⟨210, 243, rfl, by decide, lc_1 hX hsc hi0 hi6 hLL hC hQ hP (by omega) (by omega) hk⟩
      · exact ⟨233, 266, rfl, by decide, lc_2 hX hsc hi0 hi6 hLL hC hQ hP (by omega) (by omega) hk⟩
      · exact ⟨266, 299, rfl, by decide, lc_3 hX hsc hi0 hi6 hLL hC hQ hP (by omega) (by omega) hk⟩
      · exact ⟨299, 332, rfl, by decide, lc_4 hX hsc hi0 hi6 hLL hC hQ hP (by omega) (by omega) hk⟩
      · exact ⟨332, 365, rfl, by decide, lc_5 hX hsc hi0 hi6 hLL hC hQ hP (by omega) (by omega) hk⟩
      · exact ⟨355, 388, rfl, by decide, lc_6 hX hsc hi0 hi6 hLL hC hQ hP (by omega) (by omega) hk⟩
      · exact ⟨418, 451, rfl, by decide, lc_7 hX hsc hi0 hi6 hLL hC hQ hP (by omega) (by omega) hk⟩
      · exact ⟨441, 474, rfl, by decide, lc_8 hX hsc hi0 hi6 hLL hC hQ hP (by omega) (by omega) hk⟩
      · exact ⟨454, 487, rfl, by decide, lc_9 hX hsc hi0 hi6 hLL hC hQ hP (by omega) (by omega) hk⟩
      · exact ⟨467, 500, rfl, by decide, lc_10 hX hsc hi0 hi6 hLL hC hQ hP (by omega) (by omega) hk⟩
      · exact ⟨480, 513, rfl, by decide, lc_11 hX hsc hi0 hi6 hLL hC hQ hP (by omega) (by omega) hk⟩
      · exact ⟨493, 526, rfl, by decide, lc_12 hX hsc hi0 hi6 hLL hC hQ hP (by omega) (by omega) hk⟩
      · exact ⟨516, 549, rfl, by decide, lc_13 hX hsc hi0 hi6 hLL hC hQ hP (by omega) (by omega) hk⟩
      · exact ⟨559, 592, rfl, by decide, lc_14 hX hsc hi0 hi6 hLL hC hQ hP (by omega) (by omega) hk⟩
      · exact ⟨592, 625, rfl, by decide, lc_15 hX hsc hi0 hi6 hLL hC hQ hP (by omega) (by omega) hk⟩
      · exact ⟨615, 648, rfl, by decide, lc_16 hX hsc hi0 hi6 hLL hC hQ hP (by omega) (by omega) hk⟩
      · exact ⟨648, 681, rfl, by decide, lc_17 hX hsc hi0 hi6 hLL hC hQ hP (by omega) (by omega) hk⟩
      · exact ⟨671, 704, rfl, by decide, lc_18 hX hsc hi0 hi6 hLL hC hQ hP (by omega) (by omega) hk⟩
      · exact ⟨694, 727, rfl, by decide, lc_19 hX hsc hi0 hi6 hLL hC hQ hP (by omega) (by omega) hk⟩
      · exact ⟨717, 750, rfl, by decide, lc_20 hX hsc hi0 hi6 hLL hC hQ hP (by omega) (by omega) hk⟩
      · exact ⟨760, 793, rfl, by decide, lc_21 hX hsc hi0 hi6 hLL hC hQ hP (by omega) (by omega) hk⟩
      · exact ⟨803, 836, rfl, by decide, lc_22 hX hsc hi0 hi6 hLL hC hQ hP (by omega) (by omega) hk⟩
      · exact ⟨836, 869, rfl, by decide, lc_23 hX hsc hi0 hi6 hLL hC hQ hP (by omega) (by omega) hk⟩
      · exact ⟨849, 882, rfl, by decide, lc_24 hX hsc hi0 hi6 hLL hC hQ hP (by omega) (by omega) hk⟩
      · exact ⟨872, 905, rfl, by decide, lc_25 hX hsc hi0 hi6 hLL hC hQ hP (by omega) (by omega) hk⟩
      · exact ⟨885, 918, rfl, by decide, lc_26 hX hsc hi0 hi6 hLL hC hQ hP (by omega) (by omega) hk⟩
      · exact ⟨898, 931, rfl, by decide, lc_27 hX hsc hi0 hi6 hLL hC hQ hP (by omega) (by omega) hk⟩
      · exact ⟨921, 954, rfl, by decide, lc_28 hX hsc hi0 hi6 hLL hC hQ hP (by omega) (by omega) hk⟩
      · exact ⟨964, 997, rfl, by decide, lc_29 hX hsc hi0 hi6 hLL hC hQ hP (by omega) (by omega) hk⟩
      · exact ⟨1027, 1060, rfl, by decide, lc_30 hX hsc hi0 hi6 hLL hC hQ hP (by omega) (by omega) hk⟩
      · exact ⟨1060, 1093, rfl, by decide, lc_31 hX hsc hi0 hi6 hLL hC hQ hP (by omega) (by omega) hk⟩
      · exact ⟨1073, 1106, rfl, by decide, lc_32 hX hsc hi0 hi6 hLL hC hQ hP (by omega) (by omega) hk⟩
      · exact ⟨1096, 1129, rfl, by decide, lc_33 hX hsc hi0 hi6 hLL hC hQ hP (by omega) (by omega) hk⟩
      · exact ⟨1119, 1152, rfl, by decide, lc_34 hX hsc hi0 hi6 hLL hC hQ hP (by omega) (by omega) hk⟩
      · exact ⟨1132, 1165, rfl, by decide, lc_35 hX hsc hi0 hi6 hLL hC hQ hP (by omega) (by omega) hk⟩
      · exact ⟨1155, 1188, rfl, by decide, lc_36 hX hsc hi0 hi6 hLL hC hQ hP (by omega) (by omega) hk⟩
      · exact ⟨1178, 1211, rfl, by decide, lc_37 hX hsc hi0 hi6 hLL hC hQ hP (by omega) (by omega) hk⟩
      · exact ⟨1221, 1254, rfl, by decide, lc_38 hX hsc hi0 hi6 hLL hC hQ hP (by omega) (by omega) hk⟩
      · exact ⟨1244, 1277, rfl, by decide, lc_39 hX hsc hi0 hi6 hLL hC hQ hP (by omega) (by omega) hk⟩
      · exact ⟨1267, 1300, rfl, by decide, lc_40 hX hsc hi0 hi6 hLL hC hQ hP (by omega) (by omega) hk⟩
      · exact ⟨1290, 1323, rfl, by decide, lc_41 hX hsc hi0 hi6 hLL hC hQ hP (by omega) (by omega) hk⟩
      · exact ⟨1313, 1346, rfl, by decide, lc_42 hX hsc hi0 hi6 hLL hC hQ hP (by omega) (by omega) hk⟩
def sI : aI1 := nI_X10 (upR zI9 0 (fun _ => 0))
def sR : aR1 := nR_X10 (upR zR9 0 (fun _ => none))
theorem s_lay : ∀ q ∈ layR, q.1 < 49 → upR sR 49 (fun _ => none) q.1 q.2.1 = some q.2.2 := by decide +kernel
theorem s_4 : ∀ i, i < 6 → sR 4 i = none := by decide +kernel
theorem s_45 : ∀ i, i < 9 → sI 45 i = 0 := by decide +kernel
theorem s_43 : ∀ i, i < 36 → sI 43 i = 0 := by decide +kernel
theorem s_7 : ∀ i, i < 2 → sR 7 i = none := by decide +kernel
theorem s_CX : CX sI := by
  refine ⟨?_, ?_, ?_⟩
  · unfold XI
    refine ⟨by decide +kernel, by decide +kernel, by decide +kernel, by decide +kernel, by decide +kernel, by decide +kernel, by decide +kernel, by decide +kernel, by decide +kernel, by decide +kernel, by decide +kernel⟩
  · unfold LR LRf
    refine ⟨by decide +kernel, by decide +kernel, by decide +kernel, by decide +kernel⟩
  · unfold FI
    decide +kernel
set_option maxHeartbeats 4000000 in
set_option maxRecDepth 20000 in
theorem law_start {l0 : Launch} {X : aX} (hX : aK l0 X cL_law 4 RL ret 400 600000 7302250) (hZ : aLz X) {L : Nat} {sc : Nat → Int} (hsc : aScr X L sc) (hLL : L ≤ 3072) : WW X 0 [some (kS 300), none, none, none] [] zI9 zI9 zR9 [] 0 0 := by
  refine ww_newz hX (pc := 0) 17 (z := 0) rfl cl_10 tb_21 tb_22 tb_1 rfl (by omega) (by omega) dL_law_0 ?_
  refine ww_dupR hX (pc := 3) dL_law_3 ?_
  refine ww_callI hX (pc := 4) (av := []) sL_9 (c_X10_init l0) rfl (by decide) (by omega) (by omega) (Nat.le_of_ble_eq_true rfl) dL_law_4 (fun r_4 I_4 J_4 R_4 S_4 h_4 => ?_)
  obtain ⟨rfl, rfl, rfl, rfl, rfl⟩ := h_4
  refine ww_astore_n hX (pc := 7) (lv' := [some (kS 300), some (kR (some 0)), none, none]) dL_law_7 (by decide) rfl rfl ?_
  refine ww_newz hX (pc := 8) 42 (z := 49) rfl cl_11 tb_1082 tb_1083 tb_12 rfl (by omega) (by omega) dL_law_8 ?_
  refine ww_dupR hX (pc := 11) dL_law_11 ?_
  refine ww_callI hX (pc := 12) (av := []) sL_12 (c5_X11_init l0 (Ra := upR sR 49 (fun _ => none)) (Ia := upR sI 49 (fun _ => 0)) s_lay (fun _ => rfl)) rfl (by decide) (by omega) (by omega) (Nat.le_of_ble_eq_true rfl) dL_law_12 (fun r_12 I_12 J_12 R_12 S_12 h_12 => ?_)
  obtain ⟨rfl, hL9, hQ9, hf9, -, z53, z10, z6, z33, z304, z305, z306, z309, zo, zw⟩ := h_12
  have hI9 : ∀ k, k < 49 → I_12 k = sI k := fun k hk => by rw [(hf9 k hk).1, upR_n _ _ (by omega)]
  have hR9 : ∀ k, k < 49 → R_12 k = sR k := fun k hk => by rw [(hf9 k hk).2.2, upR_n _ _ (by omega)]
  have hC9 : CI I_12 R_12 S_12 := ⟨hL9, CX_lo s_CX hI9, fun i hi w hw => (by rw [hR9 4 (by decide), s_4 i hi] at hw; cases hw), fun i hi c hc => (by rw [hR9 7 (by decide), s_7 i hi] at hc; cases hc)⟩
  have q8 : I_12 8 1 = 0 := by rw [hI9 8 (by decide)]; decide +kernel
  have q15 : I_12 0 15 = 0 := by rw [hI9 0 (by decide)]; decide +kernel
  have q12 : I_12 0 12 = 0 := by rw [hI9 0 (by decide)]; decide +kernel
  have q5 : I_12 1 5 = 3 := by rw [hI9 1 (by decide)]; decide +kernel
  have q6 : I_12 1 6 = 4 := by rw [hI9 1 (by decide)]; decide +kernel
  have q7 : I_12 1 7 = 0 := by rw [hI9 1 (by decide)]; decide +kernel
  have q11 : I_12 1 11 = 0 := by rw [hI9 1 (by decide)]; decide +kernel
  have qo : ∀ j, j < 8 → I_12 2 j = 1 := by rw [hI9 2 (by decide)]; decide +kernel
  have qw : ∀ j, j < 16 → I_12 6 j = 0 := by rw [hI9 6 (by decide)]; decide +kernel
  have hP9 : CPF I_12 R_12 := ⟨⟨by rw [q8, z10], by rw [q15, z6], by rw [q12, z33], by rw [q5, z304], by rw [q6, z305], by rw [q7, z306], by rw [q11, z309]⟩, fun j hj => absurd hj (by rw [q8]; omega), fun j hj => (by rw [qo j hj, zo j hj]), fun j hj => (by rw [qw j hj, zw j hj]), fun j hj => absurd hj (by rw [q12]; omega), fun n k a0 a1 b0 b1 => Or.inl ⟨by rw [hI9 45 (by decide)]; exact s_45 _ (by omega), fun t ht => by rw [hI9 43 (by decide)]; exact s_43 _ (by omega)⟩, fun i hi => (by rw [hR9 7 (by decide), s_7 i hi, z53]; exact ⟨fun _ => rfl, fun _ => rfl⟩), fun i j hi hj c q => (by rw [hR9 7 (by decide), s_7 i hi] at q; cases q), fun i hi c q => (by rw [hR9 7 (by decide), s_7 i hi] at q; cases q)⟩
  refine ww_astore_n hX (pc := 15) (lv' := [some (kS 300), some (kR (some 0)), some (kR (some 49)), none]) dL_law_15 (by decide) rfl rfl ?_
  refine ww_iconst hX (pc := 16) (x := 0) dL_law_16 rfl ?_
  refine ww_istore_n hX (pc := 17) (lv' := [some (kS 300), some (kR (some 0)), some (kR (some 49)), some (kI 0)]) dL_law_17 (by decide) rfl rfl ?_
  exact law_loop hX hZ hsc hLL _ 0 I_12 J_12 R_12 S_12 _ _ rfl (by omega) (by omega) hC9 hQ9 hP9 (by omega) (by omega)
