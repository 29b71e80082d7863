set_option maxHeartbeats 1000000 in
theorem CF_row {I A B J JA JB : aI1} {R : aR1} {S : aS1} {x y : Int} (h : CPF I R) (hC : CI I R S) (h0 : Kp 0 49 I A ∧ Kp 0 49 J JA ∧ CX A ∧ Fw [3, 18, 19, 20, 21, 22, 23, 24, 25, 26, 27, 28, 29, 30, 31, 32, 33, 34, 35, 36, 48] [(0, 15), (0, 16), (8, 1)] I A ∧ (I 8 1 = 0 → x = -6 ∧ RFc I A (-6)) ∧ (¬ I 8 1 = 0 → Fw [3, 18, 19, 20, 21, 22, 23, 24, 25, 26, 27, 28, 29, 30, 31, 32, 33, 34, 35, 36] [(0, 15), (0, 16), (8, 1)] I A ∧ A 0 16 = 0 ∧ A 8 1 = 0 ∧ A 0 15 = max 0 (I 8 1 - (FU (I 1 5) + 1)) ∧ (∀ j : Nat, A 3 j = if (j : Int) < FU (I 1 5) + 1 then RWv (I 9) (I 8 1) (I 1 6) j else I 3 j) ∧ x = cnR (A 3) (FU (I 1 5) + 1).toNat)) (hh : Ch [50, 51] [0, 1, 6, 10] A B ∧ Kp 49 73 JA JB ∧ RX B ∧ B 49 10 = 0 ∧ (A 49 10 = 0 → y = -6 ∧ B 49 6 = A 49 6 ∧ B 51 = A 51) ∧ (¬ A 49 10 = 0 → B 49 6 = max 0 (A 49 10 - (FU (A 51 304) + 1)) ∧ (∀ j : Nat, B 51 j = if (j : Int) < FU (A 51 304) + 1 then RWv (A 55) (A 49 10) (A 51 305) j else A 51 j) ∧ y = cnR (B 51) (FU (A 51 304) + 1).toNat)) : CPF B R ∧ x = y := by
  obtain ⟨⟨q8, q15, q12, q5, q6, q7, q11⟩, tb, ol, wn, tr, sr, hi, di, im⟩ := id h
  have yc : ∀ k, k < 49 ∨ 73 ≤ k → B k = A k := Ch_kp hh.1 (by decide)
  have z51 : A 51 = I 51 := h0.1 51 (by decide)
  have x5 := XI_o hC.2.1.1
  have ef : FU (A 51 304) = FU (I 1 5) := by rw [z51, ← q5]
  have e305 : A 51 305 = I 1 6 := by rw [z51, ← q6]
  have e10 : A 49 10 = I 8 1 := (congrFun (h0.1 49 (by decide)) 10).trans q8.symm
  have hd0 := hh.2.2.2
  rw [e10, ef, e305] at hd0
  by_cases hv : ¬ I 8 1 = 0
  · obtain ⟨-, -, c1, c2, c3, c4⟩ := h0.2.2.2.2.2 hv
    obtain ⟨d1, d2, d3⟩ := hd0.2.2 hv
    have d0 := hd0.1
    have k51 : ∀ j : Nat, 256 ≤ j → B 51 j = I 51 j := fun j hj => by rw [d2 j, if_neg (by omega)]; exact congrFun z51 j
    have hrw : ∀ j : Nat, RWv (A 55) (I 8 1) (I 1 6) j = RWv (I 9) (I 8 1) (I 1 6) j := fun j => by
      unfold RWv
      rw [h0.1 55 (by decide)]
      by_cases hj9 : (j : Int) < I 8 1
      · have h9 := tb j hj9
        have hc9 := x5
        by_cases h8 : 0 ≤ I 55 j ∧ I 55 j < I 1 6
        · rw [if_pos ⟨hj9, h8⟩, if_pos (by omega)]; omega
        · rw [if_neg (by omega), if_neg (by omega)]
      · rw [if_neg (by omega), if_neg (by omega)]
    have g8_1 : B 8 1 = A 8 1 := congrFun (yc 8 (by decide)) 1
    have g0_15 : B 0 15 = A 0 15 := congrFun (yc 0 (by decide)) 15
    have f0_12 : B 0 12 = I 0 12 := ((congrFun (yc 0 (by decide)) 12).trans (h0.2.2.2.1 0 12 (by decide) (by decide) (by decide)))
    have f1_5 : B 1 5 = I 1 5 := ((congrFun (yc 1 (by decide)) 5).trans (h0.2.2.2.1 1 5 (by decide) (by decide) (by decide)))
    have f1_6 : B 1 6 = I 1 6 := ((congrFun (yc 1 (by decide)) 6).trans (h0.2.2.2.1 1 6 (by decide) (by decide) (by decide)))
    have f1_7 : B 1 7 = I 1 7 := ((congrFun (yc 1 (by decide)) 7).trans (h0.2.2.2.1 1 7 (by decide) (by decide) (by decide)))
    have f1_11 : B 1 11 = I 1 11 := ((congrFun (yc 1 (by decide)) 11).trans (h0.2.2.2.1 1 11 (by decide) (by decide) (by decide)))
    have e49_10 : A 49 10 = I 49 10 := congrFun (h0.1 49 (by decide)) 10
    have e49_6 : A 49 6 = I 49 6 := congrFun (h0.1 49 (by decide)) 6
    have e49_33 : A 49 33 = I 49 33 := congrFun (h0.1 49 (by decide)) 33
    have f49_33 : B 49 33 = A 49 33 := hh.1.2 33 (by decide)
    have f51_304 : B 51 304 = I 51 304 := k51 304 (by omega)
    have f51_305 : B 51 305 = I 51 305 := k51 305 (by omega)
    have f51_306 : B 51 306 = I 51 306 := k51 306 (by omega)
    have f51_309 : B 51 309 = I 51 309 := k51 309 (by omega)
    exact ⟨CPF_g h hC ⟨by omega, by omega, by omega, by omega, by omega, by omega, by omega⟩ (TB5_0 (by omega)) (OL5_k ol ((yc 2 (by decide)).trans (Fw_row h0.2.2.2.1 2 (by decide) (by decide) (by decide))) (fun j hj => k51 _ (by omega))) (WN5_k wn ((yc 6 (by decide)).trans (Fw_row h0.2.2.2.1 6 (by decide) (by decide) (by decide))) (fun j hj => k51 _ (by omega))) (TR5_k tr f0_12 ((yc 46 (by decide)).trans (Fw_row h0.2.2.2.1 46 (by decide) (by decide) (by decide))) ((hh.1.1 67 (by decide) (by decide)).trans (h0.1 67 (by decide)))) (SR_of sr ((yc 43 (by decide)).trans (Fw_row h0.2.2.2.1 43 (by decide) (by decide) (by decide))) ((yc 45 (by decide)).trans (Fw_row h0.2.2.2.1 45 (by decide) (by decide) (by decide)))) ((hh.1.1 52 (by decide) (by decide)).trans (h0.1 52 (by decide))) ((hh.1.1 53 (by decide) (by decide)).trans (h0.1 53 (by decide))) (fun k hk => (yc k (by omega)).trans (h0.1 k (by omega))), by
        rw [c4, d3]
        refine cnR_cg _ (fun j hj => ?_)
        rw [c3 j, d2 j, if_pos (by omega), if_pos (by omega), hrw j]⟩
  · have hv : I 8 1 = 0 := by omega
    have hb := h0.2.2.2.2.1 hv
    obtain ⟨d1, d2, d3⟩ := hd0.2.1 hv
    have d0 := hd0.1
    have f8_1 : B 8 1 = I 8 1 := ((congrFun (yc 8 (by decide)) 1).trans (hb.2.1 8 1 (by decide) (by decide) (by decide)))
    have f0_15 : B 0 15 = I 0 15 := ((congrFun (yc 0 (by decide)) 15).trans (hb.2.1 0 15 (by decide) (by decide) (by decide)))
    have f0_12 : B 0 12 = I 0 12 := ((congrFun (yc 0 (by decide)) 12).trans (hb.2.1 0 12 (by decide) (by decide) (by decide)))
    have f1_5 : B 1 5 = I 1 5 := ((congrFun (yc 1 (by decide)) 5).trans (hb.2.1 1 5 (by decide) (by decide) (by decide)))
    have f1_6 : B 1 6 = I 1 6 := ((congrFun (yc 1 (by decide)) 6).trans (hb.2.1 1 6 (by decide) (by decide) (by decide)))
    have f1_7 : B 1 7 = I 1 7 := ((congrFun (yc 1 (by decide)) 7).trans (hb.2.1 1 7 (by decide) (by decide) (by decide)))
    have f1_11 : B 1 11 = I 1 11 := ((congrFun (yc 1 (by decide)) 11).trans (hb.2.1 1 11 (by decide) (by decide) (by decide)))
    have e49_10 : A 49 10 = I 49 10 := congrFun (h0.1 49 (by decide)) 10
    have e49_6 : A 49 6 = I 49 6 := congrFun (h0.1 49 (by decide)) 6
    have e49_33 : A 49 33 = I 49 33 := congrFun (h0.1 49 (by decide)) 33
    have f49_33 : B 49 33 = A 49 33 := hh.1.2 33 (by decide)
    have y51 : B 51 = I 51 := d3.trans z51
    have f51_304 : B 51 304 = I 51 304 := congrFun y51 304
    have f51_305 : B 51 305 = I 51 305 := congrFun y51 305
    have f51_306 : B 51 306 = I 51 306 := congrFun y51 306
    have f51_309 : B 51 309 = I 51 309 := congrFun y51 309
    exact ⟨CPF_g h hC ⟨by omega, by omega, by omega, by omega, by omega, by omega, by omega⟩ (TB5_0 (by omega)) (OL5_k ol ((yc 2 (by decide)).trans (Fw_row hb.2.1 2 (by decide) (by decide) (by decide))) (fun j _ => congrFun y51 _)) (WN5_k wn ((yc 6 (by decide)).trans (Fw_row hb.2.1 6 (by decide) (by decide) (by decide))) (fun j _ => congrFun y51 _)) (TR5_k tr f0_12 ((yc 46 (by decide)).trans (Fw_row hb.2.1 46 (by decide) (by decide) (by decide))) ((hh.1.1 67 (by decide) (by decide)).trans (h0.1 67 (by decide)))) (SR_of sr ((yc 43 (by decide)).trans (Fw_row hb.2.1 43 (by decide) (by decide) (by decide))) ((yc 45 (by decide)).trans (Fw_row hb.2.1 45 (by decide) (by decide) (by decide)))) ((hh.1.1 52 (by decide) (by decide)).trans (h0.1 52 (by decide))) ((hh.1.1 53 (by decide) (by decide)).trans (h0.1 53 (by decide))) (fun k hk => (yc k (by omega)).trans (h0.1 k (by omega))), by omega⟩
set_option maxHeartbeats 1000000 in
theorem CF_torn {I A B J JA JB : aI1} {R : aR1} {S : aS1} {x y : Int} (h : CPF I R) (hC : CI I R S) (h0 : Kp 0 49 I A ∧ Kp 0 49 J JA ∧ CX A ∧ Fw [] [] I A ∧ x = I 0 15) (hh : A = B ∧ JA = JB ∧ y = A 49 6) : CPF A R ∧ x = y := by
  obtain ⟨⟨q8, q15, q12, q5, q6, q7, q11⟩, tb, ol, wn, tr, sr, hi, di, im⟩ := id h
  obtain ⟨rfl, rfl, hh⟩ := hh
  have f8_1 : A 8 1 = I 8 1 := (h0.2.2.2.1 8 1 (by decide) (by decide) (by decide))
  have f0_15 : A 0 15 = I 0 15 := (h0.2.2.2.1 0 15 (by decide) (by decide) (by decide))
  have f0_12 : A 0 12 = I 0 12 := (h0.2.2.2.1 0 12 (by decide) (by decide) (by decide))
  have f1_5 : A 1 5 = I 1 5 := (h0.2.2.2.1 1 5 (by decide) (by decide) (by decide))
  have f1_6 : A 1 6 = I 1 6 := (h0.2.2.2.1 1 6 (by decide) (by decide) (by decide))
  have f1_7 : A 1 7 = I 1 7 := (h0.2.2.2.1 1 7 (by decide) (by decide) (by decide))
  have f1_11 : A 1 11 = I 1 11 := (h0.2.2.2.1 1 11 (by decide) (by decide) (by decide))
  have f49_10 : A 49 10 = I 49 10 := (congrFun (h0.1 49 (by decide)) 10)
  have f49_6 : A 49 6 = I 49 6 := (congrFun (h0.1 49 (by decide)) 6)
  have f49_33 : A 49 33 = I 49 33 := (congrFun (h0.1 49 (by decide)) 33)
  have y51 : A 51 = I 51 := (h0.1 51 (by decide))
  have f51_304 : A 51 304 = I 51 304 := congrFun y51 304
  have f51_305 : A 51 305 = I 51 305 := congrFun y51 305
  have f51_306 : A 51 306 = I 51 306 := congrFun y51 306
  have f51_309 : A 51 309 = I 51 309 := congrFun y51 309
  exact ⟨CPF_g h hC ⟨by omega, by omega, by omega, by omega, by omega, by omega, by omega⟩ (TB5_k tb f8_1 (Fw_row h0.2.2.2.1 9 (by decide) (by decide) (by decide)) (h0.1 55 (by decide))) (OL5_k ol (Fw_row h0.2.2.2.1 2 (by decide) (by decide) (by decide)) (fun j _ => congrFun y51 _)) (WN5_k wn (Fw_row h0.2.2.2.1 6 (by decide) (by decide) (by decide)) (fun j _ => congrFun y51 _)) (TR5_k tr f0_12 (Fw_row h0.2.2.2.1 46 (by decide) (by decide) (by decide)) (h0.1 67 (by decide))) (SR_of sr (Fw_row h0.2.2.2.1 43 (by decide) (by decide) (by decide)) (Fw_row h0.2.2.2.1 45 (by decide) (by decide) (by decide))) (h0.1 52 (by decide)) (h0.1 53 (by decide)) (fun k hk => (h0.1 k (by omega))), by have u0 := h0.2.2.2.2; omega⟩
set_option maxHeartbeats 1000000 in
theorem CF_of {I A B J JA JB : aI1} {R : aR1} {S : aS1} (h : CPF I R) (hC : CI I R S) (h0 : Kp 0 49 I A ∧ Kp 0 49 J JA ∧ CX A ∧ Fw [] [] I A ∧ True) (hh : A = B ∧ JA = JB ∧ True) : CPF A R := by
  obtain ⟨⟨q8, q15, q12, q5, q6, q7, q11⟩, tb, ol, wn, tr, sr, hi, di, im⟩ := id h
  obtain ⟨rfl, rfl, hh⟩ := hh
  have f8_1 : A 8 1 = I 8 1 := (h0.2.2.2.1 8 1 (by decide) (by decide) (by decide))
  have f0_15 : A 0 15 = I 0 15 := (h0.2.2.2.1 0 15 (by decide) (by decide) (by decide))
  have f0_12 : A 0 12 = I 0 12 := (h0.2.2.2.1 0 12 (by decide) (by decide) (by decide))
  have f1_5 : A 1 5 = I 1 5 := (h0.2.2.2.1 1 5 (by decide) (by decide) (by decide))
  have f1_6 : A 1 6 = I 1 6 := (h0.2.2.2.1 1 6 (by decide) (by decide) (by decide))
  have f1_7 : A 1 7 = I 1 7 := (h0.2.2.2.1 1 7 (by decide) (by decide) (by decide))
  have f1_11 : A 1 11 = I 1 11 := (h0.2.2.2.1 1 11 (by decide) (by decide) (by decide))
  have f49_10 : A 49 10 = I 49 10 := (congrFun (h0.1 49 (by decide)) 10)
  have f49_6 : A 49 6 = I 49 6 := (congrFun (h0.1 49 (by decide)) 6)
  have f49_33 : A 49 33 = I 49 33 := (congrFun (h0.1 49 (by decide)) 33)
  have y51 : A 51 = I 51 := (h0.1 51 (by decide))
  have f51_304 : A 51 304 = I 51 304 := congrFun y51 304
  have f51_305 : A 51 305 = I 51 305 := congrFun y51 305
  have f51_306 : A 51 306 = I 51 306 := congrFun y51 306
  have f51_309 : A 51 309 = I 51 309 := congrFun y51 309
  exact CPF_g h hC ⟨by omega, by omega, by omega, by omega, by omega, by omega, by omega⟩ (TB5_k tb f8_1 (Fw_row h0.2.2.2.1 9 (by decide) (by decide) (by decide)) (h0.1 55 (by decide))) (OL5_k ol (Fw_row h0.2.2.2.1 2 (by decide) (by decide) (by decide)) (fun j _ => congrFun y51 _)) (WN5_k wn (Fw_row h0.2.2.2.1 6 (by decide) (by decide) (by decide)) (fun j _ => congrFun y51 _)) (TR5_k tr f0_12 (Fw_row h0.2.2.2.1 46 (by decide) (by decide) (by decide)) (h0.1 67 (by decide))) (SR_of sr (Fw_row h0.2.2.2.1 43 (by decide) (by decide) (by decide)) (Fw_row h0.2.2.2.1 45 (by decide) (by decide) (by decide))) (h0.1 52 (by decide)) (h0.1 53 (by decide)) (fun k hk => (h0.1 k (by omega)))
set_option maxHeartbeats 1000000 in
theorem CF_fault {I A B J JA JB : aI1} {R : aR1} {S : aS1} (h : CPF I R) (hC : CI I R S) (h0 : Kp 0 49 I A ∧ Kp 0 49 J JA ∧ CX A ∧ Fw [] [] I A ∧ True) (hh : A = B ∧ JA = JB ∧ True) : CPF A R := by
  obtain ⟨⟨q8, q15, q12, q5, q6, q7, q11⟩, tb, ol, wn, tr, sr, hi, di, im⟩ := id h
  obtain ⟨rfl, rfl, hh⟩ := hh
  have f8_1 : A 8 1 = I 8 1 := (h0.2.2.2.1 8 1 (by decide) (by decide) (by decide))
  have f0_15 : A 0 15 = I 0 15 := (h0.2.2.2.1 0 15 (by decide) (by decide) (by decide))
  have f0_12 : A 0 12 = I 0 12 := (h0.2.2.2.1 0 12 (by decide) (by decide) (by decide))
  have f1_5 : A 1 5 = I 1 5 := (h0.2.2.2.1 1 5 (by decide) (by decide) (by decide))
  have f1_6 : A 1 6 = I 1 6 := (h0.2.2.2.1 1 6 (by decide) (by decide) (by decide))
  have f1_7 : A 1 7 = I 1 7 := (h0.2.2.2.1 1 7 (by decide) (by decide) (by decide))
  have f1_11 : A 1 11 = I 1 11 := (h0.2.2.2.1 1 11 (by decide) (by decide) (by decide))
  have f49_10 : A 49 10 = I 49 10 := (congrFun (h0.1 49 (by decide)) 10)
  have f49_6 : A 49 6 = I 49 6 := (congrFun (h0.1 49 (by decide)) 6)
  have f49_33 : A 49 33 = I 49 33 := (congrFun (h0.1 49 (by decide)) 33)
  have y51 : A 51 = I 51 := (h0.1 51 (by decide))
  have f51_304 : A 51 304 = I 51 304 := congrFun y51 304
  have f51_305 : A 51 305 = I 51 305 := congrFun y51 305
  have f51_306 : A 51 306 = I 51 306 := congrFun y51 306
  have f51_309 : A 51 309 = I 51 309 := congrFun y51 309
  exact CPF_g h hC ⟨by omega, by omega, by omega, by omega, by omega, by omega, by omega⟩ (TB5_k tb f8_1 (Fw_row h0.2.2.2.1 9 (by decide) (by decide) (by decide)) (h0.1 55 (by decide))) (OL5_k ol (Fw_row h0.2.2.2.1 2 (by decide) (by decide) (by decide)) (fun j _ => congrFun y51 _)) (WN5_k wn (Fw_row h0.2.2.2.1 6 (by decide) (by decide) (by decide)) (fun j _ => congrFun y51 _)) (TR5_k tr f0_12 (Fw_row h0.2.2.2.1 46 (by decide) (by decide) (by decide)) (h0.1 67 (by decide))) (SR_of sr (Fw_row h0.2.2.2.1 43 (by decide) (by decide) (by decide)) (Fw_row h0.2.2.2.1 45 (by decide) (by decide) (by decide))) (h0.1 52 (by decide)) (h0.1 53 (by decide)) (fun k hk => (h0.1 k (by omega)))
set_option maxHeartbeats 1000000 in
theorem CF_next {I A B J JA JB : aI1} {R : aR1} {S : aS1} (h : CPF I R) (hC : CI I R S) (h0 : Kp 0 49 I A ∧ Kp 0 49 J JA ∧ CX A ∧ Fw [18, 19, 20, 21, 22, 23, 24, 25, 26, 27, 28, 29, 30, 31, 32, 33, 34, 35, 36] [] I A ∧ True) (hh : Ch [61] [25] A B ∧ Kp 49 73 JA JB ∧ RX B ∧ True) : CPF B R := by
  obtain ⟨⟨q8, q15, q12, q5, q6, q7, q11⟩, tb, ol, wn, tr, sr, hi, di, im⟩ := id h
  have yc : ∀ k, k < 49 ∨ 73 ≤ k → B k = A k := Ch_kp hh.1 (by decide)
  have f8_1 : B 8 1 = I 8 1 := ((congrFun (yc 8 (by decide)) 1).trans (h0.2.2.2.1 8 1 (by decide) (by decide) (by decide)))
  have f0_15 : B 0 15 = I 0 15 := ((congrFun (yc 0 (by decide)) 15).trans (h0.2.2.2.1 0 15 (by decide) (by decide) (by decide)))
  have f0_12 : B 0 12 = I 0 12 := ((congrFun (yc 0 (by decide)) 12).trans (h0.2.2.2.1 0 12 (by decide) (by decide) (by decide)))
  have f1_5 : B 1 5 = I 1 5 := ((congrFun (yc 1 (by decide)) 5).trans (h0.2.2.2.1 1 5 (by decide) (by decide) (by decide)))
  have f1_6 : B 1 6 = I 1 6 := ((congrFun (yc 1 (by decide)) 6).trans (h0.2.2.2.1 1 6 (by decide) (by decide) (by decide)))
  have f1_7 : B 1 7 = I 1 7 := ((congrFun (yc 1 (by decide)) 7).trans (h0.2.2.2.1 1 7 (by decide) (by decide) (by decide)))
  have f1_11 : B 1 11 = I 1 11 := ((congrFun (yc 1 (by decide)) 11).trans (h0.2.2.2.1 1 11 (by decide) (by decide) (by decide)))
  have f49_10 : B 49 10 = I 49 10 := ((hh.1.2 10 (by decide)).trans (congrFun (h0.1 49 (by decide)) 10))
  have f49_6 : B 49 6 = I 49 6 := ((hh.1.2 6 (by decide)).trans (congrFun (h0.1 49 (by decide)) 6))
  have f49_33 : B 49 33 = I 49 33 := ((hh.1.2 33 (by decide)).trans (congrFun (h0.1 49 (by decide)) 33))
  have y51 : B 51 = I 51 := ((hh.1.1 51 (by decide) (by decide)).trans (h0.1 51 (by decide)))
  have f51_304 : B 51 304 = I 51 304 := congrFun y51 304
  have f51_305 : B 51 305 = I 51 305 := congrFun y51 305
  have f51_306 : B 51 306 = I 51 306 := congrFun y51 306
  have f51_309 : B 51 309 = I 51 309 := congrFun y51 309
  exact CPF_g h hC ⟨by omega, by omega, by omega, by omega, by omega, by omega, by omega⟩ (TB5_k tb f8_1 ((yc 9 (by decide)).trans (Fw_row h0.2.2.2.1 9 (by decide) (by decide) (by decide))) ((hh.1.1 55 (by decide) (by decide)).trans (h0.1 55 (by decide)))) (OL5_k ol ((yc 2 (by decide)).trans (Fw_row h0.2.2.2.1 2 (by decide) (by decide) (by decide))) (fun j _ => congrFun y51 _)) (WN5_k wn ((yc 6 (by decide)).trans (Fw_row h0.2.2.2.1 6 (by decide) (by decide) (by decide))) (fun j _ => congrFun y51 _)) (TR5_k tr f0_12 ((yc 46 (by decide)).trans (Fw_row h0.2.2.2.1 46 (by decide) (by decide) (by decide))) ((hh.1.1 67 (by decide) (by decide)).trans (h0.1 67 (by decide)))) (SR_of sr ((yc 43 (by decide)).trans (Fw_row h0.2.2.2.1 43 (by decide) (by decide) (by decide))) ((yc 45 (by decide)).trans (Fw_row h0.2.2.2.1 45 (by decide) (by decide) (by decide)))) ((hh.1.1 52 (by decide) (by decide)).trans (h0.1 52 (by decide))) ((hh.1.1 53 (by decide) (by decide)).trans (h0.1 53 (by decide))) (fun k hk => (yc k (by omega)).trans (h0.1 k (by omega)))
set_option maxHeartbeats 1000000 in
theorem CF_ways {I A B J JA JB : aI1} {R : aR1} {S : aS1} (h : CPF I R) (hC : CI I R S) (h0 : Kp 0 49 I A ∧ Kp 0 49 J JA ∧ CX A ∧ Fw [] [] I A ∧ True) (hh : A = B ∧ JA = JB ∧ True) : CPF A R := by
  obtain ⟨⟨q8, q15, q12, q5, q6, q7, q11⟩, tb, ol, wn, tr, sr, hi, di, im⟩ := id h
  obtain ⟨rfl, rfl, hh⟩ := hh
  have f8_1 : A 8 1 = I 8 1 := (h0.2.2.2.1 8 1 (by decide) (by decide) (by decide))
  have f0_15 : A 0 15 = I 0 15 := (h0.2.2.2.1 0 15 (by decide) (by decide) (by decide))
  have f0_12 : A 0 12 = I 0 12 := (h0.2.2.2.1 0 12 (by decide) (by decide) (by decide))
  have f1_5 : A 1 5 = I 1 5 := (h0.2.2.2.1 1 5 (by decide) (by decide) (by decide))
  have f1_6 : A 1 6 = I 1 6 := (h0.2.2.2.1 1 6 (by decide) (by decide) (by decide))
  have f1_7 : A 1 7 = I 1 7 := (h0.2.2.2.1 1 7 (by decide) (by decide) (by decide))
  have f1_11 : A 1 11 = I 1 11 := (h0.2.2.2.1 1 11 (by decide) (by decide) (by decide))
  have f49_10 : A 49 10 = I 49 10 := (congrFun (h0.1 49 (by decide)) 10)
  have f49_6 : A 49 6 = I 49 6 := (congrFun (h0.1 49 (by decide)) 6)
  have f49_33 : A 49 33 = I 49 33 := (congrFun (h0.1 49 (by decide)) 33)
  have y51 : A 51 = I 51 := (h0.1 51 (by decide))
  have f51_304 : A 51 304 = I 51 304 := congrFun y51 304
  have f51_305 : A 51 305 = I 51 305 := congrFun y51 305
  have f51_306 : A 51 306 = I 51 306 := congrFun y51 306
  have f51_309 : A 51 309 = I 51 309 := congrFun y51 309
  exact CPF_g h hC ⟨by omega, by omega, by omega, by omega, by omega, by omega, by omega⟩ (TB5_k tb f8_1 (Fw_row h0.2.2.2.1 9 (by decide) (by decide) (by decide)) (h0.1 55 (by decide))) (OL5_k ol (Fw_row h0.2.2.2.1 2 (by decide) (by decide) (by decide)) (fun j _ => congrFun y51 _)) (WN5_k wn (Fw_row h0.2.2.2.1 6 (by decide) (by decide) (by decide)) (fun j _ => congrFun y51 _)) (TR5_k tr f0_12 (Fw_row h0.2.2.2.1 46 (by decide) (by decide) (by decide)) (h0.1 67 (by decide))) (SR_of sr (Fw_row h0.2.2.2.1 43 (by decide) (by decide) (by decide)) (Fw_row h0.2.2.2.1 45 (by decide) (by decide) (by decide))) (h0.1 52 (by decide)) (h0.1 53 (by decide)) (fun k hk => (h0.1 k (by omega)))
set_option maxHeartbeats 1000000 in
theorem CF_lasts {I A B J JA JB : aI1} {R : aR1} {S : aS1} (h : CPF I R) (hC : CI I R S) (h0 : Kp 0 49 I A ∧ Kp 0 49 J JA ∧ CX A ∧ Fw [18, 19, 20, 21, 22, 23, 24, 25, 26, 27, 28, 29, 30, 31, 32, 33, 34, 35, 36] [] I A ∧ True) (hh : Ch [61] [25] A B ∧ Kp 49 73 JA JB ∧ RX B ∧ True) : CPF B R := by
  obtain ⟨⟨q8, q15, q12, q5, q6, q7, q11⟩, tb, ol, wn, tr, sr, hi, di, im⟩ := id h
  have yc : ∀ k, k < 49 ∨ 73 ≤ k → B k = A k := Ch_kp hh.1 (by decide)
  have f8_1 : B 8 1 = I 8 1 := ((congrFun (yc 8 (by decide)) 1).trans (h0.2.2.2.1 8 1 (by decide) (by decide) (by decide)))
  have f0_15 : B 0 15 = I 0 15 := ((congrFun (yc 0 (by decide)) 15).trans (h0.2.2.2.1 0 15 (by decide) (by decide) (by decide)))
  have f0_12 : B 0 12 = I 0 12 := ((congrFun (yc 0 (by decide)) 12).trans (h0.2.2.2.1 0 12 (by decide) (by decide) (by decide)))
  have f1_5 : B 1 5 = I 1 5 := ((congrFun (yc 1 (by decide)) 5).trans (h0.2.2.2.1 1 5 (by decide) (by decide) (by decide)))
  have f1_6 : B 1 6 = I 1 6 := ((congrFun (yc 1 (by decide)) 6).trans (h0.2.2.2.1 1 6 (by decide) (by decide) (by decide)))
  have f1_7 : B 1 7 = I 1 7 := ((congrFun (yc 1 (by decide)) 7).trans (h0.2.2.2.1 1 7 (by decide) (by decide) (by decide)))
  have f1_11 : B 1 11 = I 1 11 := ((congrFun (yc 1 (by decide)) 11).trans (h0.2.2.2.1 1 11 (by decide) (by decide) (by decide)))
  have f49_10 : B 49 10 = I 49 10 := ((hh.1.2 10 (by decide)).trans (congrFun (h0.1 49 (by decide)) 10))
  have f49_6 : B 49 6 = I 49 6 := ((hh.1.2 6 (by decide)).trans (congrFun (h0.1 49 (by decide)) 6))
  have f49_33 : B 49 33 = I 49 33 := ((hh.1.2 33 (by decide)).trans (congrFun (h0.1 49 (by decide)) 33))
  have y51 : B 51 = I 51 := ((hh.1.1 51 (by decide) (by decide)).trans (h0.1 51 (by decide)))
  have f51_304 : B 51 304 = I 51 304 := congrFun y51 304
  have f51_305 : B 51 305 = I 51 305 := congrFun y51 305
  have f51_306 : B 51 306 = I 51 306 := congrFun y51 306
  have f51_309 : B 51 309 = I 51 309 := congrFun y51 309
  exact CPF_g h hC ⟨by omega, by omega, by omega, by omega, by omega, by omega, by omega⟩ (TB5_k tb f8_1 ((yc 9 (by decide)).trans (Fw_row h0.2.2.2.1 9 (by decide) (by decide) (by decide))) ((hh.1.1 55 (by decide) (by decide)).trans (h0.1 55 (by decide)))) (OL5_k ol ((yc 2 (by decide)).trans (Fw_row h0.2.2.2.1 2 (by decide) (by decide) (by decide))) (fun j _ => congrFun y51 _)) (WN5_k wn ((yc 6 (by decide)).trans (Fw_row h0.2.2.2.1 6 (by decide) (by decide) (by decide))) (fun j _ => congrFun y51 _)) (TR5_k tr f0_12 ((yc 46 (by decide)).trans (Fw_row h0.2.2.2.1 46 (by decide) (by decide) (by decide))) ((hh.1.1 67 (by decide) (by decide)).trans (h0.1 67 (by decide)))) (SR_of sr ((yc 43 (by decide)).trans (Fw_row h0.2.2.2.1 43 (by decide) (by decide) (by decide))) ((yc 45 (by decide)).trans (Fw_row h0.2.2.2.1 45 (by decide) (by decide) (by decide)))) ((hh.1.1 52 (by decide) (by decide)).trans (h0.1 52 (by decide))) ((hh.1.1 53 (by decide) (by decide)).trans (h0.1 53 (by decide))) (fun k hk => (yc k (by omega)).trans (h0.1 k (by omega)))
set_option maxHeartbeats 1000000 in
theorem CF_mean {I A B J JA JB : aI1} {R : aR1} {S : aS1} (h : CPF I R) (hC : CI I R S) (h0 : Kp 0 49 I A ∧ Kp 0 49 J JA ∧ CX A ∧ Fw [18, 19, 20, 21, 22, 23, 24, 25, 26, 27, 28, 29, 30, 31, 32, 33, 34, 35, 36] [] I A ∧ True) (hh : Ch [61] [25] A B ∧ Kp 49 73 JA JB ∧ RX B ∧ True) : CPF B R := by
  obtain ⟨⟨q8, q15, q12, q5, q6, q7, q11⟩, tb, ol, wn, tr, sr, hi, di, im⟩ := id h
  have yc : ∀ k, k < 49 ∨ 73 ≤ k → B k = A k := Ch_kp hh.1 (by decide)
  have f8_1 : B 8 1 = I 8 1 := ((congrFun (yc 8 (by decide)) 1).trans (h0.2.2.2.1 8 1 (by decide) (by decide) (by decide)))
  have f0_15 : B 0 15 = I 0 15 := ((congrFun (yc 0 (by decide)) 15).trans (h0.2.2.2.1 0 15 (by decide) (by decide) (by decide)))
  have f0_12 : B 0 12 = I 0 12 := ((congrFun (yc 0 (by decide)) 12).trans (h0.2.2.2.1 0 12 (by decide) (by decide) (by decide)))
  have f1_5 : B 1 5 = I 1 5 := ((congrFun (yc 1 (by decide)) 5).trans (h0.2.2.2.1 1 5 (by decide) (by decide) (by decide)))
  have f1_6 : B 1 6 = I 1 6 := ((congrFun (yc 1 (by decide)) 6).trans (h0.2.2.2.1 1 6 (by decide) (by decide) (by decide)))
  have f1_7 : B 1 7 = I 1 7 := ((congrFun (yc 1 (by decide)) 7).trans (h0.2.2.2.1 1 7 (by decide) (by decide) (by decide)))
  have f1_11 : B 1 11 = I 1 11 := ((congrFun (yc 1 (by decide)) 11).trans (h0.2.2.2.1 1 11 (by decide) (by decide) (by decide)))
  have f49_10 : B 49 10 = I 49 10 := ((hh.1.2 10 (by decide)).trans (congrFun (h0.1 49 (by decide)) 10))
  have f49_6 : B 49 6 = I 49 6 := ((hh.1.2 6 (by decide)).trans (congrFun (h0.1 49 (by decide)) 6))
  have f49_33 : B 49 33 = I 49 33 := ((hh.1.2 33 (by decide)).trans (congrFun (h0.1 49 (by decide)) 33))
  have y51 : B 51 = I 51 := ((hh.1.1 51 (by decide) (by decide)).trans (h0.1 51 (by decide)))
  have f51_304 : B 51 304 = I 51 304 := congrFun y51 304
  have f51_305 : B 51 305 = I 51 305 := congrFun y51 305
  have f51_306 : B 51 306 = I 51 306 := congrFun y51 306
  have f51_309 : B 51 309 = I 51 309 := congrFun y51 309
  exact CPF_g h hC ⟨by omega, by omega, by omega, by omega, by omega, by omega, by omega⟩ (TB5_k tb f8_1 ((yc 9 (by decide)).trans (Fw_row h0.2.2.2.1 9 (by decide) (by decide) (by decide))) ((hh.1.1 55 (by decide) (by decide)).trans (h0.1 55 (by decide)))) (OL5_k ol ((yc 2 (by decide)).trans (Fw_row h0.2.2.2.1 2 (by decide) (by decide) (by decide))) (fun j _ => congrFun y51 _)) (WN5_k wn ((yc 6 (by decide)).trans (Fw_row h0.2.2.2.1 6 (by decide) (by decide) (by decide))) (fun j _ => congrFun y51 _)) (TR5_k tr f0_12 ((yc 46 (by decide)).trans (Fw_row h0.2.2.2.1 46 (by decide) (by decide) (by decide))) ((hh.1.1 67 (by decide) (by decide)).trans (h0.1 67 (by decide)))) (SR_of sr ((yc 43 (by decide)).trans (Fw_row h0.2.2.2.1 43 (by decide) (by decide) (by decide))) ((yc 45 (by decide)).trans (Fw_row h0.2.2.2.1 45 (by decide) (by decide) (by decide)))) ((hh.1.1 52 (by decide) (by decide)).trans (h0.1 52 (by decide))) ((hh.1.1 53 (by decide) (by decide)).trans (h0.1 53 (by decide))) (fun k hk => (yc k (by omega)).trans (h0.1 k (by omega)))
set_option maxHeartbeats 1000000 in
theorem CF_reached {I A B J JA JB : aI1} {R : aR1} {S : aS1} (h : CPF I R) (hC : CI I R S) (h0 : Kp 0 49 I A ∧ Kp 0 49 J JA ∧ CX A ∧ Fw [] [] I A ∧ True) (hh : Ch [63] [] A B ∧ Kp 49 73 JA JB ∧ RX B ∧ True) : CPF B R := by
  obtain ⟨⟨q8, q15, q12, q5, q6, q7, q11⟩, tb, ol, wn, tr, sr, hi, di, im⟩ := id h
  have yc : ∀ k, k < 49 ∨ 73 ≤ k → B k = A k := Ch_kp hh.1 (by decide)
  have f8_1 : B 8 1 = I 8 1 := ((congrFun (yc 8 (by decide)) 1).trans (h0.2.2.2.1 8 1 (by decide) (by decide) (by decide)))
  have f0_15 : B 0 15 = I 0 15 := ((congrFun (yc 0 (by decide)) 15).trans (h0.2.2.2.1 0 15 (by decide) (by decide) (by decide)))
  have f0_12 : B 0 12 = I 0 12 := ((congrFun (yc 0 (by decide)) 12).trans (h0.2.2.2.1 0 12 (by decide) (by decide) (by decide)))
  have f1_5 : B 1 5 = I 1 5 := ((congrFun (yc 1 (by decide)) 5).trans (h0.2.2.2.1 1 5 (by decide) (by decide) (by decide)))
  have f1_6 : B 1 6 = I 1 6 := ((congrFun (yc 1 (by decide)) 6).trans (h0.2.2.2.1 1 6 (by decide) (by decide) (by decide)))
  have f1_7 : B 1 7 = I 1 7 := ((congrFun (yc 1 (by decide)) 7).trans (h0.2.2.2.1 1 7 (by decide) (by decide) (by decide)))
  have f1_11 : B 1 11 = I 1 11 := ((congrFun (yc 1 (by decide)) 11).trans (h0.2.2.2.1 1 11 (by decide) (by decide) (by decide)))
  have f49_10 : B 49 10 = I 49 10 := ((hh.1.2 10 (by decide)).trans (congrFun (h0.1 49 (by decide)) 10))
  have f49_6 : B 49 6 = I 49 6 := ((hh.1.2 6 (by decide)).trans (congrFun (h0.1 49 (by decide)) 6))
  have f49_33 : B 49 33 = I 49 33 := ((hh.1.2 33 (by decide)).trans (congrFun (h0.1 49 (by decide)) 33))
  have y51 : B 51 = I 51 := ((hh.1.1 51 (by decide) (by decide)).trans (h0.1 51 (by decide)))
  have f51_304 : B 51 304 = I 51 304 := congrFun y51 304
  have f51_305 : B 51 305 = I 51 305 := congrFun y51 305
  have f51_306 : B 51 306 = I 51 306 := congrFun y51 306
  have f51_309 : B 51 309 = I 51 309 := congrFun y51 309
  exact CPF_g h hC ⟨by omega, by omega, by omega, by omega, by omega, by omega, by omega⟩ (TB5_k tb f8_1 ((yc 9 (by decide)).trans (Fw_row h0.2.2.2.1 9 (by decide) (by decide) (by decide))) ((hh.1.1 55 (by decide) (by decide)).trans (h0.1 55 (by decide)))) (OL5_k ol ((yc 2 (by decide)).trans (Fw_row h0.2.2.2.1 2 (by decide) (by decide) (by decide))) (fun j _ => congrFun y51 _)) (WN5_k wn ((yc 6 (by decide)).trans (Fw_row h0.2.2.2.1 6 (by decide) (by decide) (by decide))) (fun j _ => congrFun y51 _)) (TR5_k tr f0_12 ((yc 46 (by decide)).trans (Fw_row h0.2.2.2.1 46 (by decide) (by decide) (by decide))) ((hh.1.1 67 (by decide) (by decide)).trans (h0.1 67 (by decide)))) (SR_of sr ((yc 43 (by decide)).trans (Fw_row h0.2.2.2.1 43 (by decide) (by decide) (by decide))) ((yc 45 (by decide)).trans (Fw_row h0.2.2.2.1 45 (by decide) (by decide) (by decide)))) ((hh.1.1 52 (by decide) (by decide)).trans (h0.1 52 (by decide))) ((hh.1.1 53 (by decide) (by decide)).trans (h0.1 53 (by decide))) (fun k hk => (yc k (by omega)).trans (h0.1 k (by omega)))
set_option maxHeartbeats 1000000 in
theorem CF_failing {I A B J JA JB : aI1} {R : aR1} {S : aS1} (h : CPF I R) (hC : CI I R S) (h0 : Kp 0 49 I A ∧ Kp 0 49 J JA ∧ CX A ∧ Fw [18, 19, 20, 21, 22, 23, 24, 25, 26, 27, 28, 29, 30, 31, 32, 33, 34, 35, 36] [] I A ∧ True) (hh : Ch [61, 64] [25, 28] A B ∧ Kp 49 73 JA JB ∧ RX B ∧ True) : CPF B R := by
  obtain ⟨⟨q8, q15, q12, q5, q6, q7, q11⟩, tb, ol, wn, tr, sr, hi, di, im⟩ := id h
  have yc : ∀ k, k < 49 ∨ 73 ≤ k → B k = A k := Ch_kp hh.1 (by decide)
  have f8_1 : B 8 1 = I 8 1 := ((congrFun (yc 8 (by decide)) 1).trans (h0.2.2.2.1 8 1 (by decide) (by decide) (by decide)))
  have f0_15 : B 0 15 = I 0 15 := ((congrFun (yc 0 (by decide)) 15).trans (h0.2.2.2.1 0 15 (by decide) (by decide) (by decide)))
  have f0_12 : B 0 12 = I 0 12 := ((congrFun (yc 0 (by decide)) 12).trans (h0.2.2.2.1 0 12 (by decide) (by decide) (by decide)))
  have f1_5 : B 1 5 = I 1 5 := ((congrFun (yc 1 (by decide)) 5).trans (h0.2.2.2.1 1 5 (by decide) (by decide) (by decide)))
  have f1_6 : B 1 6 = I 1 6 := ((congrFun (yc 1 (by decide)) 6).trans (h0.2.2.2.1 1 6 (by decide) (by decide) (by decide)))
  have f1_7 : B 1 7 = I 1 7 := ((congrFun (yc 1 (by decide)) 7).trans (h0.2.2.2.1 1 7 (by decide) (by decide) (by decide)))
  have f1_11 : B 1 11 = I 1 11 := ((congrFun (yc 1 (by decide)) 11).trans (h0.2.2.2.1 1 11 (by decide) (by decide) (by decide)))
  have f49_10 : B 49 10 = I 49 10 := ((hh.1.2 10 (by decide)).trans (congrFun (h0.1 49 (by decide)) 10))
  have f49_6 : B 49 6 = I 49 6 := ((hh.1.2 6 (by decide)).trans (congrFun (h0.1 49 (by decide)) 6))
  have f49_33 : B 49 33 = I 49 33 := ((hh.1.2 33 (by decide)).trans (congrFun (h0.1 49 (by decide)) 33))
  have y51 : B 51 = I 51 := ((hh.1.1 51 (by decide) (by decide)).trans (h0.1 51 (by decide)))
  have f51_304 : B 51 304 = I 51 304 := congrFun y51 304
  have f51_305 : B 51 305 = I 51 305 := congrFun y51 305
  have f51_306 : B 51 306 = I 51 306 := congrFun y51 306
  have f51_309 : B 51 309 = I 51 309 := congrFun y51 309
  exact CPF_g h hC ⟨by omega, by omega, by omega, by omega, by omega, by omega, by omega⟩ (TB5_k tb f8_1 ((yc 9 (by decide)).trans (Fw_row h0.2.2.2.1 9 (by decide) (by decide) (by decide))) ((hh.1.1 55 (by decide) (by decide)).trans (h0.1 55 (by decide)))) (OL5_k ol ((yc 2 (by decide)).trans (Fw_row h0.2.2.2.1 2 (by decide) (by decide) (by decide))) (fun j _ => congrFun y51 _)) (WN5_k wn ((yc 6 (by decide)).trans (Fw_row h0.2.2.2.1 6 (by decide) (by decide) (by decide))) (fun j _ => congrFun y51 _)) (TR5_k tr f0_12 ((yc 46 (by decide)).trans (Fw_row h0.2.2.2.1 46 (by decide) (by decide) (by decide))) ((hh.1.1 67 (by decide) (by decide)).trans (h0.1 67 (by decide)))) (SR_of sr ((yc 43 (by decide)).trans (Fw_row h0.2.2.2.1 43 (by decide) (by decide) (by decide))) ((yc 45 (by decide)).trans (Fw_row h0.2.2.2.1 45 (by decide) (by decide) (by decide)))) ((hh.1.1 52 (by decide) (by decide)).trans (h0.1 52 (by decide))) ((hh.1.1 53 (by decide) (by decide)).trans (h0.1 53 (by decide))) (fun k hk => (yc k (by omega)).trans (h0.1 k (by omega)))
set_option maxHeartbeats 1000000 in
theorem CF_hurts {I A B J JA JB : aI1} {R : aR1} {S : aS1} (h : CPF I R) (hC : CI I R S) (h0 : Kp 0 49 I A ∧ Kp 0 49 J JA ∧ CX A ∧ Fw [18, 19, 20, 21, 22, 23, 24, 25, 26, 27, 28, 29, 30, 31, 32, 33, 34, 35, 36] [] I A ∧ True) (hh : Ch [61] [25] A B ∧ Kp 49 73 JA JB ∧ RX B ∧ True) : CPF B R := by
  obtain ⟨⟨q8, q15, q12, q5, q6, q7, q11⟩, tb, ol, wn, tr, sr, hi, di, im⟩ := id h
  have yc : ∀ k, k < 49 ∨ 73 ≤ k → B k = A k := Ch_kp hh.1 (by decide)
  have f8_1 : B 8 1 = I 8 1 := ((congrFun (yc 8 (by decide)) 1).trans (h0.2.2.2.1 8 1 (by decide) (by decide) (by decide)))
  have f0_15 : B 0 15 = I 0 15 := ((congrFun (yc 0 (by decide)) 15).trans (h0.2.2.2.1 0 15 (by decide) (by decide) (by decide)))
  have f0_12 : B 0 12 = I 0 12 := ((congrFun (yc 0 (by decide)) 12).trans (h0.2.2.2.1 0 12 (by decide) (by decide) (by decide)))
  have f1_5 : B 1 5 = I 1 5 := ((congrFun (yc 1 (by decide)) 5).trans (h0.2.2.2.1 1 5 (by decide) (by decide) (by decide)))
  have f1_6 : B 1 6 = I 1 6 := ((congrFun (yc 1 (by decide)) 6).trans (h0.2.2.2.1 1 6 (by decide) (by decide) (by decide)))
  have f1_7 : B 1 7 = I 1 7 := ((congrFun (yc 1 (by decide)) 7).trans (h0.2.2.2.1 1 7 (by decide) (by decide) (by decide)))
  have f1_11 : B 1 11 = I 1 11 := ((congrFun (yc 1 (by decide)) 11).trans (h0.2.2.2.1 1 11 (by decide) (by decide) (by decide)))
  have f49_10 : B 49 10 = I 49 10 := ((hh.1.2 10 (by decide)).trans (congrFun (h0.1 49 (by decide)) 10))
  have f49_6 : B 49 6 = I 49 6 := ((hh.1.2 6 (by decide)).trans (congrFun (h0.1 49 (by decide)) 6))
  have f49_33 : B 49 33 = I 49 33 := ((hh.1.2 33 (by decide)).trans (congrFun (h0.1 49 (by decide)) 33))
  have y51 : B 51 = I 51 := ((hh.1.1 51 (by decide) (by decide)).trans (h0.1 51 (by decide)))
  have f51_304 : B 51 304 = I 51 304 := congrFun y51 304
  have f51_305 : B 51 305 = I 51 305 := congrFun y51 305
  have f51_306 : B 51 306 = I 51 306 := congrFun y51 306
  have f51_309 : B 51 309 = I 51 309 := congrFun y51 309
  exact CPF_g h hC ⟨by omega, by omega, by omega, by omega, by omega, by omega, by omega⟩ (TB5_k tb f8_1 ((yc 9 (by decide)).trans (Fw_row h0.2.2.2.1 9 (by decide) (by decide) (by decide))) ((hh.1.1 55 (by decide) (by decide)).trans (h0.1 55 (by decide)))) (OL5_k ol ((yc 2 (by decide)).trans (Fw_row h0.2.2.2.1 2 (by decide) (by decide) (by decide))) (fun j _ => congrFun y51 _)) (WN5_k wn ((yc 6 (by decide)).trans (Fw_row h0.2.2.2.1 6 (by decide) (by decide) (by decide))) (fun j _ => congrFun y51 _)) (TR5_k tr f0_12 ((yc 46 (by decide)).trans (Fw_row h0.2.2.2.1 46 (by decide) (by decide) (by decide))) ((hh.1.1 67 (by decide) (by decide)).trans (h0.1 67 (by decide)))) (SR_of sr ((yc 43 (by decide)).trans (Fw_row h0.2.2.2.1 43 (by decide) (by decide) (by decide))) ((yc 45 (by decide)).trans (Fw_row h0.2.2.2.1 45 (by decide) (by decide) (by decide)))) ((hh.1.1 52 (by decide) (by decide)).trans (h0.1 52 (by decide))) ((hh.1.1 53 (by decide) (by decide)).trans (h0.1 53 (by decide))) (fun k hk => (yc k (by omega)).trans (h0.1 k (by omega)))
set_option maxHeartbeats 1000000 in
theorem CF_log {I A B J JA JB : aI1} {R : aR1} {S : aS1} (h : CPF I R) (hC : CI I R S) (h0 : Kp 0 49 I A ∧ Kp 0 49 J JA ∧ CX A ∧ Fw [] [] I A ∧ True) (hh : A = B ∧ JA = JB ∧ True) : CPF A R := by
  obtain ⟨⟨q8, q15, q12, q5, q6, q7, q11⟩, tb, ol, wn, tr, sr, hi, di, im⟩ := id h
  obtain ⟨rfl, rfl, hh⟩ := hh
  have f8_1 : A 8 1 = I 8 1 := (h0.2.2.2.1 8 1 (by decide) (by decide) (by decide))
  have f0_15 : A 0 15 = I 0 15 := (h0.2.2.2.1 0 15 (by decide) (by decide) (by decide))
  have f0_12 : A 0 12 = I 0 12 := (h0.2.2.2.1 0 12 (by decide) (by decide) (by decide))
  have f1_5 : A 1 5 = I 1 5 := (h0.2.2.2.1 1 5 (by decide) (by decide) (by decide))
  have f1_6 : A 1 6 = I 1 6 := (h0.2.2.2.1 1 6 (by decide) (by decide) (by decide))
  have f1_7 : A 1 7 = I 1 7 := (h0.2.2.2.1 1 7 (by decide) (by decide) (by decide))
  have f1_11 : A 1 11 = I 1 11 := (h0.2.2.2.1 1 11 (by decide) (by decide) (by decide))
  have f49_10 : A 49 10 = I 49 10 := (congrFun (h0.1 49 (by decide)) 10)
  have f49_6 : A 49 6 = I 49 6 := (congrFun (h0.1 49 (by decide)) 6)
  have f49_33 : A 49 33 = I 49 33 := (congrFun (h0.1 49 (by decide)) 33)
  have y51 : A 51 = I 51 := (h0.1 51 (by decide))
  have f51_304 : A 51 304 = I 51 304 := congrFun y51 304
  have f51_305 : A 51 305 = I 51 305 := congrFun y51 305
  have f51_306 : A 51 306 = I 51 306 := congrFun y51 306
  have f51_309 : A 51 309 = I 51 309 := congrFun y51 309
  exact CPF_g h hC ⟨by omega, by omega, by omega, by omega, by omega, by omega, by omega⟩ (TB5_k tb f8_1 (Fw_row h0.2.2.2.1 9 (by decide) (by decide) (by decide)) (h0.1 55 (by decide))) (OL5_k ol (Fw_row h0.2.2.2.1 2 (by decide) (by decide) (by decide)) (fun j _ => congrFun y51 _)) (WN5_k wn (Fw_row h0.2.2.2.1 6 (by decide) (by decide) (by decide)) (fun j _ => congrFun y51 _)) (TR5_k tr f0_12 (Fw_row h0.2.2.2.1 46 (by decide) (by decide) (by decide)) (h0.1 67 (by decide))) (SR_of sr (Fw_row h0.2.2.2.1 43 (by decide) (by decide) (by decide)) (Fw_row h0.2.2.2.1 45 (by decide) (by decide) (by decide))) (h0.1 52 (by decide)) (h0.1 53 (by decide)) (fun k hk => (h0.1 k (by omega)))
set_option maxHeartbeats 1000000 in
theorem CF_burnt {I A B J JA JB : aI1} {R : aR1} {S : aS1} (h : CPF I R) (hC : CI I R S) (h0 : Kp 0 49 I A ∧ Kp 0 49 J JA ∧ CX A ∧ Fw [18, 19, 20, 21, 22, 23, 24, 25, 26, 27, 28, 29, 30, 31, 32, 33, 34, 35, 36] [] I A ∧ True) (hh : A = B ∧ JA = JB ∧ True) : CPF A R := by
  obtain ⟨⟨q8, q15, q12, q5, q6, q7, q11⟩, tb, ol, wn, tr, sr, hi, di, im⟩ := id h
  obtain ⟨rfl, rfl, hh⟩ := hh
  have f8_1 : A 8 1 = I 8 1 := (h0.2.2.2.1 8 1 (by decide) (by decide) (by decide))
  have f0_15 : A 0 15 = I 0 15 := (h0.2.2.2.1 0 15 (by decide) (by decide) (by decide))
  have f0_12 : A 0 12 = I 0 12 := (h0.2.2.2.1 0 12 (by decide) (by decide) (by decide))
  have f1_5 : A 1 5 = I 1 5 := (h0.2.2.2.1 1 5 (by decide) (by decide) (by decide))
  have f1_6 : A 1 6 = I 1 6 := (h0.2.2.2.1 1 6 (by decide) (by decide) (by decide))
  have f1_7 : A 1 7 = I 1 7 := (h0.2.2.2.1 1 7 (by decide) (by decide) (by decide))
  have f1_11 : A 1 11 = I 1 11 := (h0.2.2.2.1 1 11 (by decide) (by decide) (by decide))
  have f49_10 : A 49 10 = I 49 10 := (congrFun (h0.1 49 (by decide)) 10)
  have f49_6 : A 49 6 = I 49 6 := (congrFun (h0.1 49 (by decide)) 6)
  have f49_33 : A 49 33 = I 49 33 := (congrFun (h0.1 49 (by decide)) 33)
  have y51 : A 51 = I 51 := (h0.1 51 (by decide))
  have f51_304 : A 51 304 = I 51 304 := congrFun y51 304
  have f51_305 : A 51 305 = I 51 305 := congrFun y51 305
  have f51_306 : A 51 306 = I 51 306 := congrFun y51 306
  have f51_309 : A 51 309 = I 51 309 := congrFun y51 309
  exact CPF_g h hC ⟨by omega, by omega, by omega, by omega, by omega, by omega, by omega⟩ (TB5_k tb f8_1 (Fw_row h0.2.2.2.1 9 (by decide) (by decide) (by decide)) (h0.1 55 (by decide))) (OL5_k ol (Fw_row h0.2.2.2.1 2 (by decide) (by decide) (by decide)) (fun j _ => congrFun y51 _)) (WN5_k wn (Fw_row h0.2.2.2.1 6 (by decide) (by decide) (by decide)) (fun j _ => congrFun y51 _)) (TR5_k tr f0_12 (Fw_row h0.2.2.2.1 46 (by decide) (by decide) (by decide)) (h0.1 67 (by decide))) (SR_of sr (Fw_row h0.2.2.2.1 43 (by decide) (by decide) (by decide)) (Fw_row h0.2.2.2.1 45 (by decide) (by decide) (by decide))) (h0.1 52 (by decide)) (h0.1 53 (by decide)) (fun k hk => (h0.1 k (by omega)))
set_option maxHeartbeats 1000000 in
theorem CF_judge {I A B J JA JB : aI1} {R : aR1} {S : aS1} (h : CPF I R) (hC : CI I R S) (h0 : Kp 0 49 I A ∧ Kp 0 49 J JA ∧ CX A ∧ Fw [18, 19, 20, 21, 22, 23, 24, 25, 26, 27, 28, 29, 30, 31, 32, 33, 34, 35, 36] [] I A ∧ True) (hh : Ch [61] [25] A B ∧ Kp 49 73 JA JB ∧ RX B ∧ True) : CPF B R := by
  obtain ⟨⟨q8, q15, q12, q5, q6, q7, q11⟩, tb, ol, wn, tr, sr, hi, di, im⟩ := id h
  have yc : ∀ k, k < 49 ∨ 73 ≤ k → B k = A k := Ch_kp hh.1 (by decide)
  have f8_1 : B 8 1 = I 8 1 := ((congrFun (yc 8 (by decide)) 1).trans (h0.2.2.2.1 8 1 (by decide) (by decide) (by decide)))
  have f0_15 : B 0 15 = I 0 15 := ((congrFun (yc 0 (by decide)) 15).trans (h0.2.2.2.1 0 15 (by decide) (by decide) (by decide)))
  have f0_12 : B 0 12 = I 0 12 := ((congrFun (yc 0 (by decide)) 12).trans (h0.2.2.2.1 0 12 (by decide) (by decide) (by decide)))
  have f1_5 : B 1 5 = I 1 5 := ((congrFun (yc 1 (by decide)) 5).trans (h0.2.2.2.1 1 5 (by decide) (by decide) (by decide)))
  have f1_6 : B 1 6 = I 1 6 := ((congrFun (yc 1 (by decide)) 6).trans (h0.2.2.2.1 1 6 (by decide) (by decide) (by decide)))
  have f1_7 : B 1 7 = I 1 7 := ((congrFun (yc 1 (by decide)) 7).trans (h0.2.2.2.1 1 7 (by decide) (by decide) (by decide)))
  have f1_11 : B 1 11 = I 1 11 := ((congrFun (yc 1 (by decide)) 11).trans (h0.2.2.2.1 1 11 (by decide) (by decide) (by decide)))
  have f49_10 : B 49 10 = I 49 10 := ((hh.1.2 10 (by decide)).trans (congrFun (h0.1 49 (by decide)) 10))
  have f49_6 : B 49 6 = I 49 6 := ((hh.1.2 6 (by decide)).trans (congrFun (h0.1 49 (by decide)) 6))
  have f49_33 : B 49 33 = I 49 33 := ((hh.1.2 33 (by decide)).trans (congrFun (h0.1 49 (by decide)) 33))
  have y51 : B 51 = I 51 := ((hh.1.1 51 (by decide) (by decide)).trans (h0.1 51 (by decide)))
  have f51_304 : B 51 304 = I 51 304 := congrFun y51 304
  have f51_305 : B 51 305 = I 51 305 := congrFun y51 305
  have f51_306 : B 51 306 = I 51 306 := congrFun y51 306
  have f51_309 : B 51 309 = I 51 309 := congrFun y51 309
  exact CPF_g h hC ⟨by omega, by omega, by omega, by omega, by omega, by omega, by omega⟩ (TB5_k tb f8_1 ((yc 9 (by decide)).trans (Fw_row h0.2.2.2.1 9 (by decide) (by decide) (by decide))) ((hh.1.1 55 (by decide) (by decide)).trans (h0.1 55 (by decide)))) (OL5_k ol ((yc 2 (by decide)).trans (Fw_row h0.2.2.2.1 2 (by decide) (by decide) (by decide))) (fun j _ => congrFun y51 _)) (WN5_k wn ((yc 6 (by decide)).trans (Fw_row h0.2.2.2.1 6 (by decide) (by decide) (by decide))) (fun j _ => congrFun y51 _)) (TR5_k tr f0_12 ((yc 46 (by decide)).trans (Fw_row h0.2.2.2.1 46 (by decide) (by decide) (by decide))) ((hh.1.1 67 (by decide) (by decide)).trans (h0.1 67 (by decide)))) (SR_of sr ((yc 43 (by decide)).trans (Fw_row h0.2.2.2.1 43 (by decide) (by decide) (by decide))) ((yc 45 (by decide)).trans (Fw_row h0.2.2.2.1 45 (by decide) (by decide) (by decide)))) ((hh.1.1 52 (by decide) (by decide)).trans (h0.1 52 (by decide))) ((hh.1.1 53 (by decide) (by decide)).trans (h0.1 53 (by decide))) (fun k hk => (yc k (by omega)).trans (h0.1 k (by omega)))
