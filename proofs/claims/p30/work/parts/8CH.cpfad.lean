set_option maxHeartbeats 1000000 in
theorem CF_rows {I A B J JA JB : aI1} {R : aR1} {S : aS1} (h : CPF I R) (hC : CI I R S) (h0 : Kp 0 49 I A ∧ Kp 0 49 J JA ∧ CX A ∧ Fw [18, 19, 20, 21, 22, 23, 24, 25, 26, 27, 28, 29, 30, 31, 32, 33, 34, 35, 36] [] I A ∧ True) (hh : Ch [61] [25] A B ∧ Kp 49 73 JA JB ∧ RX B ∧ True) : CPF B R := by
  obtain ⟨⟨q8, q15, q12, q5, q6, q7, q11⟩, tb, ol, wn, tr, sr, hi, di, im⟩ := id h
  have yc : ∀ k, k < 49 ∨ 73 ≤ k → B k = A k := Ch_kp hh.1 (by decide)
  have f8_1 : B 8 1 = I 8 1 := ((congrFun (yc 8 (by decide)) 1).trans (h0.2.2.2.1 8 1 (by decide) (by decide) (by decide)))
  have f0_15 : B 0 15 = I 0 15 := ((congrFun (yc 0 (by decide)) 15).trans (h0.2.2.2.1 0 15 (by decide) (by decide) (by decide)))
  have f0_12 : B 0 12 = I 0 12 := ((congrFun (yc 0 (by decide)) 12).trans (h0.2.2.2.1 0 12 (by decide) (by decide) (by decide)))
  have f1_5 : B 1 5 = I 1 5 := ((congrFun (yc 1 (by decide)) 5).trans (h0.2.2.2.1 1 5 (by decide) (by decide) (by decide)))
  have f1_6 : B 1 6 = I 1 6 := ((congrFun (yc 1 (by decide)) 6).trans (h0.2.2.2.1 1 6 (by decide) (by decide) (by decide)))
  have f1_7 : B 1 7 = I 1 7 := ((congrFun (yc 1 (by decide)) 7).trans (h0.2.2.2.1 1 7 (by decide) (by decide) (by decide)))
  have f1_11 : B 1 11 = I 1 11 := ((congrFun (yc 1 (by decide)) 11).trans (h0.2.2.2.1 1 11 (by decide) (by decide) (by decide)))
  have f49_10 : B 49 10 = I 49 10 := ((hh.1.2 10 (by decide)).trans (congrFun (h0.1 49 (by decide)) 10))
  have f49_6 : B 49 6 = I 49 6 := ((hh.1.2 6 (by decide)).trans (congrFun (h0.1 49 (by decide)) 6))
  have f49_33 : B 49 33 = I 49 33 := ((hh.1.2 33 (by decide)).trans (congrFun (h0.1 49 (by decide)) 33))
  have y51 : B 51 = I 51 := ((hh.1.1 51 (by decide) (by decide)).trans (h0.1 51 (by decide)))
  have f51_304 : B 51 304 = I 51 304 := congrFun y51 304
  have f51_305 : B 51 305 = I 51 305 := congrFun y51 305
  have f51_306 : B 51 306 = I 51 306 := congrFun y51 306
  have f51_309 : B 51 309 = I 51 309 := congrFun y51 309
  exact CPF_g h hC ⟨by omega, by omega, by omega, by omega, by omega, by omega, by omega⟩ (TB5_k tb f8_1 ((yc 9 (by decide)).trans (Fw_row h0.2.2.2.1 9 (by decide) (by decide) (by decide))) ((hh.1.1 55 (by decide) (by decide)).trans (h0.1 55 (by decide)))) (OL5_k ol ((yc 2 (by decide)).trans (Fw_row h0.2.2.2.1 2 (by decide) (by decide) (by decide))) (fun j _ => congrFun y51 _)) (WN5_k wn ((yc 6 (by decide)).trans (Fw_row h0.2.2.2.1 6 (by decide) (by decide) (by decide))) (fun j _ => congrFun y51 _)) (TR5_k tr f0_12 ((yc 46 (by decide)).trans (Fw_row h0.2.2.2.1 46 (by decide) (by decide) (by decide))) ((hh.1.1 67 (by decide) (by decide)).trans (h0.1 67 (by decide)))) (SR_of sr ((yc 43 (by decide)).trans (Fw_row h0.2.2.2.1 43 (by decide) (by decide) (by decide))) ((yc 45 (by decide)).trans (Fw_row h0.2.2.2.1 45 (by decide) (by decide) (by decide)))) ((hh.1.1 52 (by decide) (by decide)).trans (h0.1 52 (by decide))) ((hh.1.1 53 (by decide) (by decide)).trans (h0.1 53 (by decide))) (fun k hk => (yc k (by omega)).trans (h0.1 k (by omega)))
set_option maxHeartbeats 1000000 in
theorem CF_could {I A B J JA JB : aI1} {R : aR1} {S : aS1} (h : CPF I R) (hC : CI I R S) (h0 : Kp 0 49 I A ∧ Kp 0 49 J JA ∧ CX A ∧ Fw [18, 19, 20, 21, 22, 23, 24, 25, 26, 27, 28, 29, 30, 31, 32, 33, 34, 35, 36] [] I A ∧ True) (hh : Ch [61] [25] A B ∧ Kp 49 73 JA JB ∧ RX B ∧ True) : CPF B R := by
  obtain ⟨⟨q8, q15, q12, q5, q6, q7, q11⟩, tb, ol, wn, tr, sr, hi, di, im⟩ := id h
  have yc : ∀ k, k < 49 ∨ 73 ≤ k → B k = A k := Ch_kp hh.1 (by decide)
  have f8_1 : B 8 1 = I 8 1 := ((congrFun (yc 8 (by decide)) 1).trans (h0.2.2.2.1 8 1 (by decide) (by decide) (by decide)))
  have f0_15 : B 0 15 = I 0 15 := ((congrFun (yc 0 (by decide)) 15).trans (h0.2.2.2.1 0 15 (by decide) (by decide) (by decide)))
  have f0_12 : B 0 12 = I 0 12 := ((congrFun (yc 0 (by decide)) 12).trans (h0.2.2.2.1 0 12 (by decide) (by decide) (by decide)))
  have f1_5 : B 1 5 = I 1 5 := ((congrFun (yc 1 (by decide)) 5).trans (h0.2.2.2.1 1 5 (by decide) (by decide) (by decide)))
  have f1_6 : B 1 6 = I 1 6 := ((congrFun (yc 1 (by decide)) 6).trans (h0.2.2.2.1 1 6 (by decide) (by decide) (by decide)))
  have f1_7 : B 1 7 = I 1 7 := ((congrFun (yc 1 (by decide)) 7).trans (h0.2.2.2.1 1 7 (by decide) (by decide) (by decide)))
  have f1_11 : B 1 11 = I 1 11 := ((congrFun (yc 1 (by decide)) 11).trans (h0.2.2.2.1 1 11 (by decide) (by decide) (by decide)))
  have f49_10 : B 49 10 = I 49 10 := ((hh.1.2 10 (by decide)).trans (congrFun (h0.1 49 (by decide)) 10))
  have f49_6 : B 49 6 = I 49 6 := ((hh.1.2 6 (by decide)).trans (congrFun (h0.1 49 (by decide)) 6))
  have f49_33 : B 49 33 = I 49 33 := ((hh.1.2 33 (by decide)).trans (congrFun (h0.1 49 (by decide)) 33))
  have y51 : B 51 = I 51 := ((hh.1.1 51 (by decide) (by decide)).trans (h0.1 51 (by decide)))
  have f51_304 : B 51 304 = I 51 304 := congrFun y51 304
  have f51_305 : B 51 305 = I 51 305 := congrFun y51 305
  have f51_306 : B 51 306 = I 51 306 := congrFun y51 306
  have f51_309 : B 51 309 = I 51 309 := congrFun y51 309
  exact CPF_g h hC ⟨by omega, by omega, by omega, by omega, by omega, by omega, by omega⟩ (TB5_k tb f8_1 ((yc 9 (by decide)).trans (Fw_row h0.2.2.2.1 9 (by decide) (by decide) (by decide))) ((hh.1.1 55 (by decide) (by decide)).trans (h0.1 55 (by decide)))) (OL5_k ol ((yc 2 (by decide)).trans (Fw_row h0.2.2.2.1 2 (by decide) (by decide) (by decide))) (fun j _ => congrFun y51 _)) (WN5_k wn ((yc 6 (by decide)).trans (Fw_row h0.2.2.2.1 6 (by decide) (by decide) (by decide))) (fun j _ => congrFun y51 _)) (TR5_k tr f0_12 ((yc 46 (by decide)).trans (Fw_row h0.2.2.2.1 46 (by decide) (by decide) (by decide))) ((hh.1.1 67 (by decide) (by decide)).trans (h0.1 67 (by decide)))) (SR_of sr ((yc 43 (by decide)).trans (Fw_row h0.2.2.2.1 43 (by decide) (by decide) (by decide))) ((yc 45 (by decide)).trans (Fw_row h0.2.2.2.1 45 (by decide) (by decide) (by decide)))) ((hh.1.1 52 (by decide) (by decide)).trans (h0.1 52 (by decide))) ((hh.1.1 53 (by decide) (by decide)).trans (h0.1 53 (by decide))) (fun k hk => (yc k (by omega)).trans (h0.1 k (by omega)))
set_option maxHeartbeats 1000000 in
theorem CF_maybe {I A B J JA JB : aI1} {R : aR1} {S : aS1} (h : CPF I R) (hC : CI I R S) (h0 : Kp 0 49 I A ∧ Kp 0 49 J JA ∧ CX A ∧ Fw [] [] I A ∧ True) (hh : Ch [63] [] A B ∧ Kp 49 73 JA JB ∧ RX B ∧ True) : CPF B R := by
  obtain ⟨⟨q8, q15, q12, q5, q6, q7, q11⟩, tb, ol, wn, tr, sr, hi, di, im⟩ := id h
  have yc : ∀ k, k < 49 ∨ 73 ≤ k → B k = A k := Ch_kp hh.1 (by decide)
  have f8_1 : B 8 1 = I 8 1 := ((congrFun (yc 8 (by decide)) 1).trans (h0.2.2.2.1 8 1 (by decide) (by decide) (by decide)))
  have f0_15 : B 0 15 = I 0 15 := ((congrFun (yc 0 (by decide)) 15).trans (h0.2.2.2.1 0 15 (by decide) (by decide) (by decide)))
  have f0_12 : B 0 12 = I 0 12 := ((congrFun (yc 0 (by decide)) 12).trans (h0.2.2.2.1 0 12 (by decide) (by decide) (by decide)))
  have f1_5 : B 1 5 = I 1 5 := ((congrFun (yc 1 (by decide)) 5).trans (h0.2.2.2.1 1 5 (by decide) (by decide) (by decide)))
  have f1_6 : B 1 6 = I 1 6 := ((congrFun (yc 1 (by decide)) 6).trans (h0.2.2.2.1 1 6 (by decide) (by decide) (by decide)))
  have f1_7 : B 1 7 = I 1 7 := ((congrFun (yc 1 (by decide)) 7).trans (h0.2.2.2.1 1 7 (by decide) (by decide) (by decide)))
  have f1_11 : B 1 11 = I 1 11 := ((congrFun (yc 1 (by decide)) 11).trans (h0.2.2.2.1 1 11 (by decide) (by decide) (by decide)))
  have f49_10 : B 49 10 = I 49 10 := ((hh.1.2 10 (by decide)).trans (congrFun (h0.1 49 (by decide)) 10))
  have f49_6 : B 49 6 = I 49 6 := ((hh.1.2 6 (by decide)).trans (congrFun (h0.1 49 (by decide)) 6))
  have f49_33 : B 49 33 = I 49 33 := ((hh.1.2 33 (by decide)).trans (congrFun (h0.1 49 (by decide)) 33))
  have y51 : B 51 = I 51 := ((hh.1.1 51 (by decide) (by decide)).trans (h0.1 51 (by decide)))
  have f51_304 : B 51 304 = I 51 304 := congrFun y51 304
  have f51_305 : B 51 305 = I 51 305 := congrFun y51 305
  have f51_306 : B 51 306 = I 51 306 := congrFun y51 306
  have f51_309 : B 51 309 = I 51 309 := congrFun y51 309
  exact CPF_g h hC ⟨by omega, by omega, by omega, by omega, by omega, by omega, by omega⟩ (TB5_k tb f8_1 ((yc 9 (by decide)).trans (Fw_row h0.2.2.2.1 9 (by decide) (by decide) (by decide))) ((hh.1.1 55 (by decide) (by decide)).trans (h0.1 55 (by decide)))) (OL5_k ol ((yc 2 (by decide)).trans (Fw_row h0.2.2.2.1 2 (by decide) (by decide) (by decide))) (fun j _ => congrFun y51 _)) (WN5_k wn ((yc 6 (by decide)).trans (Fw_row h0.2.2.2.1 6 (by decide) (by decide) (by decide))) (fun j _ => congrFun y51 _)) (TR5_k tr f0_12 ((yc 46 (by decide)).trans (Fw_row h0.2.2.2.1 46 (by decide) (by decide) (by decide))) ((hh.1.1 67 (by decide) (by decide)).trans (h0.1 67 (by decide)))) (SR_of sr ((yc 43 (by decide)).trans (Fw_row h0.2.2.2.1 43 (by decide) (by decide) (by decide))) ((yc 45 (by decide)).trans (Fw_row h0.2.2.2.1 45 (by decide) (by decide) (by decide)))) ((hh.1.1 52 (by decide) (by decide)).trans (h0.1 52 (by decide))) ((hh.1.1 53 (by decide) (by decide)).trans (h0.1 53 (by decide))) (fun k hk => (yc k (by omega)).trans (h0.1 k (by omega)))
set_option maxHeartbeats 1000000 in
theorem CF_safe {I A B J JA JB : aI1} {R : aR1} {S : aS1} (h : CPF I R) (hC : CI I R S) (h0 : Kp 0 49 I A ∧ Kp 0 49 J JA ∧ CX A ∧ Fw [18, 19, 20, 21, 22, 23, 24, 25, 26, 27, 28, 29, 30, 31, 32, 33, 34, 35, 36] [] I A ∧ True) (hh : Ch [63] [] A B ∧ Kp 49 73 JA JB ∧ RX B ∧ True) : CPF B R := by
  obtain ⟨⟨q8, q15, q12, q5, q6, q7, q11⟩, tb, ol, wn, tr, sr, hi, di, im⟩ := id h
  have yc : ∀ k, k < 49 ∨ 73 ≤ k → B k = A k := Ch_kp hh.1 (by decide)
  have f8_1 : B 8 1 = I 8 1 := ((congrFun (yc 8 (by decide)) 1).trans (h0.2.2.2.1 8 1 (by decide) (by decide) (by decide)))
  have f0_15 : B 0 15 = I 0 15 := ((congrFun (yc 0 (by decide)) 15).trans (h0.2.2.2.1 0 15 (by decide) (by decide) (by decide)))
  have f0_12 : B 0 12 = I 0 12 := ((congrFun (yc 0 (by decide)) 12).trans (h0.2.2.2.1 0 12 (by decide) (by decide) (by decide)))
  have f1_5 : B 1 5 = I 1 5 := ((congrFun (yc 1 (by decide)) 5).trans (h0.2.2.2.1 1 5 (by decide) (by decide) (by decide)))
  have f1_6 : B 1 6 = I 1 6 := ((congrFun (yc 1 (by decide)) 6).trans (h0.2.2.2.1 1 6 (by decide) (by decide) (by decide)))
  have f1_7 : B 1 7 = I 1 7 := ((congrFun (yc 1 (by decide)) 7).trans (h0.2.2.2.1 1 7 (by decide) (by decide) (by decide)))
  have f1_11 : B 1 11 = I 1 11 := ((congrFun (yc 1 (by decide)) 11).trans (h0.2.2.2.1 1 11 (by decide) (by decide) (by decide)))
  have f49_10 : B 49 10 = I 49 10 := ((hh.1.2 10 (by decide)).trans (congrFun (h0.1 49 (by decide)) 10))
  have f49_6 : B 49 6 = I 49 6 := ((hh.1.2 6 (by decide)).trans (congrFun (h0.1 49 (by decide)) 6))
  have f49_33 : B 49 33 = I 49 33 := ((hh.1.2 33 (by decide)).trans (congrFun (h0.1 49 (by decide)) 33))
  have y51 : B 51 = I 51 := ((hh.1.1 51 (by decide) (by decide)).trans (h0.1 51 (by decide)))
  have f51_304 : B 51 304 = I 51 304 := congrFun y51 304
  have f51_305 : B 51 305 = I 51 305 := congrFun y51 305
  have f51_306 : B 51 306 = I 51 306 := congrFun y51 306
  have f51_309 : B 51 309 = I 51 309 := congrFun y51 309
  exact CPF_g h hC ⟨by omega, by omega, by omega, by omega, by omega, by omega, by omega⟩ (TB5_k tb f8_1 ((yc 9 (by decide)).trans (Fw_row h0.2.2.2.1 9 (by decide) (by decide) (by decide))) ((hh.1.1 55 (by decide) (by decide)).trans (h0.1 55 (by decide)))) (OL5_k ol ((yc 2 (by decide)).trans (Fw_row h0.2.2.2.1 2 (by decide) (by decide) (by decide))) (fun j _ => congrFun y51 _)) (WN5_k wn ((yc 6 (by decide)).trans (Fw_row h0.2.2.2.1 6 (by decide) (by decide) (by decide))) (fun j _ => congrFun y51 _)) (TR5_k tr f0_12 ((yc 46 (by decide)).trans (Fw_row h0.2.2.2.1 46 (by decide) (by decide) (by decide))) ((hh.1.1 67 (by decide) (by decide)).trans (h0.1 67 (by decide)))) (SR_of sr ((yc 43 (by decide)).trans (Fw_row h0.2.2.2.1 43 (by decide) (by decide) (by decide))) ((yc 45 (by decide)).trans (Fw_row h0.2.2.2.1 45 (by decide) (by decide) (by decide)))) ((hh.1.1 52 (by decide) (by decide)).trans (h0.1 52 (by decide))) ((hh.1.1 53 (by decide) (by decide)).trans (h0.1 53 (by decide))) (fun k hk => (yc k (by omega)).trans (h0.1 k (by omega)))
set_option maxHeartbeats 1000000 in
theorem CF_spy {I A B J JA JB : aI1} {R : aR1} {S : aS1} (h : CPF I R) (hC : CI I R S) (h0 : Kp 0 49 I A ∧ Kp 0 49 J JA ∧ CX A ∧ Fw [] [] I A ∧ True) (hh : Ch [63] [] A B ∧ Kp 49 73 JA JB ∧ RX B ∧ True) : CPF B R := by
  obtain ⟨⟨q8, q15, q12, q5, q6, q7, q11⟩, tb, ol, wn, tr, sr, hi, di, im⟩ := id h
  have yc : ∀ k, k < 49 ∨ 73 ≤ k → B k = A k := Ch_kp hh.1 (by decide)
  have f8_1 : B 8 1 = I 8 1 := ((congrFun (yc 8 (by decide)) 1).trans (h0.2.2.2.1 8 1 (by decide) (by decide) (by decide)))
  have f0_15 : B 0 15 = I 0 15 := ((congrFun (yc 0 (by decide)) 15).trans (h0.2.2.2.1 0 15 (by decide) (by decide) (by decide)))
  have f0_12 : B 0 12 = I 0 12 := ((congrFun (yc 0 (by decide)) 12).trans (h0.2.2.2.1 0 12 (by decide) (by decide) (by decide)))
  have f1_5 : B 1 5 = I 1 5 := ((congrFun (yc 1 (by decide)) 5).trans (h0.2.2.2.1 1 5 (by decide) (by decide) (by decide)))
  have f1_6 : B 1 6 = I 1 6 := ((congrFun (yc 1 (by decide)) 6).trans (h0.2.2.2.1 1 6 (by decide) (by decide) (by decide)))
  have f1_7 : B 1 7 = I 1 7 := ((congrFun (yc 1 (by decide)) 7).trans (h0.2.2.2.1 1 7 (by decide) (by decide) (by decide)))
  have f1_11 : B 1 11 = I 1 11 := ((congrFun (yc 1 (by decide)) 11).trans (h0.2.2.2.1 1 11 (by decide) (by decide) (by decide)))
  have f49_10 : B 49 10 = I 49 10 := ((hh.1.2 10 (by decide)).trans (congrFun (h0.1 49 (by decide)) 10))
  have f49_6 : B 49 6 = I 49 6 := ((hh.1.2 6 (by decide)).trans (congrFun (h0.1 49 (by decide)) 6))
  have f49_33 : B 49 33 = I 49 33 := ((hh.1.2 33 (by decide)).trans (congrFun (h0.1 49 (by decide)) 33))
  have y51 : B 51 = I 51 := ((hh.1.1 51 (by decide) (by decide)).trans (h0.1 51 (by decide)))
  have f51_304 : B 51 304 = I 51 304 := congrFun y51 304
  have f51_305 : B 51 305 = I 51 305 := congrFun y51 305
  have f51_306 : B 51 306 = I 51 306 := congrFun y51 306
  have f51_309 : B 51 309 = I 51 309 := congrFun y51 309
  exact CPF_g h hC ⟨by omega, by omega, by omega, by omega, by omega, by omega, by omega⟩ (TB5_k tb f8_1 ((yc 9 (by decide)).trans (Fw_row h0.2.2.2.1 9 (by decide) (by decide) (by decide))) ((hh.1.1 55 (by decide) (by decide)).trans (h0.1 55 (by decide)))) (OL5_k ol ((yc 2 (by decide)).trans (Fw_row h0.2.2.2.1 2 (by decide) (by decide) (by decide))) (fun j _ => congrFun y51 _)) (WN5_k wn ((yc 6 (by decide)).trans (Fw_row h0.2.2.2.1 6 (by decide) (by decide) (by decide))) (fun j _ => congrFun y51 _)) (TR5_k tr f0_12 ((yc 46 (by decide)).trans (Fw_row h0.2.2.2.1 46 (by decide) (by decide) (by decide))) ((hh.1.1 67 (by decide) (by decide)).trans (h0.1 67 (by decide)))) (SR_of sr ((yc 43 (by decide)).trans (Fw_row h0.2.2.2.1 43 (by decide) (by decide) (by decide))) ((yc 45 (by decide)).trans (Fw_row h0.2.2.2.1 45 (by decide) (by decide) (by decide)))) ((hh.1.1 52 (by decide) (by decide)).trans (h0.1 52 (by decide))) ((hh.1.1 53 (by decide) (by decide)).trans (h0.1 53 (by decide))) (fun k hk => (yc k (by omega)).trans (h0.1 k (by omega)))
set_option maxHeartbeats 1000000 in
theorem CF_cheap {I A B J JA JB : aI1} {R : aR1} {S : aS1} (h : CPF I R) (hC : CI I R S) (h0 : Kp 0 49 I A ∧ Kp 0 49 J JA ∧ CX A ∧ Fw [18, 19, 20, 21, 22, 23, 24, 25, 26, 27, 28, 29, 30, 31, 32, 33, 34, 35, 36] [] I A ∧ True) (hh : Ch [70, 71] [] A B ∧ Kp 49 73 JA JB ∧ RX B ∧ True) : CPF B R := by
  obtain ⟨⟨q8, q15, q12, q5, q6, q7, q11⟩, tb, ol, wn, tr, sr, hi, di, im⟩ := id h
  have yc : ∀ k, k < 49 ∨ 73 ≤ k → B k = A k := Ch_kp hh.1 (by decide)
  have f8_1 : B 8 1 = I 8 1 := ((congrFun (yc 8 (by decide)) 1).trans (h0.2.2.2.1 8 1 (by decide) (by decide) (by decide)))
  have f0_15 : B 0 15 = I 0 15 := ((congrFun (yc 0 (by decide)) 15).trans (h0.2.2.2.1 0 15 (by decide) (by decide) (by decide)))
  have f0_12 : B 0 12 = I 0 12 := ((congrFun (yc 0 (by decide)) 12).trans (h0.2.2.2.1 0 12 (by decide) (by decide) (by decide)))
  have f1_5 : B 1 5 = I 1 5 := ((congrFun (yc 1 (by decide)) 5).trans (h0.2.2.2.1 1 5 (by decide) (by decide) (by decide)))
  have f1_6 : B 1 6 = I 1 6 := ((congrFun (yc 1 (by decide)) 6).trans (h0.2.2.2.1 1 6 (by decide) (by decide) (by decide)))
  have f1_7 : B 1 7 = I 1 7 := ((congrFun (yc 1 (by decide)) 7).trans (h0.2.2.2.1 1 7 (by decide) (by decide) (by decide)))
  have f1_11 : B 1 11 = I 1 11 := ((congrFun (yc 1 (by decide)) 11).trans (h0.2.2.2.1 1 11 (by decide) (by decide) (by decide)))
  have f49_10 : B 49 10 = I 49 10 := ((hh.1.2 10 (by decide)).trans (congrFun (h0.1 49 (by decide)) 10))
  have f49_6 : B 49 6 = I 49 6 := ((hh.1.2 6 (by decide)).trans (congrFun (h0.1 49 (by decide)) 6))
  have f49_33 : B 49 33 = I 49 33 := ((hh.1.2 33 (by decide)).trans (congrFun (h0.1 49 (by decide)) 33))
  have y51 : B 51 = I 51 := ((hh.1.1 51 (by decide) (by decide)).trans (h0.1 51 (by decide)))
  have f51_304 : B 51 304 = I 51 304 := congrFun y51 304
  have f51_305 : B 51 305 = I 51 305 := congrFun y51 305
  have f51_306 : B 51 306 = I 51 306 := congrFun y51 306
  have f51_309 : B 51 309 = I 51 309 := congrFun y51 309
  exact CPF_g h hC ⟨by omega, by omega, by omega, by omega, by omega, by omega, by omega⟩ (TB5_k tb f8_1 ((yc 9 (by decide)).trans (Fw_row h0.2.2.2.1 9 (by decide) (by decide) (by decide))) ((hh.1.1 55 (by decide) (by decide)).trans (h0.1 55 (by decide)))) (OL5_k ol ((yc 2 (by decide)).trans (Fw_row h0.2.2.2.1 2 (by decide) (by decide) (by decide))) (fun j _ => congrFun y51 _)) (WN5_k wn ((yc 6 (by decide)).trans (Fw_row h0.2.2.2.1 6 (by decide) (by decide) (by decide))) (fun j _ => congrFun y51 _)) (TR5_k tr f0_12 ((yc 46 (by decide)).trans (Fw_row h0.2.2.2.1 46 (by decide) (by decide) (by decide))) ((hh.1.1 67 (by decide) (by decide)).trans (h0.1 67 (by decide)))) (SR_of sr ((yc 43 (by decide)).trans (Fw_row h0.2.2.2.1 43 (by decide) (by decide) (by decide))) ((yc 45 (by decide)).trans (Fw_row h0.2.2.2.1 45 (by decide) (by decide) (by decide)))) ((hh.1.1 52 (by decide) (by decide)).trans (h0.1 52 (by decide))) ((hh.1.1 53 (by decide) (by decide)).trans (h0.1 53 (by decide))) (fun k hk => (yc k (by omega)).trans (h0.1 k (by omega)))
set_option maxHeartbeats 1000000 in
theorem CF_plan {I A B J JA JB : aI1} {R : aR1} {S : aS1} (h : CPF I R) (hC : CI I R S) (h0 : Kp 0 49 I A ∧ Kp 0 49 J JA ∧ CX A ∧ Fw [18, 19, 20, 21, 22, 23, 24, 25, 26, 27, 28, 29, 30, 31, 32, 33, 34, 35, 36] [] I A ∧ True) (hh : Ch [70, 71] [] A B ∧ Kp 49 73 JA JB ∧ RX B ∧ True) : CPF B R := by
  obtain ⟨⟨q8, q15, q12, q5, q6, q7, q11⟩, tb, ol, wn, tr, sr, hi, di, im⟩ := id h
  have yc : ∀ k, k < 49 ∨ 73 ≤ k → B k = A k := Ch_kp hh.1 (by decide)
  have f8_1 : B 8 1 = I 8 1 := ((congrFun (yc 8 (by decide)) 1).trans (h0.2.2.2.1 8 1 (by decide) (by decide) (by decide)))
  have f0_15 : B 0 15 = I 0 15 := ((congrFun (yc 0 (by decide)) 15).trans (h0.2.2.2.1 0 15 (by decide) (by decide) (by decide)))
  have f0_12 : B 0 12 = I 0 12 := ((congrFun (yc 0 (by decide)) 12).trans (h0.2.2.2.1 0 12 (by decide) (by decide) (by decide)))
  have f1_5 : B 1 5 = I 1 5 := ((congrFun (yc 1 (by decide)) 5).trans (h0.2.2.2.1 1 5 (by decide) (by decide) (by decide)))
  have f1_6 : B 1 6 = I 1 6 := ((congrFun (yc 1 (by decide)) 6).trans (h0.2.2.2.1 1 6 (by decide) (by decide) (by decide)))
  have f1_7 : B 1 7 = I 1 7 := ((congrFun (yc 1 (by decide)) 7).trans (h0.2.2.2.1 1 7 (by decide) (by decide) (by decide)))
  have f1_11 : B 1 11 = I 1 11 := ((congrFun (yc 1 (by decide)) 11).trans (h0.2.2.2.1 1 11 (by decide) (by decide) (by decide)))
  have f49_10 : B 49 10 = I 49 10 := ((hh.1.2 10 (by decide)).trans (congrFun (h0.1 49 (by decide)) 10))
  have f49_6 : B 49 6 = I 49 6 := ((hh.1.2 6 (by decide)).trans (congrFun (h0.1 49 (by decide)) 6))
  have f49_33 : B 49 33 = I 49 33 := ((hh.1.2 33 (by decide)).trans (congrFun (h0.1 49 (by decide)) 33))
  have y51 : B 51 = I 51 := ((hh.1.1 51 (by decide) (by decide)).trans (h0.1 51 (by decide)))
  have f51_304 : B 51 304 = I 51 304 := congrFun y51 304
  have f51_305 : B 51 305 = I 51 305 := congrFun y51 305
  have f51_306 : B 51 306 = I 51 306 := congrFun y51 306
  have f51_309 : B 51 309 = I 51 309 := congrFun y51 309
  exact CPF_g h hC ⟨by omega, by omega, by omega, by omega, by omega, by omega, by omega⟩ (TB5_k tb f8_1 ((yc 9 (by decide)).trans (Fw_row h0.2.2.2.1 9 (by decide) (by decide) (by decide))) ((hh.1.1 55 (by decide) (by decide)).trans (h0.1 55 (by decide)))) (OL5_k ol ((yc 2 (by decide)).trans (Fw_row h0.2.2.2.1 2 (by decide) (by decide) (by decide))) (fun j _ => congrFun y51 _)) (WN5_k wn ((yc 6 (by decide)).trans (Fw_row h0.2.2.2.1 6 (by decide) (by decide) (by decide))) (fun j _ => congrFun y51 _)) (TR5_k tr f0_12 ((yc 46 (by decide)).trans (Fw_row h0.2.2.2.1 46 (by decide) (by decide) (by decide))) ((hh.1.1 67 (by decide) (by decide)).trans (h0.1 67 (by decide)))) (SR_of sr ((yc 43 (by decide)).trans (Fw_row h0.2.2.2.1 43 (by decide) (by decide) (by decide))) ((yc 45 (by decide)).trans (Fw_row h0.2.2.2.1 45 (by decide) (by decide) (by decide)))) ((hh.1.1 52 (by decide) (by decide)).trans (h0.1 52 (by decide))) ((hh.1.1 53 (by decide) (by decide)).trans (h0.1 53 (by decide))) (fun k hk => (yc k (by omega)).trans (h0.1 k (by omega)))
set_option maxHeartbeats 1000000 in
theorem CF_night {I A B J JA JB : aI1} {R : aR1} {S : aS1} (h : CPF I R) (hC : CI I R S) (h0 : Kp 0 49 I A ∧ Kp 0 49 J JA ∧ CX A ∧ Fw [18, 19, 20, 21, 22, 23, 24, 25, 26, 27, 28, 29, 30, 31, 32, 33, 34, 35, 36, 47, 48] [(0, 13), (0, 14), (0, 16)] I A ∧ True) (hh : Ch [50, 61, 72] [0, 1, 25, 39, 40, 41] A B ∧ Kp 49 73 JA JB ∧ RX B ∧ True) : CPF B R := by
  obtain ⟨⟨q8, q15, q12, q5, q6, q7, q11⟩, tb, ol, wn, tr, sr, hi, di, im⟩ := id h
  have yc : ∀ k, k < 49 ∨ 73 ≤ k → B k = A k := Ch_kp hh.1 (by decide)
  have f8_1 : B 8 1 = I 8 1 := ((congrFun (yc 8 (by decide)) 1).trans (h0.2.2.2.1 8 1 (by decide) (by decide) (by decide)))
  have f0_15 : B 0 15 = I 0 15 := ((congrFun (yc 0 (by decide)) 15).trans (h0.2.2.2.1 0 15 (by decide) (by decide) (by decide)))
  have f0_12 : B 0 12 = I 0 12 := ((congrFun (yc 0 (by decide)) 12).trans (h0.2.2.2.1 0 12 (by decide) (by decide) (by decide)))
  have f1_5 : B 1 5 = I 1 5 := ((congrFun (yc 1 (by decide)) 5).trans (h0.2.2.2.1 1 5 (by decide) (by decide) (by decide)))
  have f1_6 : B 1 6 = I 1 6 := ((congrFun (yc 1 (by decide)) 6).trans (h0.2.2.2.1 1 6 (by decide) (by decide) (by decide)))
  have f1_7 : B 1 7 = I 1 7 := ((congrFun (yc 1 (by decide)) 7).trans (h0.2.2.2.1 1 7 (by decide) (by decide) (by decide)))
  have f1_11 : B 1 11 = I 1 11 := ((congrFun (yc 1 (by decide)) 11).trans (h0.2.2.2.1 1 11 (by decide) (by decide) (by decide)))
  have f49_10 : B 49 10 = I 49 10 := ((hh.1.2 10 (by decide)).trans (congrFun (h0.1 49 (by decide)) 10))
  have f49_6 : B 49 6 = I 49 6 := ((hh.1.2 6 (by decide)).trans (congrFun (h0.1 49 (by decide)) 6))
  have f49_33 : B 49 33 = I 49 33 := ((hh.1.2 33 (by decide)).trans (congrFun (h0.1 49 (by decide)) 33))
  have y51 : B 51 = I 51 := ((hh.1.1 51 (by decide) (by decide)).trans (h0.1 51 (by decide)))
  have f51_304 : B 51 304 = I 51 304 := congrFun y51 304
  have f51_305 : B 51 305 = I 51 305 := congrFun y51 305
  have f51_306 : B 51 306 = I 51 306 := congrFun y51 306
  have f51_309 : B 51 309 = I 51 309 := congrFun y51 309
  exact CPF_g h hC ⟨by omega, by omega, by omega, by omega, by omega, by omega, by omega⟩ (TB5_k tb f8_1 ((yc 9 (by decide)).trans (Fw_row h0.2.2.2.1 9 (by decide) (by decide) (by decide))) ((hh.1.1 55 (by decide) (by decide)).trans (h0.1 55 (by decide)))) (OL5_k ol ((yc 2 (by decide)).trans (Fw_row h0.2.2.2.1 2 (by decide) (by decide) (by decide))) (fun j _ => congrFun y51 _)) (WN5_k wn ((yc 6 (by decide)).trans (Fw_row h0.2.2.2.1 6 (by decide) (by decide) (by decide))) (fun j _ => congrFun y51 _)) (TR5_k tr f0_12 ((yc 46 (by decide)).trans (Fw_row h0.2.2.2.1 46 (by decide) (by decide) (by decide))) ((hh.1.1 67 (by decide) (by decide)).trans (h0.1 67 (by decide)))) (SR_of sr ((yc 43 (by decide)).trans (Fw_row h0.2.2.2.1 43 (by decide) (by decide) (by decide))) ((yc 45 (by decide)).trans (Fw_row h0.2.2.2.1 45 (by decide) (by decide) (by decide)))) ((hh.1.1 52 (by decide) (by decide)).trans (h0.1 52 (by decide))) ((hh.1.1 53 (by decide) (by decide)).trans (h0.1 53 (by decide))) (fun k hk => (yc k (by omega)).trans (h0.1 k (by omega)))
set_option maxHeartbeats 1000000 in
theorem CF_drawn {I A B J JA JB : aI1} {R : aR1} {S : aS1} (h : CPF I R) (hC : CI I R S) (h0 : Kp 0 49 I A ∧ Kp 0 49 J JA ∧ CX A ∧ Fw [] [] I A ∧ True) (hh : A = B ∧ JA = JB ∧ True) : CPF A R := by
  obtain ⟨⟨q8, q15, q12, q5, q6, q7, q11⟩, tb, ol, wn, tr, sr, hi, di, im⟩ := id h
  obtain ⟨rfl, rfl, hh⟩ := hh
  have f8_1 : A 8 1 = I 8 1 := (h0.2.2.2.1 8 1 (by decide) (by decide) (by decide))
  have f0_15 : A 0 15 = I 0 15 := (h0.2.2.2.1 0 15 (by decide) (by decide) (by decide))
  have f0_12 : A 0 12 = I 0 12 := (h0.2.2.2.1 0 12 (by decide) (by decide) (by decide))
  have f1_5 : A 1 5 = I 1 5 := (h0.2.2.2.1 1 5 (by decide) (by decide) (by decide))
  have f1_6 : A 1 6 = I 1 6 := (h0.2.2.2.1 1 6 (by decide) (by decide) (by decide))
  have f1_7 : A 1 7 = I 1 7 := (h0.2.2.2.1 1 7 (by decide) (by decide) (by decide))
  have f1_11 : A 1 11 = I 1 11 := (h0.2.2.2.1 1 11 (by decide) (by decide) (by decide))
  have f49_10 : A 49 10 = I 49 10 := (congrFun (h0.1 49 (by decide)) 10)
  have f49_6 : A 49 6 = I 49 6 := (congrFun (h0.1 49 (by decide)) 6)
  have f49_33 : A 49 33 = I 49 33 := (congrFun (h0.1 49 (by decide)) 33)
  have y51 : A 51 = I 51 := (h0.1 51 (by decide))
  have f51_304 : A 51 304 = I 51 304 := congrFun y51 304
  have f51_305 : A 51 305 = I 51 305 := congrFun y51 305
  have f51_306 : A 51 306 = I 51 306 := congrFun y51 306
  have f51_309 : A 51 309 = I 51 309 := congrFun y51 309
  exact CPF_g h hC ⟨by omega, by omega, by omega, by omega, by omega, by omega, by omega⟩ (TB5_k tb f8_1 (Fw_row h0.2.2.2.1 9 (by decide) (by decide) (by decide)) (h0.1 55 (by decide))) (OL5_k ol (Fw_row h0.2.2.2.1 2 (by decide) (by decide) (by decide)) (fun j _ => congrFun y51 _)) (WN5_k wn (Fw_row h0.2.2.2.1 6 (by decide) (by decide) (by decide)) (fun j _ => congrFun y51 _)) (TR5_k tr f0_12 (Fw_row h0.2.2.2.1 46 (by decide) (by decide) (by decide)) (h0.1 67 (by decide))) (SR_of sr (Fw_row h0.2.2.2.1 43 (by decide) (by decide) (by decide)) (Fw_row h0.2.2.2.1 45 (by decide) (by decide) (by decide))) (h0.1 52 (by decide)) (h0.1 53 (by decide)) (fun k hk => (h0.1 k (by omega)))
set_option maxHeartbeats 1000000 in
theorem CF_count {I A B J JA JB : aI1} {R : aR1} {S : aS1} (h : CPF I R) (hC : CI I R S) (h0 : Kp 0 49 I A ∧ Kp 0 49 J JA ∧ CX A ∧ Fw [] [] I A ∧ True) (hh : A = B ∧ JA = JB ∧ True) : CPF A R := by
  obtain ⟨⟨q8, q15, q12, q5, q6, q7, q11⟩, tb, ol, wn, tr, sr, hi, di, im⟩ := id h
  obtain ⟨rfl, rfl, hh⟩ := hh
  have f8_1 : A 8 1 = I 8 1 := (h0.2.2.2.1 8 1 (by decide) (by decide) (by decide))
  have f0_15 : A 0 15 = I 0 15 := (h0.2.2.2.1 0 15 (by decide) (by decide) (by decide))
  have f0_12 : A 0 12 = I 0 12 := (h0.2.2.2.1 0 12 (by decide) (by decide) (by decide))
  have f1_5 : A 1 5 = I 1 5 := (h0.2.2.2.1 1 5 (by decide) (by decide) (by decide))
  have f1_6 : A 1 6 = I 1 6 := (h0.2.2.2.1 1 6 (by decide) (by decide) (by decide))
  have f1_7 : A 1 7 = I 1 7 := (h0.2.2.2.1 1 7 (by decide) (by decide) (by decide))
  have f1_11 : A 1 11 = I 1 11 := (h0.2.2.2.1 1 11 (by decide) (by decide) (by decide))
  have f49_10 : A 49 10 = I 49 10 := (congrFun (h0.1 49 (by decide)) 10)
  have f49_6 : A 49 6 = I 49 6 := (congrFun (h0.1 49 (by decide)) 6)
  have f49_33 : A 49 33 = I 49 33 := (congrFun (h0.1 49 (by decide)) 33)
  have y51 : A 51 = I 51 := (h0.1 51 (by decide))
  have f51_304 : A 51 304 = I 51 304 := congrFun y51 304
  have f51_305 : A 51 305 = I 51 305 := congrFun y51 305
  have f51_306 : A 51 306 = I 51 306 := congrFun y51 306
  have f51_309 : A 51 309 = I 51 309 := congrFun y51 309
  exact CPF_g h hC ⟨by omega, by omega, by omega, by omega, by omega, by omega, by omega⟩ (TB5_k tb f8_1 (Fw_row h0.2.2.2.1 9 (by decide) (by decide) (by decide)) (h0.1 55 (by decide))) (OL5_k ol (Fw_row h0.2.2.2.1 2 (by decide) (by decide) (by decide)) (fun j _ => congrFun y51 _)) (WN5_k wn (Fw_row h0.2.2.2.1 6 (by decide) (by decide) (by decide)) (fun j _ => congrFun y51 _)) (TR5_k tr f0_12 (Fw_row h0.2.2.2.1 46 (by decide) (by decide) (by decide)) (h0.1 67 (by decide))) (SR_of sr (Fw_row h0.2.2.2.1 43 (by decide) (by decide) (by decide)) (Fw_row h0.2.2.2.1 45 (by decide) (by decide) (by decide))) (h0.1 52 (by decide)) (h0.1 53 (by decide)) (fun k hk => (h0.1 k (by omega)))
set_option maxHeartbeats 1000000 in
theorem CF_status {I A B J JA JB : aI1} {R : aR1} {S : aS1} (h : CPF I R) (hC : CI I R S) (h0 : Kp 0 49 I A ∧ Kp 0 49 J JA ∧ CX A ∧ Fw [] [] I A ∧ True) (hh : A = B ∧ JA = JB ∧ True) : CPF A R := by
  obtain ⟨⟨q8, q15, q12, q5, q6, q7, q11⟩, tb, ol, wn, tr, sr, hi, di, im⟩ := id h
  obtain ⟨rfl, rfl, hh⟩ := hh
  have f8_1 : A 8 1 = I 8 1 := (h0.2.2.2.1 8 1 (by decide) (by decide) (by decide))
  have f0_15 : A 0 15 = I 0 15 := (h0.2.2.2.1 0 15 (by decide) (by decide) (by decide))
  have f0_12 : A 0 12 = I 0 12 := (h0.2.2.2.1 0 12 (by decide) (by decide) (by decide))
  have f1_5 : A 1 5 = I 1 5 := (h0.2.2.2.1 1 5 (by decide) (by decide) (by decide))
  have f1_6 : A 1 6 = I 1 6 := (h0.2.2.2.1 1 6 (by decide) (by decide) (by decide))
  have f1_7 : A 1 7 = I 1 7 := (h0.2.2.2.1 1 7 (by decide) (by decide) (by decide))
  have f1_11 : A 1 11 = I 1 11 := (h0.2.2.2.1 1 11 (by decide) (by decide) (by decide))
  have f49_10 : A 49 10 = I 49 10 := (congrFun (h0.1 49 (by decide)) 10)
  have f49_6 : A 49 6 = I 49 6 := (congrFun (h0.1 49 (by decide)) 6)
  have f49_33 : A 49 33 = I 49 33 := (congrFun (h0.1 49 (by decide)) 33)
  have y51 : A 51 = I 51 := (h0.1 51 (by decide))
  have f51_304 : A 51 304 = I 51 304 := congrFun y51 304
  have f51_305 : A 51 305 = I 51 305 := congrFun y51 305
  have f51_306 : A 51 306 = I 51 306 := congrFun y51 306
  have f51_309 : A 51 309 = I 51 309 := congrFun y51 309
  exact CPF_g h hC ⟨by omega, by omega, by omega, by omega, by omega, by omega, by omega⟩ (TB5_k tb f8_1 (Fw_row h0.2.2.2.1 9 (by decide) (by decide) (by decide)) (h0.1 55 (by decide))) (OL5_k ol (Fw_row h0.2.2.2.1 2 (by decide) (by decide) (by decide)) (fun j _ => congrFun y51 _)) (WN5_k wn (Fw_row h0.2.2.2.1 6 (by decide) (by decide) (by decide)) (fun j _ => congrFun y51 _)) (TR5_k tr f0_12 (Fw_row h0.2.2.2.1 46 (by decide) (by decide) (by decide)) (h0.1 67 (by decide))) (SR_of sr (Fw_row h0.2.2.2.1 43 (by decide) (by decide) (by decide)) (Fw_row h0.2.2.2.1 45 (by decide) (by decide) (by decide))) (h0.1 52 (by decide)) (h0.1 53 (by decide)) (fun k hk => (h0.1 k (by omega)))
set_option maxHeartbeats 1000000 in
theorem CF_law {I A B J JA JB : aI1} {R R' : aR1} {S S' : aS1} (h : CPF I R) (hC : CI I R S) (h0 : CI A R' S' ∧ (∀ k, 49 ≤ k → k < 73 → A k = I k ∧ JA k = J k ∧ R' k = R k) ∧ Fw [10, 11, 12, 13, 14, 48] [(0, 16), (1, 9), (8, 1)] I A ∧ R' 7 = R 7 ∧ (∀ k, 73 ≤ k → k < S.length → A k = I k ∧ R' k = R k) ∧ A 8 1 = 0) (hh : Ch [50, 51, 57, 58, 59] [0, 1, 10, 11, 15, 16, 17, 18] A B ∧ Kp 49 73 JA JB ∧ RX B ∧ B 49 10 = 0 ∧ (∀ j : Nat, j < 310 → B 51 j = A 51 j)) : CPF B R' := by
  obtain ⟨⟨q8, q15, q12, q5, q6, q7, q11⟩, tb, ol, wn, tr, sr, hi, di, im⟩ := id h
  have yc : ∀ k, k < 49 ∨ 73 ≤ k → B k = A k := Ch_kp hh.1 (by decide)
  have z51 : A 51 = I 51 := (h0.2.1 51 (by decide) (by decide)).1
  have x5 := XI_o hC.2.1.1
  have k51 : ∀ j : Nat, j < 310 → B 51 j = I 51 j := fun j h1 => (hh.2.2.2.2 j h1).trans (congrFun z51 j)
  have c0 := h0.2.2.2.2.2
  have d0 := hh.2.2.2.1
  have g8_1 : B 8 1 = A 8 1 := congrFun (yc 8 (by decide)) 1
  have f0_15 : B 0 15 = I 0 15 := ((congrFun (yc 0 (by decide)) 15).trans (h0.2.2.1 0 15 (by decide) (by decide) (by decide)))
  have f0_12 : B 0 12 = I 0 12 := ((congrFun (yc 0 (by decide)) 12).trans (h0.2.2.1 0 12 (by decide) (by decide) (by decide)))
  have f1_5 : B 1 5 = I 1 5 := ((congrFun (yc 1 (by decide)) 5).trans (h0.2.2.1 1 5 (by decide) (by decide) (by decide)))
  have f1_6 : B 1 6 = I 1 6 := ((congrFun (yc 1 (by decide)) 6).trans (h0.2.2.1 1 6 (by decide) (by decide) (by decide)))
  have f1_7 : B 1 7 = I 1 7 := ((congrFun (yc 1 (by decide)) 7).trans (h0.2.2.1 1 7 (by decide) (by decide) (by decide)))
  have f1_11 : B 1 11 = I 1 11 := ((congrFun (yc 1 (by decide)) 11).trans (h0.2.2.1 1 11 (by decide) (by decide) (by decide)))
  have e49_10 : A 49 10 = I 49 10 := congrFun ((h0.2.1 49 (by decide) (by decide)).1) 10
  have e49_6 : A 49 6 = I 49 6 := congrFun ((h0.2.1 49 (by decide) (by decide)).1) 6
  have f49_6 : B 49 6 = A 49 6 := hh.1.2 6 (by decide)
  have e49_33 : A 49 33 = I 49 33 := congrFun ((h0.2.1 49 (by decide) (by decide)).1) 33
  have f49_33 : B 49 33 = A 49 33 := hh.1.2 33 (by decide)
  have f51_304 : B 51 304 = I 51 304 := k51 304 (by omega)
  have f51_305 : B 51 305 = I 51 305 := k51 305 (by omega)
  have f51_306 : B 51 306 = I 51 306 := k51 306 (by omega)
  have f51_309 : B 51 309 = I 51 309 := k51 309 (by omega)
  obtain ⟨r1, r2, r3⟩ : SC5 B ∧ B 52 = I 52 ∧ B 53 = I 53 := ⟨⟨by omega, by omega, by omega, by omega, by omega, by omega, by omega⟩, ((hh.1.1 52 (by decide) (by decide)).trans (h0.2.1 52 (by decide) (by decide)).1), ((hh.1.1 53 (by decide) (by decide)).trans (h0.2.1 53 (by decide) (by decide)).1)⟩
  refine ⟨r1, TB5_0 (by omega), (OL5_k ol ((yc 2 (by decide)).trans (Fw_row h0.2.2.1 2 (by decide) (by decide) (by decide))) (fun j hj => k51 _ (by omega))), (WN5_k wn ((yc 6 (by decide)).trans (Fw_row h0.2.2.1 6 (by decide) (by decide) (by decide))) (fun j hj => k51 _ (by omega))), (TR5_k tr f0_12 ((yc 46 (by decide)).trans (Fw_row h0.2.2.1 46 (by decide) (by decide) (by decide))) ((hh.1.1 67 (by decide) (by decide)).trans (h0.2.1 67 (by decide) (by decide)).1)), (SR_of sr ((yc 43 (by decide)).trans (Fw_row h0.2.2.1 43 (by decide) (by decide) (by decide))) ((yc 45 (by decide)).trans (Fw_row h0.2.2.1 45 (by decide) (by decide) (by decide)))), fun i hi9 => ?_, fun i j hi9 hj9 c9 p1 p2 => di i j hi9 hj9 c9 (by rw [← h0.2.2.2.1]; exact p1) (by rw [← h0.2.2.2.1]; exact p2), fun i hi9 c9 hq => ?_⟩
  · rw [h0.2.2.2.1, r3]; exact hi i hi9
  · rw [h0.2.2.2.1] at hq
    have hc9 := hC.2.2.2 i hi9 c9 hq
    have h73 := hc9.1
    have hl9 := (List.getElem?_eq_some_iff.mp hc9.2.1.2.2.2.2.2.1).1
    rw [yc c9 (by omega), yc (c9 + 1) (by omega), yc (c9 + 5) (by omega), (h0.2.2.2.2.1 c9 h73 (by omega)).1, (h0.2.2.2.2.1 (c9 + 1) (by omega) (by omega)).1, (h0.2.2.2.2.1 (c9 + 5) (by omega) (by omega)).1, r2]
    exact im i hi9 c9 hq
set_option maxHeartbeats 1000000 in
theorem CF_image {I A B J JA JB : aI1} {R R' : aR1} {S S' : aS1} {a x y : Int} (h : CPF I R) (hC : CI I R S) (h0 : CI A R' S' ∧ (∀ k, 49 ≤ k → k < 73 → A k = I k ∧ JA k = J k ∧ R' k = R k) ∧ Fw [48] [(0, 16)] I A ∧ (¬ (0 ≤ a ∧ a < 2) → x = -1 ∧ RFc I A (-1)) ∧ (¬ (0 ≤ a ∧ a < 2) → R' 7 = R 7 ∧ R' 4 = R 4 ∧ (∀ k, 73 ≤ k → A k = I k ∧ R' k = R k)) ∧ ((0 ≤ a ∧ a < 2) → x = 0 ∧ Fw [] [(0, 16)] I A ∧ A 0 16 = 0 ∧ ∃ c, R' 7 a.toNat = some c ∧ ImC I A R R' c ∧ (∀ j, j ≠ a.toNat → R' 7 j = R 7 j) ∧ (∀ j, j < 2 → j ≠ a.toNat → ∀ c', R 7 j = some c' → (∀ k, k < 6 → A (c' + k) = I (c' + k)) ∧ R' (c' + 3) = R (c' + 3)) ∧ ((R 7 a.toNat = some c ∧ R' 7 = R 7) ∨ c = S.length) ∧ R' 4 = R 4)) (hh : Ch [50, 52, 53] [0, 1] A B ∧ Kp 49 73 JA JB ∧ RX B ∧ (¬ (0 ≤ a ∧ a < 2) → y = -1 ∧ B 53 = A 53 ∧ B 52 = A 52) ∧ ((0 ≤ a ∧ a < 2) → y = 0 ∧ B 53 = up1 (A 53) a.toNat 1 ∧ (∀ j : Nat, j < 5117 → B 52 (5117 * a.toNat + j) = A 51 j) ∧ (∀ b : Nat, (b < 5117 * a.toNat ∨ 5117 * a.toNat + 5117 ≤ b) → B 52 b = A 52 b))) : CPF B R' ∧ x = y := by
  obtain ⟨⟨q8, q15, q12, q5, q6, q7, q11⟩, tb, ol, wn, tr, sr, hi, di, im⟩ := id h
  have yc : ∀ k, k < 49 ∨ 73 ≤ k → B k = A k := Ch_kp hh.1 (by decide)
  have zz : ∀ k, 49 ≤ k → k < 73 → A k = I k := fun k h1 h2 => (h0.2.1 k h1 h2).1
  have w := h0.2.2.1
  have f8_1 : B 8 1 = I 8 1 := (congrFun (yc 8 (by decide)) 1).trans (w 8 1 (by decide) (by decide) (by decide))
  have f0_15 : B 0 15 = I 0 15 := (congrFun (yc 0 (by decide)) 15).trans (w 0 15 (by decide) (by decide) (by decide))
  have f0_12 : B 0 12 = I 0 12 := (congrFun (yc 0 (by decide)) 12).trans (w 0 12 (by decide) (by decide) (by decide))
  have e49 : ∀ j, j ∉ [0, 1] → B 49 j = I 49 j := fun j hj => (hh.1.2 j hj).trans (congrFun (zz 49 (by decide) (by decide)) j)
  have f49_10 := e49 10 (by decide)
  have f49_6 := e49 6 (by decide)
  have f49_33 := e49 33 (by decide)
  have htb : TB5 B := TB5_k tb f8_1 ((yc 9 (by decide)).trans (Fw_row w 9 (by decide) (by decide) (by decide))) ((hh.1.1 55 (by decide) (by decide)).trans (zz 55 (by decide) (by decide)))
  have htr : TR5 B := TR5_k tr f0_12 ((yc 46 (by decide)).trans (Fw_row w 46 (by decide) (by decide) (by decide))) ((hh.1.1 67 (by decide) (by decide)).trans (zz 67 (by decide) (by decide)))
  have hsr : SR B := SR_of sr ((yc 43 (by decide)).trans (Fw_row w 43 (by decide) (by decide) (by decide))) ((yc 45 (by decide)).trans (Fw_row w 45 (by decide) (by decide) (by decide)))
  have same : R' 7 = R 7 → (∀ k, 73 ≤ k → A k = I k) → B 52 = A 52 → B 53 = A 53 → HI5 B R' ∧ DI5 R' ∧ IM5 B R' := fun r7 k73 b52 b53 => by
    refine ⟨fun i hi9 => by rw [r7, b53, zz 53 (by decide) (by decide)]; exact hi i hi9, fun i j hi9 hj9 c9 p1 p2 => di i j hi9 hj9 c9 (by rw [← r7]; exact p1) (by rw [← r7]; exact p2), fun i hi9 c9 hq => ?_⟩
    rw [r7] at hq
    have h73 := (hC.2.2.2 i hi9 c9 hq).1
    rw [yc c9 (by omega), yc (c9 + 1) (by omega), yc (c9 + 5) (by omega), k73 c9 h73, k73 (c9 + 1) (by omega), k73 (c9 + 5) (by omega), b52, zz 52 (by decide) (by decide)]
    exact im i hi9 c9 hq
  have f1_5 : B 1 5 = I 1 5 := (congrFun (yc 1 (by decide)) 5).trans (w 1 5 (by decide) (by decide) (by decide))
  have f1_6 : B 1 6 = I 1 6 := (congrFun (yc 1 (by decide)) 6).trans (w 1 6 (by decide) (by decide) (by decide))
  have f1_7 : B 1 7 = I 1 7 := (congrFun (yc 1 (by decide)) 7).trans (w 1 7 (by decide) (by decide) (by decide))
  have f1_11 : B 1 11 = I 1 11 := (congrFun (yc 1 (by decide)) 11).trans (w 1 11 (by decide) (by decide) (by decide))
  have y51 : B 51 = I 51 := (hh.1.1 51 (by decide) (by decide)).trans (zz 51 (by decide) (by decide))
  have f51_304 := congrFun y51 304
  have f51_305 := congrFun y51 305
  have f51_306 := congrFun y51 306
  have f51_309 := congrFun y51 309
  have hs : SC5 B := ⟨by omega, by omega, by omega, by omega, by omega, by omega, by omega⟩
  have ho : OL5 B := OL5_k ol ((yc 2 (by decide)).trans (Fw_row w 2 (by decide) (by decide) (by decide))) (fun j _ => congrFun y51 _)
  have hw : WN5 B := WN5_k wn ((yc 6 (by decide)).trans (Fw_row w 6 (by decide) (by decide) (by decide))) (fun j _ => congrFun y51 _)
  by_cases hv : 0 ≤ a ∧ a < 2
  · obtain ⟨c1, -, -, c0, r1, ic, r2, r3, r4, -⟩ := h0.2.2.2.2.2 hv
    obtain ⟨d1, d2, d3, d4⟩ := hh.2.2.2.2 hv
    have hlen : ∀ i, i < 2 → ∀ c9, R 7 i = some c9 → c9 < S.length := fun i hi9 c9 hq => (List.getElem?_eq_some_iff.mp (hC.2.2.2 i hi9 c9 hq).2.1.1).1
    have hdi : DI5 R' := fun i j hi9 hj9 c9 p1 p2 => by
      rcases r4 with ⟨-, r4⟩ | r4
      · rw [r4] at p1 p2; exact di i j hi9 hj9 c9 p1 p2
      · by_cases e1 : i = a.toNat
        · by_cases e2 : j = a.toNat
          · omega
          · rw [e1, r1] at p1
            cases p1
            rw [r2 j e2] at p2
            have := hlen j hj9 _ p2
            omega
        · by_cases e2 : j = a.toNat
          · rw [e2, r1] at p2
            cases p2
            rw [r2 i e1] at p1
            have := hlen i hi9 _ p1
            omega
          · rw [r2 i e1] at p1
            rw [r2 j e2] at p2
            exact di i j hi9 hj9 c9 p1 p2
    refine ⟨⟨hs, htb, ho, hw, htr, hsr, fun i hi9 => ?_, hdi, fun i hi9 c9 hq => ?_⟩, by omega⟩
    · rw [d2, zz 53 (by decide) (by decide)]
      by_cases e1 : i = a.toNat
      · subst e1
        rw [up1_s, r1]
        exact ⟨fun q => absurd q (by simp), fun q => absurd q (by decide)⟩
      · rw [up1_n _ _ e1, r2 i e1]
        exact hi i hi9
    · have h73 := (h0.1.2.2.2 i hi9 c9 hq).1
      rw [yc c9 (by omega), yc (c9 + 1) (by omega), yc (c9 + 5) (by omega)]
      by_cases e1 : i = a.toNat
      · subst e1
        rw [r1] at hq
        cases hq
        have z51 := zz 51 (by decide) (by decide)
        refine ⟨?_, ?_, ?_, ?_, fun j hj => ?_, fun j hj => ?_⟩
        · rw [d3 304 (by decide), ic.1 5 (by decide) (by decide), z51]; exact q5
        · rw [d3 305 (by decide), ic.1 6 (by decide) (by decide), z51]; exact q6
        · rw [d3 306 (by decide), ic.1 7 (by decide) (by decide), z51]; exact q7
        · rw [d3 309 (by decide), ic.1 11 (by decide) (by decide), z51]; exact q11
        · rw [d3 (256 + j) (by omega), ic.2.1 j hj, z51]; exact ol j hj
        · rw [d3 (288 + j) (by omega), ic.2.2.2.2.1 j hj, z51]; exact wn j hj
      · rw [r2 i e1] at hq
        obtain ⟨o1, -⟩ := r3 i hi9 e1 c9 hq
        have k0 : A c9 = I c9 := o1 0 (by decide)
        have z52 := zz 52 (by decide) (by decide)
        obtain ⟨m1, m2, m3, m4, m5, m6⟩ := im i hi9 c9 hq
        rw [k0, o1 1 (by decide), o1 5 (by decide)]
        refine ⟨?_, ?_, ?_, ?_, fun j hj => ?_, fun j hj => ?_⟩
        · rw [d4 _ (by omega), z52]; exact m1
        · rw [d4 _ (by omega), z52]; exact m2
        · rw [d4 _ (by omega), z52]; exact m3
        · rw [d4 _ (by omega), z52]; exact m4
        · rw [d4 _ (by omega), z52]; exact m5 j hj
        · rw [d4 _ (by omega), z52]; exact m6 j hj
  · obtain ⟨d1, d2, d3⟩ := hh.2.2.2.1 hv
    have c1 := (h0.2.2.2.1 hv).1
    obtain ⟨r7, -, k73⟩ := h0.2.2.2.2.1 hv
    obtain ⟨t1, t2, t3⟩ := same r7 (fun k hk => (k73 k hk).1) d3 d2
    exact ⟨⟨hs, htb, ho, hw, htr, hsr, t1, t2, t3⟩, by omega⟩
