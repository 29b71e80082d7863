set_option maxHeartbeats 1000000 in
theorem CF_send {I A B J JA JB : aI1} {R : aR1} {S : aS1} (h : CPF I R) (hC : CI I R S) (h0 : Kp 0 49 I A ∧ Kp 0 49 J JA ∧ CX A ∧ Fw [5, 18, 19, 20, 21, 22, 23, 24, 25, 26, 27, 28, 29, 30, 31, 32, 33, 34, 35, 36, 48] [(0, 16), (1, 8), (1, 10)] I A ∧ True) (hh : Ch [50, 51, 61] [0, 1, 25] A B ∧ Kp 49 73 JA JB ∧ RX B ∧ (∀ j : Nat, (j < 264 ∨ 288 ≤ j) → j ≠ 307 → j ≠ 308 → B 51 j = A 51 j)) : CPF B R := by
  obtain ⟨⟨q8, q15, q12, q5, q6, q7, q11⟩, tb, ol, wn, tr, sr, hi, di, im⟩ := id h
  have yc : ∀ k, k < 49 ∨ 73 ≤ k → B k = A k := Ch_kp hh.1 (by decide)
  have z51 : A 51 = I 51 := h0.1 51 (by decide)
  have x5 := XI_o hC.2.1.1
  have k51 : ∀ j : Nat, (j < 264 ∨ 288 ≤ j) → j ≠ 307 → j ≠ 308 → B 51 j = I 51 j := fun j h1 h2 h3 => (hh.2.2.2 j h1 h2 h3).trans (congrFun z51 j)
  have f8_1 : B 8 1 = I 8 1 := ((congrFun (yc 8 (by decide)) 1).trans (h0.2.2.2.1 8 1 (by decide) (by decide) (by decide)))
  have f0_15 : B 0 15 = I 0 15 := ((congrFun (yc 0 (by decide)) 15).trans (h0.2.2.2.1 0 15 (by decide) (by decide) (by decide)))
  have f0_12 : B 0 12 = I 0 12 := ((congrFun (yc 0 (by decide)) 12).trans (h0.2.2.2.1 0 12 (by decide) (by decide) (by decide)))
  have f1_5 : B 1 5 = I 1 5 := ((congrFun (yc 1 (by decide)) 5).trans (h0.2.2.2.1 1 5 (by decide) (by decide) (by decide)))
  have f1_6 : B 1 6 = I 1 6 := ((congrFun (yc 1 (by decide)) 6).trans (h0.2.2.2.1 1 6 (by decide) (by decide) (by decide)))
  have f1_7 : B 1 7 = I 1 7 := ((congrFun (yc 1 (by decide)) 7).trans (h0.2.2.2.1 1 7 (by decide) (by decide) (by decide)))
  have f1_11 : B 1 11 = I 1 11 := ((congrFun (yc 1 (by decide)) 11).trans (h0.2.2.2.1 1 11 (by decide) (by decide) (by decide)))
  have e49_10 : A 49 10 = I 49 10 := congrFun (h0.1 49 (by decide)) 10
  have f49_10 : B 49 10 = A 49 10 := hh.1.2 10 (by decide)
  have e49_6 : A 49 6 = I 49 6 := congrFun (h0.1 49 (by decide)) 6
  have f49_6 : B 49 6 = A 49 6 := hh.1.2 6 (by decide)
  have e49_33 : A 49 33 = I 49 33 := congrFun (h0.1 49 (by decide)) 33
  have f49_33 : B 49 33 = A 49 33 := hh.1.2 33 (by decide)
  have f51_304 : B 51 304 = I 51 304 := k51 304 (by omega) (by omega) (by omega)
  have f51_305 : B 51 305 = I 51 305 := k51 305 (by omega) (by omega) (by omega)
  have f51_306 : B 51 306 = I 51 306 := k51 306 (by omega) (by omega) (by omega)
  have f51_309 : B 51 309 = I 51 309 := k51 309 (by omega) (by omega) (by omega)
  exact CPF_g h hC ⟨by omega, by omega, by omega, by omega, by omega, by omega, by omega⟩ (TB5_k tb f8_1 ((yc 9 (by decide)).trans (Fw_row h0.2.2.2.1 9 (by decide) (by decide) (by decide))) ((hh.1.1 55 (by decide) (by decide)).trans (h0.1 55 (by decide)))) (OL5_k ol ((yc 2 (by decide)).trans (Fw_row h0.2.2.2.1 2 (by decide) (by decide) (by decide))) (fun j hj => k51 _ (by omega) (by omega) (by omega))) (WN5_k wn ((yc 6 (by decide)).trans (Fw_row h0.2.2.2.1 6 (by decide) (by decide) (by decide))) (fun j hj => k51 _ (by omega) (by omega) (by omega))) (TR5_k tr f0_12 ((yc 46 (by decide)).trans (Fw_row h0.2.2.2.1 46 (by decide) (by decide) (by decide))) ((hh.1.1 67 (by decide) (by decide)).trans (h0.1 67 (by decide)))) (SR_of sr ((yc 43 (by decide)).trans (Fw_row h0.2.2.2.1 43 (by decide) (by decide) (by decide))) ((yc 45 (by decide)).trans (Fw_row h0.2.2.2.1 45 (by decide) (by decide) (by decide)))) ((hh.1.1 52 (by decide) (by decide)).trans (h0.1 52 (by decide))) ((hh.1.1 53 (by decide) (by decide)).trans (h0.1 53 (by decide))) (fun k hk => (yc k (by omega)).trans (h0.1 k (by omega)))
set_option maxHeartbeats 1000000 in
theorem CF_learn {I A B J JA JB : aI1} {R : aR1} {S : aS1} (h : CPF I R) (hC : CI I R S) (h0 : Kp 0 49 I A ∧ Kp 0 49 J JA ∧ CX A ∧ Fw [3, 15, 16, 17, 18, 19, 20, 21, 22, 23, 24, 25, 26, 27, 28, 29, 30, 31, 32, 33, 34, 35, 36, 48] [(0, 16)] I A ∧ True) (hh : Ch [50, 51, 60] [0, 1, 19, 20, 21] A B ∧ Kp 49 73 JA JB ∧ RX B ∧ (∀ j : Nat, 256 ≤ j → B 51 j = A 51 j)) : CPF B R := by
  obtain ⟨⟨q8, q15, q12, q5, q6, q7, q11⟩, tb, ol, wn, tr, sr, hi, di, im⟩ := id h
  have yc : ∀ k, k < 49 ∨ 73 ≤ k → B k = A k := Ch_kp hh.1 (by decide)
  have z51 : A 51 = I 51 := h0.1 51 (by decide)
  have x5 := XI_o hC.2.1.1
  have k51 : ∀ j : Nat, 256 ≤ j → B 51 j = I 51 j := fun j h1 => (hh.2.2.2 j h1).trans (congrFun z51 j)
  have f8_1 : B 8 1 = I 8 1 := ((congrFun (yc 8 (by decide)) 1).trans (h0.2.2.2.1 8 1 (by decide) (by decide) (by decide)))
  have f0_15 : B 0 15 = I 0 15 := ((congrFun (yc 0 (by decide)) 15).trans (h0.2.2.2.1 0 15 (by decide) (by decide) (by decide)))
  have f0_12 : B 0 12 = I 0 12 := ((congrFun (yc 0 (by decide)) 12).trans (h0.2.2.2.1 0 12 (by decide) (by decide) (by decide)))
  have f1_5 : B 1 5 = I 1 5 := ((congrFun (yc 1 (by decide)) 5).trans (h0.2.2.2.1 1 5 (by decide) (by decide) (by decide)))
  have f1_6 : B 1 6 = I 1 6 := ((congrFun (yc 1 (by decide)) 6).trans (h0.2.2.2.1 1 6 (by decide) (by decide) (by decide)))
  have f1_7 : B 1 7 = I 1 7 := ((congrFun (yc 1 (by decide)) 7).trans (h0.2.2.2.1 1 7 (by decide) (by decide) (by decide)))
  have f1_11 : B 1 11 = I 1 11 := ((congrFun (yc 1 (by decide)) 11).trans (h0.2.2.2.1 1 11 (by decide) (by decide) (by decide)))
  have e49_10 : A 49 10 = I 49 10 := congrFun (h0.1 49 (by decide)) 10
  have f49_10 : B 49 10 = A 49 10 := hh.1.2 10 (by decide)
  have e49_6 : A 49 6 = I 49 6 := congrFun (h0.1 49 (by decide)) 6
  have f49_6 : B 49 6 = A 49 6 := hh.1.2 6 (by decide)
  have e49_33 : A 49 33 = I 49 33 := congrFun (h0.1 49 (by decide)) 33
  have f49_33 : B 49 33 = A 49 33 := hh.1.2 33 (by decide)
  have f51_304 : B 51 304 = I 51 304 := k51 304 (by omega)
  have f51_305 : B 51 305 = I 51 305 := k51 305 (by omega)
  have f51_306 : B 51 306 = I 51 306 := k51 306 (by omega)
  have f51_309 : B 51 309 = I 51 309 := k51 309 (by omega)
  exact CPF_g h hC ⟨by omega, by omega, by omega, by omega, by omega, by omega, by omega⟩ (TB5_k tb f8_1 ((yc 9 (by decide)).trans (Fw_row h0.2.2.2.1 9 (by decide) (by decide) (by decide))) ((hh.1.1 55 (by decide) (by decide)).trans (h0.1 55 (by decide)))) (OL5_k ol ((yc 2 (by decide)).trans (Fw_row h0.2.2.2.1 2 (by decide) (by decide) (by decide))) (fun j hj => k51 _ (by omega))) (WN5_k wn ((yc 6 (by decide)).trans (Fw_row h0.2.2.2.1 6 (by decide) (by decide) (by decide))) (fun j hj => k51 _ (by omega))) (TR5_k tr f0_12 ((yc 46 (by decide)).trans (Fw_row h0.2.2.2.1 46 (by decide) (by decide) (by decide))) ((hh.1.1 67 (by decide) (by decide)).trans (h0.1 67 (by decide)))) (SR_of sr ((yc 43 (by decide)).trans (Fw_row h0.2.2.2.1 43 (by decide) (by decide) (by decide))) ((yc 45 (by decide)).trans (Fw_row h0.2.2.2.1 45 (by decide) (by decide) (by decide)))) ((hh.1.1 52 (by decide) (by decide)).trans (h0.1 52 (by decide))) ((hh.1.1 53 (by decide) (by decide)).trans (h0.1 53 (by decide))) (fun k hk => (yc k (by omega)).trans (h0.1 k (by omega)))
set_option maxHeartbeats 1000000 in
theorem CF_codes {I A B J JA JB : aI1} {R : aR1} {S : aS1} {a b c x y : Int} (h : CPF I R) (hC : CI I R S) (h0 : Kp 0 49 I A ∧ Kp 0 49 J JA ∧ CX A ∧ Fw [37, 38, 39, 40, 41, 42, 43, 44, 45] [] I A ∧ SR A ∧ (¬ (1 ≤ a ∧ a ≤ 3 ∧ 2 ≤ b ∧ b ≤ 4 ∧ 0 ≤ c ∧ c ≤ 8) → x = -1) ∧ ((1 ≤ a ∧ a ≤ 3 ∧ 2 ≤ b ∧ b ≤ 4 ∧ 0 ≤ c ∧ c ≤ 8) → x = TBX a b c)) (hh : Ch [51, 61, 65, 66] [25, 31] A B ∧ Kp 49 73 JA JB ∧ RX B ∧ (¬ (1 ≤ a ∧ a ≤ 3 ∧ 2 ≤ b ∧ b ≤ 4 ∧ 0 ≤ c ∧ c ≤ 8) → y = -1) ∧ ((1 ≤ a ∧ a ≤ 3 ∧ 2 ≤ b ∧ b ≤ 4 ∧ 0 ≤ c ∧ c ≤ 8) → y = TBX a b c) ∧ (∀ j : Nat, 256 ≤ j → B 51 j = A 51 j)) : CPF B R ∧ x = y := by
  obtain ⟨⟨q8, q15, q12, q5, q6, q7, q11⟩, tb, ol, wn, tr, sr, hi, di, im⟩ := id h
  have yc : ∀ k, k < 49 ∨ 73 ≤ k → B k = A k := Ch_kp hh.1 (by decide)
  have z51 : A 51 = I 51 := h0.1 51 (by decide)
  have x5 := XI_o hC.2.1.1
  have k51 : ∀ j : Nat, 256 ≤ j → B 51 j = I 51 j := fun j h1 => (hh.2.2.2.2.2 j h1).trans (congrFun z51 j)
  have u0 := h0.2.2.2.2.2
  have u1 : _ ∧ _ := ⟨hh.2.2.2.1, hh.2.2.2.2.1⟩
  have f8_1 : B 8 1 = I 8 1 := ((congrFun (yc 8 (by decide)) 1).trans (h0.2.2.2.1 8 1 (by decide) (by decide) (by decide)))
  have f0_15 : B 0 15 = I 0 15 := ((congrFun (yc 0 (by decide)) 15).trans (h0.2.2.2.1 0 15 (by decide) (by decide) (by decide)))
  have f0_12 : B 0 12 = I 0 12 := ((congrFun (yc 0 (by decide)) 12).trans (h0.2.2.2.1 0 12 (by decide) (by decide) (by decide)))
  have f1_5 : B 1 5 = I 1 5 := ((congrFun (yc 1 (by decide)) 5).trans (h0.2.2.2.1 1 5 (by decide) (by decide) (by decide)))
  have f1_6 : B 1 6 = I 1 6 := ((congrFun (yc 1 (by decide)) 6).trans (h0.2.2.2.1 1 6 (by decide) (by decide) (by decide)))
  have f1_7 : B 1 7 = I 1 7 := ((congrFun (yc 1 (by decide)) 7).trans (h0.2.2.2.1 1 7 (by decide) (by decide) (by decide)))
  have f1_11 : B 1 11 = I 1 11 := ((congrFun (yc 1 (by decide)) 11).trans (h0.2.2.2.1 1 11 (by decide) (by decide) (by decide)))
  have e49_10 : A 49 10 = I 49 10 := congrFun (h0.1 49 (by decide)) 10
  have f49_10 : B 49 10 = A 49 10 := hh.1.2 10 (by decide)
  have e49_6 : A 49 6 = I 49 6 := congrFun (h0.1 49 (by decide)) 6
  have f49_6 : B 49 6 = A 49 6 := hh.1.2 6 (by decide)
  have e49_33 : A 49 33 = I 49 33 := congrFun (h0.1 49 (by decide)) 33
  have f49_33 : B 49 33 = A 49 33 := hh.1.2 33 (by decide)
  have f51_304 : B 51 304 = I 51 304 := k51 304 (by omega)
  have f51_305 : B 51 305 = I 51 305 := k51 305 (by omega)
  have f51_306 : B 51 306 = I 51 306 := k51 306 (by omega)
  have f51_309 : B 51 309 = I 51 309 := k51 309 (by omega)
  exact ⟨CPF_g h hC ⟨by omega, by omega, by omega, by omega, by omega, by omega, by omega⟩ (TB5_k tb f8_1 ((yc 9 (by decide)).trans (Fw_row h0.2.2.2.1 9 (by decide) (by decide) (by decide))) ((hh.1.1 55 (by decide) (by decide)).trans (h0.1 55 (by decide)))) (OL5_k ol ((yc 2 (by decide)).trans (Fw_row h0.2.2.2.1 2 (by decide) (by decide) (by decide))) (fun j hj => k51 _ (by omega))) (WN5_k wn ((yc 6 (by decide)).trans (Fw_row h0.2.2.2.1 6 (by decide) (by decide) (by decide))) (fun j hj => k51 _ (by omega))) (TR5_k tr f0_12 ((yc 46 (by decide)).trans (Fw_row h0.2.2.2.1 46 (by decide) (by decide) (by decide))) ((hh.1.1 67 (by decide) (by decide)).trans (h0.1 67 (by decide)))) (SR_of h0.2.2.2.2.1 (yc 43 (by decide)) (yc 45 (by decide))) ((hh.1.1 52 (by decide) (by decide)).trans (h0.1 52 (by decide))) ((hh.1.1 53 (by decide) (by decide)).trans (h0.1 53 (by decide))) (fun k hk => (yc k (by omega)).trans (h0.1 k (by omega))), by omega⟩
set_option maxHeartbeats 1000000 in
theorem CF_make {I A B J JA JB : aI1} {R : aR1} {S : aS1} {a b c x y : Int} (h : CPF I R) (hC : CI I R S) (h0 : Kp 0 49 I A ∧ Kp 0 49 J JA ∧ CX A ∧ Fw [3, 18, 19, 20, 21, 22, 23, 24, 25, 26, 27, 28, 29, 30, 31, 32, 33, 34, 35, 36, 37, 38, 39, 40, 41, 42, 43, 44, 45, 48] [(0, 16)] I A ∧ SR A ∧ (¬ (1 ≤ a ∧ a ≤ 3 ∧ 2 ≤ b ∧ b ≤ 4 ∧ 0 ≤ c ∧ c ≤ 8) → x = -1) ∧ ((1 ≤ a ∧ a ≤ 3 ∧ 2 ≤ b ∧ b ≤ 4 ∧ 0 ≤ c ∧ c ≤ 8) → ¬ (a = I 1 5 ∧ b = I 1 6 ∧ ¬ TBX a b c = 0) → x = -3) ∧ ((1 ≤ a ∧ a ≤ 3 ∧ 2 ≤ b ∧ b ≤ 4 ∧ 0 ≤ c ∧ c ≤ 8) → (a = I 1 5 ∧ b = I 1 6 ∧ ¬ TBX a b c = 0) → x = 0)) (hh : Ch [50, 51, 61, 65, 66] [0, 1, 25, 31] A B ∧ Kp 49 73 JA JB ∧ RX B ∧ B 51 304 = A 51 304 ∧ B 51 305 = A 51 305 ∧ B 51 309 = A 51 309 ∧ (¬ (1 ≤ a ∧ a ≤ 3 ∧ 2 ≤ b ∧ b ≤ 4 ∧ 0 ≤ c ∧ c ≤ 8) → y = -1) ∧ ((1 ≤ a ∧ a ≤ 3 ∧ 2 ≤ b ∧ b ≤ 4 ∧ 0 ≤ c ∧ c ≤ 8) → ¬ (a = A 51 304 ∧ b = A 51 305 ∧ ¬ TBX a b c = 0) → y = -3) ∧ ((1 ≤ a ∧ a ≤ 3 ∧ 2 ≤ b ∧ b ≤ 4 ∧ 0 ≤ c ∧ c ≤ 8) → (a = A 51 304 ∧ b = A 51 305 ∧ ¬ TBX a b c = 0) → y = 0) ∧ (∀ j : Nat, 256 ≤ j → B 51 j = A 51 j)) : CPF B R ∧ x = y := by
  obtain ⟨⟨q8, q15, q12, q5, q6, q7, q11⟩, tb, ol, wn, tr, sr, hi, di, im⟩ := id h
  have yc : ∀ k, k < 49 ∨ 73 ≤ k → B k = A k := Ch_kp hh.1 (by decide)
  have z51 : A 51 = I 51 := h0.1 51 (by decide)
  have x5 := XI_o hC.2.1.1
  have e304 : A 51 304 = I 1 5 := by rw [z51, ← q5]
  have e305 : A 51 305 = I 1 6 := by rw [z51, ← q6]
  have k51 : ∀ j : Nat, 256 ≤ j → B 51 j = I 51 j := fun j h1 => (hh.2.2.2.2.2.2.2.2.2 j h1).trans (congrFun z51 j)
  have u0 := h0.2.2.2.2.2
  have u1 : _ ∧ _ ∧ _ := ⟨hh.2.2.2.2.2.2.1, hh.2.2.2.2.2.2.2.1, hh.2.2.2.2.2.2.2.2.1⟩
  rw [e304, e305] at u1
  have f8_1 : B 8 1 = I 8 1 := ((congrFun (yc 8 (by decide)) 1).trans (h0.2.2.2.1 8 1 (by decide) (by decide) (by decide)))
  have f0_15 : B 0 15 = I 0 15 := ((congrFun (yc 0 (by decide)) 15).trans (h0.2.2.2.1 0 15 (by decide) (by decide) (by decide)))
  have f0_12 : B 0 12 = I 0 12 := ((congrFun (yc 0 (by decide)) 12).trans (h0.2.2.2.1 0 12 (by decide) (by decide) (by decide)))
  have f1_5 : B 1 5 = I 1 5 := ((congrFun (yc 1 (by decide)) 5).trans (h0.2.2.2.1 1 5 (by decide) (by decide) (by decide)))
  have f1_6 : B 1 6 = I 1 6 := ((congrFun (yc 1 (by decide)) 6).trans (h0.2.2.2.1 1 6 (by decide) (by decide) (by decide)))
  have f1_7 : B 1 7 = I 1 7 := ((congrFun (yc 1 (by decide)) 7).trans (h0.2.2.2.1 1 7 (by decide) (by decide) (by decide)))
  have f1_11 : B 1 11 = I 1 11 := ((congrFun (yc 1 (by decide)) 11).trans (h0.2.2.2.1 1 11 (by decide) (by decide) (by decide)))
  have e49_10 : A 49 10 = I 49 10 := congrFun (h0.1 49 (by decide)) 10
  have f49_10 : B 49 10 = A 49 10 := hh.1.2 10 (by decide)
  have e49_6 : A 49 6 = I 49 6 := congrFun (h0.1 49 (by decide)) 6
  have f49_6 : B 49 6 = A 49 6 := hh.1.2 6 (by decide)
  have e49_33 : A 49 33 = I 49 33 := congrFun (h0.1 49 (by decide)) 33
  have f49_33 : B 49 33 = A 49 33 := hh.1.2 33 (by decide)
  have f51_304 : B 51 304 = I 51 304 := k51 304 (by omega)
  have f51_305 : B 51 305 = I 51 305 := k51 305 (by omega)
  have f51_306 : B 51 306 = I 51 306 := k51 306 (by omega)
  have f51_309 : B 51 309 = I 51 309 := k51 309 (by omega)
  exact ⟨CPF_g h hC ⟨by omega, by omega, by omega, by omega, by omega, by omega, by omega⟩ (TB5_k tb f8_1 ((yc 9 (by decide)).trans (Fw_row h0.2.2.2.1 9 (by decide) (by decide) (by decide))) ((hh.1.1 55 (by decide) (by decide)).trans (h0.1 55 (by decide)))) (OL5_k ol ((yc 2 (by decide)).trans (Fw_row h0.2.2.2.1 2 (by decide) (by decide) (by decide))) (fun j hj => k51 _ (by omega))) (WN5_k wn ((yc 6 (by decide)).trans (Fw_row h0.2.2.2.1 6 (by decide) (by decide) (by decide))) (fun j hj => k51 _ (by omega))) (TR5_k tr f0_12 ((yc 46 (by decide)).trans (Fw_row h0.2.2.2.1 46 (by decide) (by decide) (by decide))) ((hh.1.1 67 (by decide) (by decide)).trans (h0.1 67 (by decide)))) (SR_of h0.2.2.2.2.1 (yc 43 (by decide)) (yc 45 (by decide))) ((hh.1.1 52 (by decide) (by decide)).trans (h0.1 52 (by decide))) ((hh.1.1 53 (by decide) (by decide)).trans (h0.1 53 (by decide))) (fun k hk => (yc k (by omega)).trans (h0.1 k (by omega))), by
    by_cases hv9 : (1 ≤ a ∧ a ≤ 3 ∧ 2 ≤ b ∧ b ≤ 4 ∧ 0 ≤ c ∧ c ≤ 8)
    · by_cases hw9 : (a = I 1 5 ∧ b = I 1 6 ∧ ¬ TBX a b c = 0)
      · exact (u0.2.2 hv9 hw9).trans (u1.2.2 hv9 hw9).symm
      · exact (u0.2.1 hv9 hw9).trans (u1.2.1 hv9 hw9).symm
    · exact (u0.1 hv9).trans (u1.1 hv9).symm⟩
set_option maxHeartbeats 1000000 in
theorem CF_unwant {I A B J JA JB : aI1} {R : aR1} {S : aS1} {x y : Int} (h : CPF I R) (hC : CI I R S) (h0 : Kp 0 49 I A ∧ Kp 0 49 J JA ∧ CX A ∧ Fw [33] [(1, 11)] I A ∧ x = I 1 11 ∧ A 1 11 = 0) (hh : Ch [51] [1] A B ∧ Kp 49 73 JA JB ∧ RX B ∧ y = A 51 309 ∧ B 51 = up1 (A 51) 309 0) : CPF B R ∧ x = y := by
  obtain ⟨⟨q8, q15, q12, q5, q6, q7, q11⟩, tb, ol, wn, tr, sr, hi, di, im⟩ := id h
  have yc : ∀ k, k < 49 ∨ 73 ≤ k → B k = A k := Ch_kp hh.1 (by decide)
  have z51 : A 51 = I 51 := h0.1 51 (by decide)
  have x5 := XI_o hC.2.1.1
  obtain ⟨c1, c2⟩ := h0.2.2.2.2
  obtain ⟨d1, d2⟩ := hh.2.2.2
  have z304 : A 51 304 = I 51 304 := congrFun z51 304
  have z305 : A 51 305 = I 51 305 := congrFun z51 305
  have z306 : A 51 306 = I 51 306 := congrFun z51 306
  have z309 : A 51 309 = I 51 309 := congrFun z51 309
  have f8_1 : B 8 1 = I 8 1 := ((congrFun (yc 8 (by decide)) 1).trans (h0.2.2.2.1 8 1 (by decide) (by decide) (by decide)))
  have f0_15 : B 0 15 = I 0 15 := ((congrFun (yc 0 (by decide)) 15).trans (h0.2.2.2.1 0 15 (by decide) (by decide) (by decide)))
  have f0_12 : B 0 12 = I 0 12 := ((congrFun (yc 0 (by decide)) 12).trans (h0.2.2.2.1 0 12 (by decide) (by decide) (by decide)))
  have f1_5 : B 1 5 = I 1 5 := ((congrFun (yc 1 (by decide)) 5).trans (h0.2.2.2.1 1 5 (by decide) (by decide) (by decide)))
  have f1_6 : B 1 6 = I 1 6 := ((congrFun (yc 1 (by decide)) 6).trans (h0.2.2.2.1 1 6 (by decide) (by decide) (by decide)))
  have f1_7 : B 1 7 = I 1 7 := ((congrFun (yc 1 (by decide)) 7).trans (h0.2.2.2.1 1 7 (by decide) (by decide) (by decide)))
  have g1_11 : B 1 11 = A 1 11 := congrFun (yc 1 (by decide)) 11
  have e49_10 : A 49 10 = I 49 10 := congrFun (h0.1 49 (by decide)) 10
  have f49_10 : B 49 10 = A 49 10 := hh.1.2 10 (by decide)
  have e49_6 : A 49 6 = I 49 6 := congrFun (h0.1 49 (by decide)) 6
  have f49_6 : B 49 6 = A 49 6 := hh.1.2 6 (by decide)
  have e49_33 : A 49 33 = I 49 33 := congrFun (h0.1 49 (by decide)) 33
  have f49_33 : B 49 33 = A 49 33 := hh.1.2 33 (by decide)
  have v304 : B 51 304 = I 51 304 := by rw [d2]; exact (up1_n _ _ (by omega)).trans (congrFun z51 304)
  have v305 : B 51 305 = I 51 305 := by rw [d2]; exact (up1_n _ _ (by omega)).trans (congrFun z51 305)
  have v306 : B 51 306 = I 51 306 := by rw [d2]; exact (up1_n _ _ (by omega)).trans (congrFun z51 306)
  have v309 : B 51 309 = 0 := by rw [d2, up1_s]
  exact ⟨CPF_g h hC ⟨by omega, by omega, by omega, by omega, by omega, by omega, by omega⟩ (TB5_k tb f8_1 ((yc 9 (by decide)).trans (Fw_row h0.2.2.2.1 9 (by decide) (by decide) (by decide))) ((hh.1.1 55 (by decide) (by decide)).trans (h0.1 55 (by decide)))) (OL5_k ol ((yc 2 (by decide)).trans (Fw_row h0.2.2.2.1 2 (by decide) (by decide) (by decide))) (fun j hj => by rw [d2]; exact (up1_n _ _ (by omega)).trans (congrFun z51 _))) (WN5_k wn ((yc 6 (by decide)).trans (Fw_row h0.2.2.2.1 6 (by decide) (by decide) (by decide))) (fun j hj => by rw [d2]; exact (up1_n _ _ (by omega)).trans (congrFun z51 _))) (TR5_k tr f0_12 ((yc 46 (by decide)).trans (Fw_row h0.2.2.2.1 46 (by decide) (by decide) (by decide))) ((hh.1.1 67 (by decide) (by decide)).trans (h0.1 67 (by decide)))) (SR_of sr ((yc 43 (by decide)).trans (Fw_row h0.2.2.2.1 43 (by decide) (by decide) (by decide))) ((yc 45 (by decide)).trans (Fw_row h0.2.2.2.1 45 (by decide) (by decide) (by decide)))) ((hh.1.1 52 (by decide) (by decide)).trans (h0.1 52 (by decide))) ((hh.1.1 53 (by decide) (by decide)).trans (h0.1 53 (by decide))) (fun k hk => (yc k (by omega)).trans (h0.1 k (by omega))), by omega⟩
set_option maxHeartbeats 1000000 in
theorem CF_want {I A B J JA JB : aI1} {R : aR1} {S : aS1} {a x y : Int} (h : CPF I R) (hC : CI I R S) (h0 : Kp 0 49 I A ∧ Kp 0 49 J JA ∧ CX A ∧ Fw [6, 33, 48] [(0, 16), (1, 11)] I A ∧ (¬ (0 ≤ a ∧ a < I 1 6) → x = -1 ∧ RFc I A (-1)) ∧ ((0 ≤ a ∧ a < I 1 6) → (16 ≤ I 1 11 → x = -5 ∧ RFc I A (-5)) ∧ (I 1 11 < 16 → x = I 1 11 + 1 ∧ Fw [6, 33] [(0, 16), (1, 11)] I A ∧ A 0 16 = 0 ∧ A 1 11 = I 1 11 + 1 ∧ A 6 = up1 (I 6) (I 1 11).toNat a))) (hh : Ch [50, 51] [0, 1] A B ∧ Kp 49 73 JA JB ∧ RX B ∧ (¬ (0 ≤ a ∧ a < A 51 305) → y = -1 ∧ B 51 = A 51) ∧ ((0 ≤ a ∧ a < A 51 305) → (16 ≤ A 51 309 → y = -5 ∧ B 51 = A 51) ∧ (A 51 309 < 16 → y = A 51 309 + 1 ∧ B 51 = up1 (up1 (A 51) (288 + (A 51 309).toNat) a) 309 (A 51 309 + 1)))) : CPF B R ∧ x = y := by
  obtain ⟨⟨q8, q15, q12, q5, q6, q7, q11⟩, tb, ol, wn, tr, sr, hi, di, im⟩ := id h
  have yc : ∀ k, k < 49 ∨ 73 ≤ k → B k = A k := Ch_kp hh.1 (by decide)
  have z51 : A 51 = I 51 := h0.1 51 (by decide)
  have x5 := XI_o hC.2.1.1
  have e305 : A 51 305 = I 1 6 := by rw [z51, ← q6]
  have e309 : A 51 309 = I 1 11 := by rw [z51, ← q11]
  have hd0 := hh.2.2.2
  rw [e305, e309] at hd0
  by_cases hv : (0 ≤ a ∧ a < I 1 6)
  · by_cases hw : 16 ≤ I 1 11
    · have hb := (h0.2.2.2.2.2 hv).1 hw
      have hd := (hd0.2 hv).1 hw
      have f8_1 : B 8 1 = I 8 1 := ((congrFun (yc 8 (by decide)) 1).trans (hb.2.1 8 1 (by decide) (by decide) (by decide)))
      have f0_15 : B 0 15 = I 0 15 := ((congrFun (yc 0 (by decide)) 15).trans (hb.2.1 0 15 (by decide) (by decide) (by decide)))
      have f0_12 : B 0 12 = I 0 12 := ((congrFun (yc 0 (by decide)) 12).trans (hb.2.1 0 12 (by decide) (by decide) (by decide)))
      have f1_5 : B 1 5 = I 1 5 := ((congrFun (yc 1 (by decide)) 5).trans (hb.2.1 1 5 (by decide) (by decide) (by decide)))
      have f1_6 : B 1 6 = I 1 6 := ((congrFun (yc 1 (by decide)) 6).trans (hb.2.1 1 6 (by decide) (by decide) (by decide)))
      have f1_7 : B 1 7 = I 1 7 := ((congrFun (yc 1 (by decide)) 7).trans (hb.2.1 1 7 (by decide) (by decide) (by decide)))
      have f1_11 : B 1 11 = I 1 11 := ((congrFun (yc 1 (by decide)) 11).trans (hb.2.1 1 11 (by decide) (by decide) (by decide)))
      have e49_10 : A 49 10 = I 49 10 := congrFun (h0.1 49 (by decide)) 10
      have f49_10 : B 49 10 = A 49 10 := hh.1.2 10 (by decide)
      have e49_6 : A 49 6 = I 49 6 := congrFun (h0.1 49 (by decide)) 6
      have f49_6 : B 49 6 = A 49 6 := hh.1.2 6 (by decide)
      have e49_33 : A 49 33 = I 49 33 := congrFun (h0.1 49 (by decide)) 33
      have f49_33 : B 49 33 = A 49 33 := hh.1.2 33 (by decide)
      have y51 : B 51 = I 51 := hd.2.trans z51
      have f51_304 : B 51 304 = I 51 304 := congrFun y51 304
      have f51_305 : B 51 305 = I 51 305 := congrFun y51 305
      have f51_306 : B 51 306 = I 51 306 := congrFun y51 306
      have f51_309 : B 51 309 = I 51 309 := congrFun y51 309
      exact ⟨CPF_g h hC ⟨by omega, by omega, by omega, by omega, by omega, by omega, by omega⟩ (TB5_k tb f8_1 ((yc 9 (by decide)).trans (Fw_row hb.2.1 9 (by decide) (by decide) (by decide))) ((hh.1.1 55 (by decide) (by decide)).trans (h0.1 55 (by decide)))) (OL5_k ol ((yc 2 (by decide)).trans (Fw_row hb.2.1 2 (by decide) (by decide) (by decide))) (fun j _ => congrFun y51 _)) (WN5_k wn ((yc 6 (by decide)).trans (Fw_row hb.2.1 6 (by decide) (by decide) (by decide))) (fun j _ => congrFun y51 _)) (TR5_k tr f0_12 ((yc 46 (by decide)).trans (Fw_row hb.2.1 46 (by decide) (by decide) (by decide))) ((hh.1.1 67 (by decide) (by decide)).trans (h0.1 67 (by decide)))) (SR_of sr ((yc 43 (by decide)).trans (Fw_row hb.2.1 43 (by decide) (by decide) (by decide))) ((yc 45 (by decide)).trans (Fw_row hb.2.1 45 (by decide) (by decide) (by decide)))) ((hh.1.1 52 (by decide) (by decide)).trans (h0.1 52 (by decide))) ((hh.1.1 53 (by decide) (by decide)).trans (h0.1 53 (by decide))) (fun k hk => (yc k (by omega)).trans (h0.1 k (by omega))), by omega⟩
    · obtain ⟨c1, -, -, c2, c3⟩ := (h0.2.2.2.2.2 hv).2 (by omega)
      obtain ⟨d1, d2⟩ := (hd0.2 hv).2 (by omega)
      have f8_1 : B 8 1 = I 8 1 := ((congrFun (yc 8 (by decide)) 1).trans (h0.2.2.2.1 8 1 (by decide) (by decide) (by decide)))
      have f0_15 : B 0 15 = I 0 15 := ((congrFun (yc 0 (by decide)) 15).trans (h0.2.2.2.1 0 15 (by decide) (by decide) (by decide)))
      have f0_12 : B 0 12 = I 0 12 := ((congrFun (yc 0 (by decide)) 12).trans (h0.2.2.2.1 0 12 (by decide) (by decide) (by decide)))
      have f1_5 : B 1 5 = I 1 5 := ((congrFun (yc 1 (by decide)) 5).trans (h0.2.2.2.1 1 5 (by decide) (by decide) (by decide)))
      have f1_6 : B 1 6 = I 1 6 := ((congrFun (yc 1 (by decide)) 6).trans (h0.2.2.2.1 1 6 (by decide) (by decide) (by decide)))
      have f1_7 : B 1 7 = I 1 7 := ((congrFun (yc 1 (by decide)) 7).trans (h0.2.2.2.1 1 7 (by decide) (by decide) (by decide)))
      have g1_11 : B 1 11 = A 1 11 := congrFun (yc 1 (by decide)) 11
      have e49_10 : A 49 10 = I 49 10 := congrFun (h0.1 49 (by decide)) 10
      have f49_10 : B 49 10 = A 49 10 := hh.1.2 10 (by decide)
      have e49_6 : A 49 6 = I 49 6 := congrFun (h0.1 49 (by decide)) 6
      have f49_6 : B 49 6 = A 49 6 := hh.1.2 6 (by decide)
      have e49_33 : A 49 33 = I 49 33 := congrFun (h0.1 49 (by decide)) 33
      have f49_33 : B 49 33 = A 49 33 := hh.1.2 33 (by decide)
      have v304 : B 51 304 = I 51 304 := by rw [d2]; exact (up1_n _ _ (by omega)).trans ((up1_n _ _ (by omega)).trans (congrFun z51 304))
      have v305 : B 51 305 = I 51 305 := by rw [d2]; exact (up1_n _ _ (by omega)).trans ((up1_n _ _ (by omega)).trans (congrFun z51 305))
      have v306 : B 51 306 = I 51 306 := by rw [d2]; exact (up1_n _ _ (by omega)).trans ((up1_n _ _ (by omega)).trans (congrFun z51 306))
      have v309 : B 51 309 = I 1 11 + 1 := by rw [d2, up1_s]
      exact ⟨CPF_g h hC ⟨by omega, by omega, by omega, by omega, by omega, by omega, by omega⟩ (TB5_k tb f8_1 ((yc 9 (by decide)).trans (Fw_row h0.2.2.2.1 9 (by decide) (by decide) (by decide))) ((hh.1.1 55 (by decide) (by decide)).trans (h0.1 55 (by decide)))) (OL5_k ol ((yc 2 (by decide)).trans (Fw_row h0.2.2.2.1 2 (by decide) (by decide) (by decide))) (fun j hj => by rw [d2]; exact (up1_n _ _ (by omega)).trans ((up1_n _ _ (by omega)).trans (congrFun z51 _)))) (fun j hj => by
        rw [yc 6 (by decide), c3, d2, z51, show up1 (up1 (I 51) (288 + (I 1 11).toNat) a) 309 (I 1 11 + 1) (288 + j) = up1 (I 51) (288 + (I 1 11).toNat) a (288 + j) from up1_n _ _ (by omega)]
        by_cases e9 : j = (I 1 11).toNat
        · rw [e9, up1_s, up1_s]
        · rw [up1_n _ _ e9, up1_n _ _ (by omega)]; exact wn j hj) (TR5_k tr f0_12 ((yc 46 (by decide)).trans (Fw_row h0.2.2.2.1 46 (by decide) (by decide) (by decide))) ((hh.1.1 67 (by decide) (by decide)).trans (h0.1 67 (by decide)))) (SR_of sr ((yc 43 (by decide)).trans (Fw_row h0.2.2.2.1 43 (by decide) (by decide) (by decide))) ((yc 45 (by decide)).trans (Fw_row h0.2.2.2.1 45 (by decide) (by decide) (by decide)))) ((hh.1.1 52 (by decide) (by decide)).trans (h0.1 52 (by decide))) ((hh.1.1 53 (by decide) (by decide)).trans (h0.1 53 (by decide))) (fun k hk => (yc k (by omega)).trans (h0.1 k (by omega))), by omega⟩
  · have hb := h0.2.2.2.2.1 hv
    have hd := hd0.1 hv
    have f8_1 : B 8 1 = I 8 1 := ((congrFun (yc 8 (by decide)) 1).trans (hb.2.1 8 1 (by decide) (by decide) (by decide)))
    have f0_15 : B 0 15 = I 0 15 := ((congrFun (yc 0 (by decide)) 15).trans (hb.2.1 0 15 (by decide) (by decide) (by decide)))
    have f0_12 : B 0 12 = I 0 12 := ((congrFun (yc 0 (by decide)) 12).trans (hb.2.1 0 12 (by decide) (by decide) (by decide)))
    have f1_5 : B 1 5 = I 1 5 := ((congrFun (yc 1 (by decide)) 5).trans (hb.2.1 1 5 (by decide) (by decide) (by decide)))
    have f1_6 : B 1 6 = I 1 6 := ((congrFun (yc 1 (by decide)) 6).trans (hb.2.1 1 6 (by decide) (by decide) (by decide)))
    have f1_7 : B 1 7 = I 1 7 := ((congrFun (yc 1 (by decide)) 7).trans (hb.2.1 1 7 (by decide) (by decide) (by decide)))
    have f1_11 : B 1 11 = I 1 11 := ((congrFun (yc 1 (by decide)) 11).trans (hb.2.1 1 11 (by decide) (by decide) (by decide)))
    have e49_10 : A 49 10 = I 49 10 := congrFun (h0.1 49 (by decide)) 10
    have f49_10 : B 49 10 = A 49 10 := hh.1.2 10 (by decide)
    have e49_6 : A 49 6 = I 49 6 := congrFun (h0.1 49 (by decide)) 6
    have f49_6 : B 49 6 = A 49 6 := hh.1.2 6 (by decide)
    have e49_33 : A 49 33 = I 49 33 := congrFun (h0.1 49 (by decide)) 33
    have f49_33 : B 49 33 = A 49 33 := hh.1.2 33 (by decide)
    have y51 : B 51 = I 51 := hd.2.trans z51
    have f51_304 : B 51 304 = I 51 304 := congrFun y51 304
    have f51_305 : B 51 305 = I 51 305 := congrFun y51 305
    have f51_306 : B 51 306 = I 51 306 := congrFun y51 306
    have f51_309 : B 51 309 = I 51 309 := congrFun y51 309
    exact ⟨CPF_g h hC ⟨by omega, by omega, by omega, by omega, by omega, by omega, by omega⟩ (TB5_k tb f8_1 ((yc 9 (by decide)).trans (Fw_row hb.2.1 9 (by decide) (by decide) (by decide))) ((hh.1.1 55 (by decide) (by decide)).trans (h0.1 55 (by decide)))) (OL5_k ol ((yc 2 (by decide)).trans (Fw_row hb.2.1 2 (by decide) (by decide) (by decide))) (fun j _ => congrFun y51 _)) (WN5_k wn ((yc 6 (by decide)).trans (Fw_row hb.2.1 6 (by decide) (by decide) (by decide))) (fun j _ => congrFun y51 _)) (TR5_k tr f0_12 ((yc 46 (by decide)).trans (Fw_row hb.2.1 46 (by decide) (by decide) (by decide))) ((hh.1.1 67 (by decide) (by decide)).trans (h0.1 67 (by decide)))) (SR_of sr ((yc 43 (by decide)).trans (Fw_row hb.2.1 43 (by decide) (by decide) (by decide))) ((yc 45 (by decide)).trans (Fw_row hb.2.1 45 (by decide) (by decide) (by decide)))) ((hh.1.1 52 (by decide) (by decide)).trans (h0.1 52 (by decide))) ((hh.1.1 53 (by decide) (by decide)).trans (h0.1 53 (by decide))) (fun k hk => (yc k (by omega)).trans (h0.1 k (by omega))), by omega⟩
set_option maxHeartbeats 1000000 in
theorem CF_end {I A B J JA JB : aI1} {R : aR1} {S : aS1} {a x y : Int} (h : CPF I R) (hC : CI I R S) (h0 : Kp 0 49 I A ∧ Kp 0 49 J JA ∧ CX A ∧ Fw [] [(8, 1)] I A ∧ ((0 ≤ a ∧ a ≤ I 8 1) → x = a ∧ A 8 1 = a) ∧ (¬ (0 ≤ a ∧ a ≤ I 8 1) → x = -1 ∧ A 8 1 = I 8 1)) (hh : Ch [] [10] A B ∧ Kp 49 73 JA JB ∧ RX B ∧ ((0 ≤ a ∧ a ≤ A 49 10) → y = a ∧ B 49 10 = a) ∧ (¬ (0 ≤ a ∧ a ≤ A 49 10) → y = -1 ∧ B 49 10 = A 49 10)) : CPF B R ∧ x = y := by
  obtain ⟨⟨q8, q15, q12, q5, q6, q7, q11⟩, tb, ol, wn, tr, sr, hi, di, im⟩ := id h
  have yc : ∀ k, k < 49 ∨ 73 ≤ k → B k = A k := Ch_kp hh.1 (by decide)
  have z51 : A 51 = I 51 := h0.1 51 (by decide)
  have x5 := XI_o hC.2.1.1
  have u0 := h0.2.2.2.2
  have u1 := hh.2.2.2
  have g8_1 : B 8 1 = A 8 1 := congrFun (yc 8 (by decide)) 1
  have f0_15 : B 0 15 = I 0 15 := ((congrFun (yc 0 (by decide)) 15).trans (h0.2.2.2.1 0 15 (by decide) (by decide) (by decide)))
  have f0_12 : B 0 12 = I 0 12 := ((congrFun (yc 0 (by decide)) 12).trans (h0.2.2.2.1 0 12 (by decide) (by decide) (by decide)))
  have f1_5 : B 1 5 = I 1 5 := ((congrFun (yc 1 (by decide)) 5).trans (h0.2.2.2.1 1 5 (by decide) (by decide) (by decide)))
  have f1_6 : B 1 6 = I 1 6 := ((congrFun (yc 1 (by decide)) 6).trans (h0.2.2.2.1 1 6 (by decide) (by decide) (by decide)))
  have f1_7 : B 1 7 = I 1 7 := ((congrFun (yc 1 (by decide)) 7).trans (h0.2.2.2.1 1 7 (by decide) (by decide) (by decide)))
  have f1_11 : B 1 11 = I 1 11 := ((congrFun (yc 1 (by decide)) 11).trans (h0.2.2.2.1 1 11 (by decide) (by decide) (by decide)))
  have e49_10 : A 49 10 = I 49 10 := congrFun (h0.1 49 (by decide)) 10
  have e49_6 : A 49 6 = I 49 6 := congrFun (h0.1 49 (by decide)) 6
  have f49_6 : B 49 6 = A 49 6 := hh.1.2 6 (by decide)
  have e49_33 : A 49 33 = I 49 33 := congrFun (h0.1 49 (by decide)) 33
  have f49_33 : B 49 33 = A 49 33 := hh.1.2 33 (by decide)
  have y51 : B 51 = I 51 := (hh.1.1 51 (by decide) (by decide)).trans z51
  have f51_304 : B 51 304 = I 51 304 := congrFun y51 304
  have f51_305 : B 51 305 = I 51 305 := congrFun y51 305
  have f51_306 : B 51 306 = I 51 306 := congrFun y51 306
  have f51_309 : B 51 309 = I 51 309 := congrFun y51 309
  exact ⟨CPF_g h hC ⟨by omega, by omega, by omega, by omega, by omega, by omega, by omega⟩ (fun j hj => by rw [((yc 9 (by decide)).trans (Fw_row h0.2.2.2.1 9 (by decide) (by decide) (by decide))), ((hh.1.1 55 (by decide) (by decide)).trans (h0.1 55 (by decide)))]; exact tb j (by omega)) (OL5_k ol ((yc 2 (by decide)).trans (Fw_row h0.2.2.2.1 2 (by decide) (by decide) (by decide))) (fun j _ => congrFun y51 _)) (WN5_k wn ((yc 6 (by decide)).trans (Fw_row h0.2.2.2.1 6 (by decide) (by decide) (by decide))) (fun j _ => congrFun y51 _)) (TR5_k tr f0_12 ((yc 46 (by decide)).trans (Fw_row h0.2.2.2.1 46 (by decide) (by decide) (by decide))) ((hh.1.1 67 (by decide) (by decide)).trans (h0.1 67 (by decide)))) (SR_of sr ((yc 43 (by decide)).trans (Fw_row h0.2.2.2.1 43 (by decide) (by decide) (by decide))) ((yc 45 (by decide)).trans (Fw_row h0.2.2.2.1 45 (by decide) (by decide) (by decide)))) ((hh.1.1 52 (by decide) (by decide)).trans (h0.1 52 (by decide))) ((hh.1.1 53 (by decide) (by decide)).trans (h0.1 53 (by decide))) (fun k hk => (yc k (by omega)).trans (h0.1 k (by omega))), by omega⟩
set_option maxHeartbeats 1000000 in
theorem CF_feed {I A B J JA JB : aI1} {R : aR1} {S : aS1} {a b c e f x y : Int} (h : CPF I R) (hC : CI I R S) (h0 : Kp 0 49 I A ∧ Kp 0 49 J JA ∧ CX A ∧ Fw [8, 9] [] I A ∧ (I 8 1 ≤ 380 → x = I 8 1 + 20 ∧ A 8 1 = I 8 1 + 20 ∧ FDc (I 9) (A 9) (I 8 1) a b c e f) ∧ (¬ I 8 1 ≤ 380 → x = -1 ∧ A 8 1 = I 8 1 ∧ A 9 = I 9)) (hh : Ch [55, 56] [10] A B ∧ Kp 49 73 JA JB ∧ RX B ∧ (A 49 10 ≤ 380 → y = A 49 10 + 20 ∧ B 49 10 = A 49 10 + 20 ∧ FDr (A 55) (B 55) (A 49 10) a b c e f) ∧ (¬ A 49 10 ≤ 380 → y = -1 ∧ B 49 10 = A 49 10 ∧ B 55 = A 55)) : CPF B R ∧ x = y := by
  obtain ⟨⟨q8, q15, q12, q5, q6, q7, q11⟩, tb, ol, wn, tr, sr, hi, di, im⟩ := id h
  have yc : ∀ k, k < 49 ∨ 73 ≤ k → B k = A k := Ch_kp hh.1 (by decide)
  have z51 : A 51 = I 51 := h0.1 51 (by decide)
  have x5 := XI_o hC.2.1.1
  have e10 : A 49 10 = I 8 1 := (congrFun (h0.1 49 (by decide)) 10).trans q8.symm
  have hd0 := hh.2.2.2
  rw [e10] at hd0
  by_cases hv : I 8 1 ≤ 380
  · obtain ⟨c1, c2, c3⟩ := h0.2.2.2.2.1 hv
    obtain ⟨d1, d2, d3⟩ := hd0.1 hv
    have g8_1 : B 8 1 = A 8 1 := congrFun (yc 8 (by decide)) 1
    have f0_15 : B 0 15 = I 0 15 := ((congrFun (yc 0 (by decide)) 15).trans (h0.2.2.2.1 0 15 (by decide) (by decide) (by decide)))
    have f0_12 : B 0 12 = I 0 12 := ((congrFun (yc 0 (by decide)) 12).trans (h0.2.2.2.1 0 12 (by decide) (by decide) (by decide)))
    have f1_5 : B 1 5 = I 1 5 := ((congrFun (yc 1 (by decide)) 5).trans (h0.2.2.2.1 1 5 (by decide) (by decide) (by decide)))
    have f1_6 : B 1 6 = I 1 6 := ((congrFun (yc 1 (by decide)) 6).trans (h0.2.2.2.1 1 6 (by decide) (by decide) (by decide)))
    have f1_7 : B 1 7 = I 1 7 := ((congrFun (yc 1 (by decide)) 7).trans (h0.2.2.2.1 1 7 (by decide) (by decide) (by decide)))
    have f1_11 : B 1 11 = I 1 11 := ((congrFun (yc 1 (by decide)) 11).trans (h0.2.2.2.1 1 11 (by decide) (by decide) (by decide)))
    have e49_10 : A 49 10 = I 49 10 := congrFun (h0.1 49 (by decide)) 10
    have e49_6 : A 49 6 = I 49 6 := congrFun (h0.1 49 (by decide)) 6
    have f49_6 : B 49 6 = A 49 6 := hh.1.2 6 (by decide)
    have e49_33 : A 49 33 = I 49 33 := congrFun (h0.1 49 (by decide)) 33
    have f49_33 : B 49 33 = A 49 33 := hh.1.2 33 (by decide)
    have y51 : B 51 = I 51 := (hh.1.1 51 (by decide) (by decide)).trans z51
    have f51_304 : B 51 304 = I 51 304 := congrFun y51 304
    have f51_305 : B 51 305 = I 51 305 := congrFun y51 305
    have f51_306 : B 51 306 = I 51 306 := congrFun y51 306
    have f51_309 : B 51 309 = I 51 309 := congrFun y51 309
    exact ⟨CPF_g h hC ⟨by omega, by omega, by omega, by omega, by omega, by omega, by omega⟩ (fun j hj => by
        rw [yc 9 (by decide)]
        by_cases hj9 : (j : Int) < I 8 1
        · rw [c3.1 j hj9, d3.1 j (by omega), h0.1 55 (by decide)]; exact tb j hj9
        · have hk := c3.2 (j - (I 8 1).toNat) (by omega)
          have hd := d3.2 (j - (I 8 1).toNat) (by omega)
          have hb := by8_e (sel5 a b c e f ((j - (I 8 1).toNat) / 4)) (q := (j - (I 8 1).toNat) % 4) (by omega)
          rw [show (I 8 1).toNat + (j - (I 8 1).toNat) = j by omega] at hk hd
          rw [hk, hd]
          exact hb) (OL5_k ol ((yc 2 (by decide)).trans (Fw_row h0.2.2.2.1 2 (by decide) (by decide) (by decide))) (fun j _ => congrFun y51 _)) (WN5_k wn ((yc 6 (by decide)).trans (Fw_row h0.2.2.2.1 6 (by decide) (by decide) (by decide))) (fun j _ => congrFun y51 _)) (TR5_k tr f0_12 ((yc 46 (by decide)).trans (Fw_row h0.2.2.2.1 46 (by decide) (by decide) (by decide))) ((hh.1.1 67 (by decide) (by decide)).trans (h0.1 67 (by decide)))) (SR_of sr ((yc 43 (by decide)).trans (Fw_row h0.2.2.2.1 43 (by decide) (by decide) (by decide))) ((yc 45 (by decide)).trans (Fw_row h0.2.2.2.1 45 (by decide) (by decide) (by decide)))) ((hh.1.1 52 (by decide) (by decide)).trans (h0.1 52 (by decide))) ((hh.1.1 53 (by decide) (by decide)).trans (h0.1 53 (by decide))) (fun k hk => (yc k (by omega)).trans (h0.1 k (by omega))), by omega⟩
  · obtain ⟨c1, c2, c3⟩ := h0.2.2.2.2.2 hv
    obtain ⟨d1, d2, d3⟩ := hd0.2 hv
    have g8_1 : B 8 1 = A 8 1 := congrFun (yc 8 (by decide)) 1
    have f0_15 : B 0 15 = I 0 15 := ((congrFun (yc 0 (by decide)) 15).trans (h0.2.2.2.1 0 15 (by decide) (by decide) (by decide)))
    have f0_12 : B 0 12 = I 0 12 := ((congrFun (yc 0 (by decide)) 12).trans (h0.2.2.2.1 0 12 (by decide) (by decide) (by decide)))
    have f1_5 : B 1 5 = I 1 5 := ((congrFun (yc 1 (by decide)) 5).trans (h0.2.2.2.1 1 5 (by decide) (by decide) (by decide)))
    have f1_6 : B 1 6 = I 1 6 := ((congrFun (yc 1 (by decide)) 6).trans (h0.2.2.2.1 1 6 (by decide) (by decide) (by decide)))
    have f1_7 : B 1 7 = I 1 7 := ((congrFun (yc 1 (by decide)) 7).trans (h0.2.2.2.1 1 7 (by decide) (by decide) (by decide)))
    have f1_11 : B 1 11 = I 1 11 := ((congrFun (yc 1 (by decide)) 11).trans (h0.2.2.2.1 1 11 (by decide) (by decide) (by decide)))
    have e49_10 : A 49 10 = I 49 10 := congrFun (h0.1 49 (by decide)) 10
    have e49_6 : A 49 6 = I 49 6 := congrFun (h0.1 49 (by decide)) 6
    have f49_6 : B 49 6 = A 49 6 := hh.1.2 6 (by decide)
    have e49_33 : A 49 33 = I 49 33 := congrFun (h0.1 49 (by decide)) 33
    have f49_33 : B 49 33 = A 49 33 := hh.1.2 33 (by decide)
    have y51 : B 51 = I 51 := (hh.1.1 51 (by decide) (by decide)).trans z51
    have f51_304 : B 51 304 = I 51 304 := congrFun y51 304
    have f51_305 : B 51 305 = I 51 305 := congrFun y51 305
    have f51_306 : B 51 306 = I 51 306 := congrFun y51 306
    have f51_309 : B 51 309 = I 51 309 := congrFun y51 309
    exact ⟨CPF_g h hC ⟨by omega, by omega, by omega, by omega, by omega, by omega, by omega⟩ (TB5_k tb (by omega) ((yc 9 (by decide)).trans c3) (d3.trans (h0.1 55 (by decide)))) (OL5_k ol ((yc 2 (by decide)).trans (Fw_row h0.2.2.2.1 2 (by decide) (by decide) (by decide))) (fun j _ => congrFun y51 _)) (WN5_k wn ((yc 6 (by decide)).trans (Fw_row h0.2.2.2.1 6 (by decide) (by decide) (by decide))) (fun j _ => congrFun y51 _)) (TR5_k tr f0_12 ((yc 46 (by decide)).trans (Fw_row h0.2.2.2.1 46 (by decide) (by decide) (by decide))) ((hh.1.1 67 (by decide) (by decide)).trans (h0.1 67 (by decide)))) (SR_of sr ((yc 43 (by decide)).trans (Fw_row h0.2.2.2.1 43 (by decide) (by decide) (by decide))) ((yc 45 (by decide)).trans (Fw_row h0.2.2.2.1 45 (by decide) (by decide) (by decide)))) ((hh.1.1 52 (by decide) (by decide)).trans (h0.1 52 (by decide))) ((hh.1.1 53 (by decide) (by decide)).trans (h0.1 53 (by decide))) (fun k hk => (yc k (by omega)).trans (h0.1 k (by omega))), by omega⟩
set_option maxHeartbeats 1000000 in
theorem CF_trail {I A B J JA JB : aI1} {R : aR1} {S : aS1} {x y : Int} (h : CPF I R) (hC : CI I R S) (h0 : Kp 0 49 I A ∧ Kp 0 49 J JA ∧ CX A ∧ Fw [46, 48] [(0, 12), (0, 16), (8, 1)] I A ∧ (I 8 1 = 0 → x = -6 ∧ RFc I A (-6)) ∧ (¬ I 8 1 = 0 → x = min (I 8 1) 30 ∧ Fw [46] [(0, 12), (0, 16), (8, 1)] I A ∧ A 0 16 = 0 ∧ A 0 12 = min (I 8 1) 30 ∧ A 8 1 = 0 ∧ (∀ j : Nat, (j : Int) < min (I 8 1) 30 → A 46 j = I 9 j))) (hh : Ch [50, 67] [0, 1, 10, 33] A B ∧ Kp 49 73 JA JB ∧ RX B ∧ B 49 10 = 0 ∧ (A 49 10 = 0 → y = -6 ∧ B 49 33 = A 49 33 ∧ B 67 = A 67) ∧ (¬ A 49 10 = 0 → y = min (A 49 10) 30 ∧ B 49 33 = min (A 49 10) 30 ∧ (∀ j : Nat, (j : Int) < min (A 49 10) 30 → B 67 j = i_and (A 55 j) 255))) : CPF B R ∧ x = y := by
  obtain ⟨⟨q8, q15, q12, q5, q6, q7, q11⟩, tb, ol, wn, tr, sr, hi, di, im⟩ := id h
  have yc : ∀ k, k < 49 ∨ 73 ≤ k → B k = A k := Ch_kp hh.1 (by decide)
  have z51 : A 51 = I 51 := h0.1 51 (by decide)
  have x5 := XI_o hC.2.1.1
  have e10 : A 49 10 = I 8 1 := (congrFun (h0.1 49 (by decide)) 10).trans q8.symm
  have hd0 := hh.2.2.2
  rw [e10] at hd0
  by_cases hv : ¬ I 8 1 = 0
  · obtain ⟨c1, -, -, c2, c3, c4⟩ := h0.2.2.2.2.2 hv
    obtain ⟨d1, d2, d3⟩ := hd0.2.2 hv
    have d0 := hd0.1
    have g8_1 : B 8 1 = A 8 1 := congrFun (yc 8 (by decide)) 1
    have f0_15 : B 0 15 = I 0 15 := ((congrFun (yc 0 (by decide)) 15).trans (h0.2.2.2.1 0 15 (by decide) (by decide) (by decide)))
    have g0_12 : B 0 12 = A 0 12 := congrFun (yc 0 (by decide)) 12
    have f1_5 : B 1 5 = I 1 5 := ((congrFun (yc 1 (by decide)) 5).trans (h0.2.2.2.1 1 5 (by decide) (by decide) (by decide)))
    have f1_6 : B 1 6 = I 1 6 := ((congrFun (yc 1 (by decide)) 6).trans (h0.2.2.2.1 1 6 (by decide) (by decide) (by decide)))
    have f1_7 : B 1 7 = I 1 7 := ((congrFun (yc 1 (by decide)) 7).trans (h0.2.2.2.1 1 7 (by decide) (by decide) (by decide)))
    have f1_11 : B 1 11 = I 1 11 := ((congrFun (yc 1 (by decide)) 11).trans (h0.2.2.2.1 1 11 (by decide) (by decide) (by decide)))
    have e49_10 : A 49 10 = I 49 10 := congrFun (h0.1 49 (by decide)) 10
    have e49_6 : A 49 6 = I 49 6 := congrFun (h0.1 49 (by decide)) 6
    have f49_6 : B 49 6 = A 49 6 := hh.1.2 6 (by decide)
    have e49_33 : A 49 33 = I 49 33 := congrFun (h0.1 49 (by decide)) 33
    have y51 : B 51 = I 51 := (hh.1.1 51 (by decide) (by decide)).trans z51
    have f51_304 : B 51 304 = I 51 304 := congrFun y51 304
    have f51_305 : B 51 305 = I 51 305 := congrFun y51 305
    have f51_306 : B 51 306 = I 51 306 := congrFun y51 306
    have f51_309 : B 51 309 = I 51 309 := congrFun y51 309
    exact ⟨CPF_g h hC ⟨by omega, by omega, by omega, by omega, by omega, by omega, by omega⟩ (TB5_0 (by omega)) (OL5_k ol ((yc 2 (by decide)).trans (Fw_row h0.2.2.2.1 2 (by decide) (by decide) (by decide))) (fun j _ => congrFun y51 _)) (WN5_k wn ((yc 6 (by decide)).trans (Fw_row h0.2.2.2.1 6 (by decide) (by decide) (by decide))) (fun j _ => congrFun y51 _)) (fun j hj => by rw [yc 46 (by decide), c4 j (by omega), d3 j (by omega), iand255, h0.1 55 (by decide)]; exact (tb j (by omega)).1) (SR_of sr ((yc 43 (by decide)).trans (Fw_row h0.2.2.2.1 43 (by decide) (by decide) (by decide))) ((yc 45 (by decide)).trans (Fw_row h0.2.2.2.1 45 (by decide) (by decide) (by decide)))) ((hh.1.1 52 (by decide) (by decide)).trans (h0.1 52 (by decide))) ((hh.1.1 53 (by decide) (by decide)).trans (h0.1 53 (by decide))) (fun k hk => (yc k (by omega)).trans (h0.1 k (by omega))), by omega⟩
  · have hv : I 8 1 = 0 := by omega
    have hb := h0.2.2.2.2.1 hv
    obtain ⟨d1, d2, d3⟩ := hd0.2.1 hv
    have d0 := hd0.1
    have f8_1 : B 8 1 = I 8 1 := ((congrFun (yc 8 (by decide)) 1).trans (hb.2.1 8 1 (by decide) (by decide) (by decide)))
    have f0_15 : B 0 15 = I 0 15 := ((congrFun (yc 0 (by decide)) 15).trans (hb.2.1 0 15 (by decide) (by decide) (by decide)))
    have f0_12 : B 0 12 = I 0 12 := ((congrFun (yc 0 (by decide)) 12).trans (hb.2.1 0 12 (by decide) (by decide) (by decide)))
    have f1_5 : B 1 5 = I 1 5 := ((congrFun (yc 1 (by decide)) 5).trans (hb.2.1 1 5 (by decide) (by decide) (by decide)))
    have f1_6 : B 1 6 = I 1 6 := ((congrFun (yc 1 (by decide)) 6).trans (hb.2.1 1 6 (by decide) (by decide) (by decide)))
    have f1_7 : B 1 7 = I 1 7 := ((congrFun (yc 1 (by decide)) 7).trans (hb.2.1 1 7 (by decide) (by decide) (by decide)))
    have f1_11 : B 1 11 = I 1 11 := ((congrFun (yc 1 (by decide)) 11).trans (hb.2.1 1 11 (by decide) (by decide) (by decide)))
    have e49_10 : A 49 10 = I 49 10 := congrFun (h0.1 49 (by decide)) 10
    have e49_6 : A 49 6 = I 49 6 := congrFun (h0.1 49 (by decide)) 6
    have f49_6 : B 49 6 = A 49 6 := hh.1.2 6 (by decide)
    have e49_33 : A 49 33 = I 49 33 := congrFun (h0.1 49 (by decide)) 33
    have y51 : B 51 = I 51 := (hh.1.1 51 (by decide) (by decide)).trans z51
    have f51_304 : B 51 304 = I 51 304 := congrFun y51 304
    have f51_305 : B 51 305 = I 51 305 := congrFun y51 305
    have f51_306 : B 51 306 = I 51 306 := congrFun y51 306
    have f51_309 : B 51 309 = I 51 309 := congrFun y51 309
    exact ⟨CPF_g h hC ⟨by omega, by omega, by omega, by omega, by omega, by omega, by omega⟩ (TB5_0 (by omega)) (OL5_k ol ((yc 2 (by decide)).trans (Fw_row hb.2.1 2 (by decide) (by decide) (by decide))) (fun j _ => congrFun y51 _)) (WN5_k wn ((yc 6 (by decide)).trans (Fw_row hb.2.1 6 (by decide) (by decide) (by decide))) (fun j _ => congrFun y51 _)) (TR5_k tr f0_12 ((yc 46 (by decide)).trans (Fw_row hb.2.1 46 (by decide) (by decide) (by decide))) (d3.trans (h0.1 67 (by decide)))) (SR_of sr ((yc 43 (by decide)).trans (Fw_row hb.2.1 43 (by decide) (by decide) (by decide))) ((yc 45 (by decide)).trans (Fw_row hb.2.1 45 (by decide) (by decide) (by decide)))) ((hh.1.1 52 (by decide) (by decide)).trans (h0.1 52 (by decide))) ((hh.1.1 53 (by decide) (by decide)).trans (h0.1 53 (by decide))) (fun k hk => (yc k (by omega)).trans (h0.1 k (by omega))), by omega⟩
