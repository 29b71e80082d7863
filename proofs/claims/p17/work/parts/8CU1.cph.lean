section
def CD7 (I : aI1) (R : aR1) : Prop := (∀ s, s < 256 → I 3 s = I 51 s) ∧ SRF I ∧ ∀ i, i < 2 → ∀ c, R 7 i = some c → ∀ s, s < 256 → I (c + 2) s = I 52 (5117 * i + s)
def CPH (I : aI1) (R : aR1) (S : aS1) : Prop := CPG I R S ∧ CD7 I R
theorem CD7_g {I B : aI1} {R R' : aR1} {S : aS1} (h : CD7 I R) (hC : CI I R S) (c3 : ∀ s, s < 256 → B 3 s = B 51 s) (sf : SRF B) (r7 : R' 7 = R 7) (r52 : B 52 = I 52) (hk : ∀ k, 73 ≤ k → k < S.length → B k = I k) : CD7 B R' := by
  refine ⟨c3, sf, fun i hi c hc => ?_⟩
  rw [r7] at hc
  obtain ⟨k1, k2, -⟩ := coast_lt (hC.2.2.2 i hi c hc)
  rw [hk (c + 2) (by omega) (by omega), r52]
  exact h.2.2 i hi c hc
set_option maxHeartbeats 1000000 in
theorem CH_oil {I A B J JA JB : aI1} {R : aR1} {S : aS1} {a b x y : Int} (hP : CPG I R S) (h : CD7 I R) (hC : CI I R S) (h0 : Kp 0 49 I A ∧ Kp 0 49 J JA ∧ CX A ∧ Fw [2, 18, 33, 48] [(0, 16)] I A ∧ (¬ (0 ≤ a ∧ a < I 1 5 ∧ 0 ≤ b ∧ b ≤ 99) → x = -1 ∧ RFc I A (-1)) ∧ ((0 ≤ a ∧ a < I 1 5 ∧ 0 ≤ b ∧ b ≤ 99) → x = I 2 a.toNat ∧ Fw [2, 18, 33] [(0, 16)] I A ∧ A 0 16 = 0 ∧ A 2 = up1 (I 2) a.toNat b)) (hh : Ch [50, 51] [0, 1] A B ∧ Kp 49 73 JA JB ∧ RX B ∧ (¬ (0 ≤ a ∧ a < A 51 304 ∧ 0 ≤ b ∧ b ≤ 99) → y = -1 ∧ B 51 = A 51) ∧ ((0 ≤ a ∧ a < A 51 304 ∧ 0 ≤ b ∧ b ≤ 99) → y = A 51 (256 + a.toNat) ∧ B 51 = up1 (A 51) (256 + a.toNat) b)) : CD7 B R := by
  obtain ⟨⟨⟨q8, q15, q12, q5, q6, q7, q11⟩, tb, -⟩, ⟨⟨q9, q0⟩, -⟩⟩ := id hP
  have yc : ∀ k, k < 49 ∨ 73 ≤ k → B k = A k := Ch_kp hh.1 (by decide)
  have z51 : A 51 = I 51 := h0.1 51 (by decide)
  have x5 := XI_o hC.2.1.1
  have b3 : B 3 = I 3 := ((yc 3 (by decide)).trans (Fw_row h0.2.2.2.1 3 (by decide) (by decide) (by decide)))
  have k51 : ∀ j : Nat, j < 256 → B 51 j = A 51 j := fun j hj => by
    by_cases hv : 0 ≤ a ∧ a < A 51 304 ∧ 0 ≤ b ∧ b ≤ 99
    · rw [(hh.2.2.2.2 hv).2, up1_n _ _ (by omega)]
    · rw [(hh.2.2.2.1 hv).2]
  exact CD7_g h hC (fun s hs => by rw [b3, k51 s hs, z51]; exact h.1 s hs) (SRF_of h.2.1 ((yc 43 (by decide)).trans (Fw_row h0.2.2.2.1 43 (by decide) (by decide) (by decide))) ((yc 44 (by decide)).trans (Fw_row h0.2.2.2.1 44 (by decide) (by decide) (by decide))) ((yc 45 (by decide)).trans (Fw_row h0.2.2.2.1 45 (by decide) (by decide) (by decide)))) rfl ((hh.1.1 52 (by decide) (by decide)).trans (h0.1 52 (by decide))) (fun k h1 _ => (yc k (by omega)).trans (h0.1 k (by omega)))
set_option maxHeartbeats 1000000 in
theorem CH_broken {I A B J JA JB : aI1} {R : aR1} {S : aS1} {a b x y : Int} (hP : CPG I R S) (h : CD7 I R) (hC : CI I R S) (h0 : Kp 0 49 I A ∧ Kp 0 49 J JA ∧ CX A ∧ Fw [18, 19, 20, 21, 22, 23, 24, 25, 26, 27, 28, 29, 30, 31, 32, 33, 34, 35, 36, 48] [(0, 16), (1, 7)] I A ∧ (¬ (0 ≤ a ∧ a < I 1 5 ∧ 0 ≤ b ∧ b ≤ 1) → x = -1 ∧ RFc I A (-1)) ∧ ((0 ≤ a ∧ a < I 1 5 ∧ 0 ≤ b ∧ b ≤ 1) → x = i_and (i_shr (I 1 7) a) 1 ∧ Fw [18, 19, 20, 21, 22, 23, 24, 25, 26, 27, 28, 29, 30, 31, 32, 33, 34, 35, 36] [(0, 16), (1, 7)] I A ∧ A 0 16 = 0 ∧ A 1 7 = i_or (i_and (I 1 7) (i_xor (i_shl 1 a) (-1))) (i_shl b a))) (hh : Ch [50, 51] [0, 1] A B ∧ Kp 49 73 JA JB ∧ RX B ∧ (¬ (0 ≤ a ∧ a < A 51 304 ∧ 0 ≤ b ∧ b ≤ 1) → y = -1 ∧ B 51 = A 51) ∧ ((0 ≤ a ∧ a < A 51 304 ∧ 0 ≤ b ∧ b ≤ 1) → y = i_and (i_shr (A 51 306) a) 1 ∧ B 51 = up1 (A 51) 306 (i_or (i_and (A 51 306) (i_xor (i_shl 1 a) (-1))) (i_shl b a)))) : CD7 B R := by
  obtain ⟨⟨⟨q8, q15, q12, q5, q6, q7, q11⟩, tb, -⟩, ⟨⟨q9, q0⟩, -⟩⟩ := id hP
  have yc : ∀ k, k < 49 ∨ 73 ≤ k → B k = A k := Ch_kp hh.1 (by decide)
  have z51 : A 51 = I 51 := h0.1 51 (by decide)
  have x5 := XI_o hC.2.1.1
  have b3 : B 3 = I 3 := ((yc 3 (by decide)).trans (Fw_row h0.2.2.2.1 3 (by decide) (by decide) (by decide)))
  have k51 : ∀ j : Nat, j < 256 → B 51 j = A 51 j := fun j hj => by
    by_cases hv : 0 ≤ a ∧ a < A 51 304 ∧ 0 ≤ b ∧ b ≤ 1
    · rw [(hh.2.2.2.2 hv).2, up1_n _ _ (by omega)]
    · rw [(hh.2.2.2.1 hv).2]
  exact CD7_g h hC (fun s hs => by rw [b3, k51 s hs, z51]; exact h.1 s hs) (SRF_of h.2.1 ((yc 43 (by decide)).trans (Fw_row h0.2.2.2.1 43 (by decide) (by decide) (by decide))) ((yc 44 (by decide)).trans (Fw_row h0.2.2.2.1 44 (by decide) (by decide) (by decide))) ((yc 45 (by decide)).trans (Fw_row h0.2.2.2.1 45 (by decide) (by decide) (by decide)))) rfl ((hh.1.1 52 (by decide) (by decide)).trans (h0.1 52 (by decide))) (fun k h1 _ => (yc k (by omega)).trans (h0.1 k (by omega)))
set_option maxHeartbeats 1000000 in
theorem CH_of {I A B J JA JB : aI1} {R : aR1} {S : aS1} (hP : CPG I R S) (h : CD7 I R) (hC : CI I R S) (h0 : Kp 0 49 I A ∧ Kp 0 49 J JA ∧ CX A ∧ Fw [] [] I A ∧ True) (hh : A = B ∧ JA = JB ∧ True) : CD7 A R := by
  obtain ⟨⟨⟨q8, q15, q12, q5, q6, q7, q11⟩, tb, -⟩, ⟨⟨q9, q0⟩, -⟩⟩ := id hP
  obtain ⟨rfl, rfl, hh⟩ := hh
  have z51 : A 51 = I 51 := h0.1 51 (by decide)
  have x5 := XI_o hC.2.1.1
  have b3 : A 3 = I 3 := (Fw_row h0.2.2.2.1 3 (by decide) (by decide) (by decide))
  exact CD7_g h hC (fun s hs => by rw [b3, z51]; exact h.1 s hs) (SRF_of h.2.1 (Fw_row h0.2.2.2.1 43 (by decide) (by decide) (by decide)) (Fw_row h0.2.2.2.1 44 (by decide) (by decide) (by decide)) (Fw_row h0.2.2.2.1 45 (by decide) (by decide) (by decide))) rfl (h0.1 52 (by decide)) (fun k h1 _ => h0.1 k (by omega))
set_option maxHeartbeats 1000000 in
theorem CH_feed {I A B J JA JB : aI1} {R : aR1} {S : aS1} {a b c e f x y : Int} (hP : CPG I R S) (h : CD7 I R) (hC : CI I R S) (h0 : Kp 0 49 I A ∧ Kp 0 49 J JA ∧ CX A ∧ Fw [8, 9] [] I A ∧ (I 8 1 ≤ 380 → x = I 8 1 + 20 ∧ A 8 1 = I 8 1 + 20 ∧ FDc (I 9) (A 9) (I 8 1) a b c e f) ∧ (¬ I 8 1 ≤ 380 → x = -1 ∧ A 8 1 = I 8 1 ∧ A 9 = I 9)) (hh : Ch [55, 56] [10] A B ∧ Kp 49 73 JA JB ∧ RX B ∧ (A 49 10 ≤ 380 → y = A 49 10 + 20 ∧ B 49 10 = A 49 10 + 20 ∧ FDr (A 55) (B 55) (A 49 10) a b c e f) ∧ (¬ A 49 10 ≤ 380 → y = -1 ∧ B 49 10 = A 49 10 ∧ B 55 = A 55)) : CD7 B R := by
  obtain ⟨⟨⟨q8, q15, q12, q5, q6, q7, q11⟩, tb, -⟩, ⟨⟨q9, q0⟩, -⟩⟩ := id hP
  have yc : ∀ k, k < 49 ∨ 73 ≤ k → B k = A k := Ch_kp hh.1 (by decide)
  have z51 : A 51 = I 51 := h0.1 51 (by decide)
  have x5 := XI_o hC.2.1.1
  have b3 : B 3 = I 3 := ((yc 3 (by decide)).trans (Fw_row h0.2.2.2.1 3 (by decide) (by decide) (by decide)))
  have k51 : ∀ j : Nat, j < 256 → B 51 j = A 51 j := fun j _ => congrFun (hh.1.1 51 (by decide) (by decide)) j
  exact CD7_g h hC (fun s hs => by rw [b3, k51 s hs, z51]; exact h.1 s hs) (SRF_of h.2.1 ((yc 43 (by decide)).trans (Fw_row h0.2.2.2.1 43 (by decide) (by decide) (by decide))) ((yc 44 (by decide)).trans (Fw_row h0.2.2.2.1 44 (by decide) (by decide) (by decide))) ((yc 45 (by decide)).trans (Fw_row h0.2.2.2.1 45 (by decide) (by decide) (by decide)))) rfl ((hh.1.1 52 (by decide) (by decide)).trans (h0.1 52 (by decide))) (fun k h1 _ => (yc k (by omega)).trans (h0.1 k (by omega)))
set_option maxHeartbeats 1000000 in
theorem CH_end {I A B J JA JB : aI1} {R : aR1} {S : aS1} {a x y : Int} (hP : CPG I R S) (h : CD7 I R) (hC : CI I R S) (h0 : Kp 0 49 I A ∧ Kp 0 49 J JA ∧ CX A ∧ Fw [] [(8, 1)] I A ∧ ((0 ≤ a ∧ a ≤ I 8 1) → x = a ∧ A 8 1 = a) ∧ (¬ (0 ≤ a ∧ a ≤ I 8 1) → x = -1 ∧ A 8 1 = I 8 1)) (hh : Ch [] [10] A B ∧ Kp 49 73 JA JB ∧ RX B ∧ ((0 ≤ a ∧ a ≤ A 49 10) → y = a ∧ B 49 10 = a) ∧ (¬ (0 ≤ a ∧ a ≤ A 49 10) → y = -1 ∧ B 49 10 = A 49 10)) : CD7 B R := by
  obtain ⟨⟨⟨q8, q15, q12, q5, q6, q7, q11⟩, tb, -⟩, ⟨⟨q9, q0⟩, -⟩⟩ := id hP
  have yc : ∀ k, k < 49 ∨ 73 ≤ k → B k = A k := Ch_kp hh.1 (by decide)
  have z51 : A 51 = I 51 := h0.1 51 (by decide)
  have x5 := XI_o hC.2.1.1
  have b3 : B 3 = I 3 := ((yc 3 (by decide)).trans (Fw_row h0.2.2.2.1 3 (by decide) (by decide) (by decide)))
  have k51 : ∀ j : Nat, j < 256 → B 51 j = A 51 j := fun j _ => congrFun (hh.1.1 51 (by decide) (by decide)) j
  exact CD7_g h hC (fun s hs => by rw [b3, k51 s hs, z51]; exact h.1 s hs) (SRF_of h.2.1 ((yc 43 (by decide)).trans (Fw_row h0.2.2.2.1 43 (by decide) (by decide) (by decide))) ((yc 44 (by decide)).trans (Fw_row h0.2.2.2.1 44 (by decide) (by decide) (by decide))) ((yc 45 (by decide)).trans (Fw_row h0.2.2.2.1 45 (by decide) (by decide) (by decide)))) rfl ((hh.1.1 52 (by decide) (by decide)).trans (h0.1 52 (by decide))) (fun k h1 _ => (yc k (by omega)).trans (h0.1 k (by omega)))
set_option maxHeartbeats 1000000 in
theorem CH_torn {I A B J JA JB : aI1} {R : aR1} {S : aS1} {x y : Int} (hP : CPG I R S) (h : CD7 I R) (hC : CI I R S) (h0 : Kp 0 49 I A ∧ Kp 0 49 J JA ∧ CX A ∧ Fw [] [] I A ∧ x = I 0 15) (hh : A = B ∧ JA = JB ∧ y = A 49 6) : CD7 A R := by
  obtain ⟨⟨⟨q8, q15, q12, q5, q6, q7, q11⟩, tb, -⟩, ⟨⟨q9, q0⟩, -⟩⟩ := id hP
  obtain ⟨rfl, rfl, hh⟩ := hh
  have z51 : A 51 = I 51 := h0.1 51 (by decide)
  have x5 := XI_o hC.2.1.1
  have b3 : A 3 = I 3 := (Fw_row h0.2.2.2.1 3 (by decide) (by decide) (by decide))
  exact CD7_g h hC (fun s hs => by rw [b3, z51]; exact h.1 s hs) (SRF_of h.2.1 (Fw_row h0.2.2.2.1 43 (by decide) (by decide) (by decide)) (Fw_row h0.2.2.2.1 44 (by decide) (by decide) (by decide)) (Fw_row h0.2.2.2.1 45 (by decide) (by decide) (by decide))) rfl (h0.1 52 (by decide)) (fun k h1 _ => h0.1 k (by omega))
set_option maxHeartbeats 1000000 in
theorem CH_law {I A B J JA JB : aI1} {R R' : aR1} {S S' : aS1} (hP : CPG I R S) (h : CD7 I R) (hC : CI I R S) (h0 : CI A R' S' ∧ (∀ k, 49 ≤ k → k < 73 → A k = I k ∧ JA k = J k ∧ R' k = R k) ∧ Fw [10, 11, 12, 13, 14, 48] [(0, 16), (1, 9), (8, 1)] I A ∧ R' 7 = R 7 ∧ (∀ k, 73 ≤ k → k < S.length → A k = I k ∧ R' k = R k) ∧ A 8 1 = 0) (hh : Ch [50, 51, 57, 58, 59] [0, 1, 10, 11, 15, 16, 17, 18] A B ∧ Kp 49 73 JA JB ∧ RX B ∧ B 49 10 = 0 ∧ (∀ j : Nat, j < 310 → B 51 j = A 51 j)) : CD7 B R' := by
  obtain ⟨⟨⟨q8, q15, q12, q5, q6, q7, q11⟩, tb, -⟩, ⟨⟨q9, q0⟩, -⟩⟩ := id hP
  have yc : ∀ k, k < 49 ∨ 73 ≤ k → B k = A k := Ch_kp hh.1 (by decide)
  have z51 : A 51 = I 51 := (h0.2.1 51 (by decide) (by decide)).1
  have x5 := XI_o hC.2.1.1
  have b3 : B 3 = I 3 := ((yc 3 (by decide)).trans (Fw_row h0.2.2.1 3 (by decide) (by decide) (by decide)))
  have k51 : ∀ j : Nat, j < 256 → B 51 j = A 51 j := fun j hj => hh.2.2.2.2 j (by omega)
  exact CD7_g h hC (fun s hs => by rw [b3, k51 s hs, z51]; exact h.1 s hs) (SRF_of h.2.1 ((yc 43 (by decide)).trans (Fw_row h0.2.2.1 43 (by decide) (by decide) (by decide))) ((yc 44 (by decide)).trans (Fw_row h0.2.2.1 44 (by decide) (by decide) (by decide))) ((yc 45 (by decide)).trans (Fw_row h0.2.2.1 45 (by decide) (by decide) (by decide)))) h0.2.2.2.1 ((hh.1.1 52 (by decide) (by decide)).trans (h0.2.1 52 (by decide) (by decide)).1) (fun k h1 h2 => (yc k (Or.inr h1)).trans (h0.2.2.2.2.1 k h1 h2).1)
set_option maxHeartbeats 1000000 in
theorem CH_fault {I A B J JA JB : aI1} {R : aR1} {S : aS1} (hP : CPG I R S) (h : CD7 I R) (hC : CI I R S) (h0 : Kp 0 49 I A ∧ Kp 0 49 J JA ∧ CX A ∧ Fw [] [] I A ∧ True) (hh : A = B ∧ JA = JB ∧ True) : CD7 A R := by
  obtain ⟨⟨⟨q8, q15, q12, q5, q6, q7, q11⟩, tb, -⟩, ⟨⟨q9, q0⟩, -⟩⟩ := id hP
  obtain ⟨rfl, rfl, hh⟩ := hh
  have z51 : A 51 = I 51 := h0.1 51 (by decide)
  have x5 := XI_o hC.2.1.1
  have b3 : A 3 = I 3 := (Fw_row h0.2.2.2.1 3 (by decide) (by decide) (by decide))
  exact CD7_g h hC (fun s hs => by rw [b3, z51]; exact h.1 s hs) (SRF_of h.2.1 (Fw_row h0.2.2.2.1 43 (by decide) (by decide) (by decide)) (Fw_row h0.2.2.2.1 44 (by decide) (by decide) (by decide)) (Fw_row h0.2.2.2.1 45 (by decide) (by decide) (by decide))) rfl (h0.1 52 (by decide)) (fun k h1 _ => h0.1 k (by omega))
set_option maxHeartbeats 1000000 in
theorem CH_next {I A B J JA JB : aI1} {R : aR1} {S : aS1} (hP : CPG I R S) (h : CD7 I R) (hC : CI I R S) (h0 : Kp 0 49 I A ∧ Kp 0 49 J JA ∧ CX A ∧ Fw [18, 19, 20, 21, 22, 23, 24, 25, 26, 27, 28, 29, 30, 31, 32, 33, 34, 35, 36] [] I A ∧ True) (hh : Ch [61] [25] A B ∧ Kp 49 73 JA JB ∧ RX B ∧ True) : CD7 B R := by
  obtain ⟨⟨⟨q8, q15, q12, q5, q6, q7, q11⟩, tb, -⟩, ⟨⟨q9, q0⟩, -⟩⟩ := id hP
  have yc : ∀ k, k < 49 ∨ 73 ≤ k → B k = A k := Ch_kp hh.1 (by decide)
  have z51 : A 51 = I 51 := h0.1 51 (by decide)
  have x5 := XI_o hC.2.1.1
  have b3 : B 3 = I 3 := ((yc 3 (by decide)).trans (Fw_row h0.2.2.2.1 3 (by decide) (by decide) (by decide)))
  have k51 : ∀ j : Nat, j < 256 → B 51 j = A 51 j := fun j _ => congrFun (hh.1.1 51 (by decide) (by decide)) j
  exact CD7_g h hC (fun s hs => by rw [b3, k51 s hs, z51]; exact h.1 s hs) (SRF_of h.2.1 ((yc 43 (by decide)).trans (Fw_row h0.2.2.2.1 43 (by decide) (by decide) (by decide))) ((yc 44 (by decide)).trans (Fw_row h0.2.2.2.1 44 (by decide) (by decide) (by decide))) ((yc 45 (by decide)).trans (Fw_row h0.2.2.2.1 45 (by decide) (by decide) (by decide)))) rfl ((hh.1.1 52 (by decide) (by decide)).trans (h0.1 52 (by decide))) (fun k h1 _ => (yc k (by omega)).trans (h0.1 k (by omega)))
set_option maxHeartbeats 1000000 in
theorem CH_ways {I A B J JA JB : aI1} {R : aR1} {S : aS1} (hP : CPG I R S) (h : CD7 I R) (hC : CI I R S) (h0 : Kp 0 49 I A ∧ Kp 0 49 J JA ∧ CX A ∧ Fw [] [] I A ∧ True) (hh : A = B ∧ JA = JB ∧ True) : CD7 A R := by
  obtain ⟨⟨⟨q8, q15, q12, q5, q6, q7, q11⟩, tb, -⟩, ⟨⟨q9, q0⟩, -⟩⟩ := id hP
  obtain ⟨rfl, rfl, hh⟩ := hh
  have z51 : A 51 = I 51 := h0.1 51 (by decide)
  have x5 := XI_o hC.2.1.1
  have b3 : A 3 = I 3 := (Fw_row h0.2.2.2.1 3 (by decide) (by decide) (by decide))
  exact CD7_g h hC (fun s hs => by rw [b3, z51]; exact h.1 s hs) (SRF_of h.2.1 (Fw_row h0.2.2.2.1 43 (by decide) (by decide) (by decide)) (Fw_row h0.2.2.2.1 44 (by decide) (by decide) (by decide)) (Fw_row h0.2.2.2.1 45 (by decide) (by decide) (by decide))) rfl (h0.1 52 (by decide)) (fun k h1 _ => h0.1 k (by omega))
set_option maxHeartbeats 1000000 in
theorem CH_lasts {I A B J JA JB : aI1} {R : aR1} {S : aS1} (hP : CPG I R S) (h : CD7 I R) (hC : CI I R S) (h0 : Kp 0 49 I A ∧ Kp 0 49 J JA ∧ CX A ∧ Fw [18, 19, 20, 21, 22, 23, 24, 25, 26, 27, 28, 29, 30, 31, 32, 33, 34, 35, 36] [] I A ∧ True) (hh : Ch [61] [25] A B ∧ Kp 49 73 JA JB ∧ RX B ∧ True) : CD7 B R := by
  obtain ⟨⟨⟨q8, q15, q12, q5, q6, q7, q11⟩, tb, -⟩, ⟨⟨q9, q0⟩, -⟩⟩ := id hP
  have yc : ∀ k, k < 49 ∨ 73 ≤ k → B k = A k := Ch_kp hh.1 (by decide)
  have z51 : A 51 = I 51 := h0.1 51 (by decide)
  have x5 := XI_o hC.2.1.1
  have b3 : B 3 = I 3 := ((yc 3 (by decide)).trans (Fw_row h0.2.2.2.1 3 (by decide) (by decide) (by decide)))
  have k51 : ∀ j : Nat, j < 256 → B 51 j = A 51 j := fun j _ => congrFun (hh.1.1 51 (by decide) (by decide)) j
  exact CD7_g h hC (fun s hs => by rw [b3, k51 s hs, z51]; exact h.1 s hs) (SRF_of h.2.1 ((yc 43 (by decide)).trans (Fw_row h0.2.2.2.1 43 (by decide) (by decide) (by decide))) ((yc 44 (by decide)).trans (Fw_row h0.2.2.2.1 44 (by decide) (by decide) (by decide))) ((yc 45 (by decide)).trans (Fw_row h0.2.2.2.1 45 (by decide) (by decide) (by decide)))) rfl ((hh.1.1 52 (by decide) (by decide)).trans (h0.1 52 (by decide))) (fun k h1 _ => (yc k (by omega)).trans (h0.1 k (by omega)))
set_option maxHeartbeats 1000000 in
theorem CH_mean {I A B J JA JB : aI1} {R : aR1} {S : aS1} (hP : CPG I R S) (h : CD7 I R) (hC : CI I R S) (h0 : Kp 0 49 I A ∧ Kp 0 49 J JA ∧ CX A ∧ Fw [18, 19, 20, 21, 22, 23, 24, 25, 26, 27, 28, 29, 30, 31, 32, 33, 34, 35, 36] [] I A ∧ True) (hh : Ch [61] [25] A B ∧ Kp 49 73 JA JB ∧ RX B ∧ True) : CD7 B R := by
  obtain ⟨⟨⟨q8, q15, q12, q5, q6, q7, q11⟩, tb, -⟩, ⟨⟨q9, q0⟩, -⟩⟩ := id hP
  have yc : ∀ k, k < 49 ∨ 73 ≤ k → B k = A k := Ch_kp hh.1 (by decide)
  have z51 : A 51 = I 51 := h0.1 51 (by decide)
  have x5 := XI_o hC.2.1.1
  have b3 : B 3 = I 3 := ((yc 3 (by decide)).trans (Fw_row h0.2.2.2.1 3 (by decide) (by decide) (by decide)))
  have k51 : ∀ j : Nat, j < 256 → B 51 j = A 51 j := fun j _ => congrFun (hh.1.1 51 (by decide) (by decide)) j
  exact CD7_g h hC (fun s hs => by rw [b3, k51 s hs, z51]; exact h.1 s hs) (SRF_of h.2.1 ((yc 43 (by decide)).trans (Fw_row h0.2.2.2.1 43 (by decide) (by decide) (by decide))) ((yc 44 (by decide)).trans (Fw_row h0.2.2.2.1 44 (by decide) (by decide) (by decide))) ((yc 45 (by decide)).trans (Fw_row h0.2.2.2.1 45 (by decide) (by decide) (by decide)))) rfl ((hh.1.1 52 (by decide) (by decide)).trans (h0.1 52 (by decide))) (fun k h1 _ => (yc k (by omega)).trans (h0.1 k (by omega)))
set_option maxHeartbeats 1000000 in
theorem CH_reached {I A B J JA JB : aI1} {R : aR1} {S : aS1} (hP : CPG I R S) (h : CD7 I R) (hC : CI I R S) (h0 : Kp 0 49 I A ∧ Kp 0 49 J JA ∧ CX A ∧ Fw [] [] I A ∧ True) (hh : Ch [63] [] A B ∧ Kp 49 73 JA JB ∧ RX B ∧ True) : CD7 B R := by
  obtain ⟨⟨⟨q8, q15, q12, q5, q6, q7, q11⟩, tb, -⟩, ⟨⟨q9, q0⟩, -⟩⟩ := id hP
  have yc : ∀ k, k < 49 ∨ 73 ≤ k → B k = A k := Ch_kp hh.1 (by decide)
  have z51 : A 51 = I 51 := h0.1 51 (by decide)
  have x5 := XI_o hC.2.1.1
  have b3 : B 3 = I 3 := ((yc 3 (by decide)).trans (Fw_row h0.2.2.2.1 3 (by decide) (by decide) (by decide)))
  have k51 : ∀ j : Nat, j < 256 → B 51 j = A 51 j := fun j _ => congrFun (hh.1.1 51 (by decide) (by decide)) j
  exact CD7_g h hC (fun s hs => by rw [b3, k51 s hs, z51]; exact h.1 s hs) (SRF_of h.2.1 ((yc 43 (by decide)).trans (Fw_row h0.2.2.2.1 43 (by decide) (by decide) (by decide))) ((yc 44 (by decide)).trans (Fw_row h0.2.2.2.1 44 (by decide) (by decide) (by decide))) ((yc 45 (by decide)).trans (Fw_row h0.2.2.2.1 45 (by decide) (by decide) (by decide)))) rfl ((hh.1.1 52 (by decide) (by decide)).trans (h0.1 52 (by decide))) (fun k h1 _ => (yc k (by omega)).trans (h0.1 k (by omega)))
set_option maxHeartbeats 1000000 in
theorem CH_failing {I A B J JA JB : aI1} {R : aR1} {S : aS1} (hP : CPG I R S) (h : CD7 I R) (hC : CI I R S) (h0 : Kp 0 49 I A ∧ Kp 0 49 J JA ∧ CX A ∧ Fw [18, 19, 20, 21, 22, 23, 24, 25, 26, 27, 28, 29, 30, 31, 32, 33, 34, 35, 36] [] I A ∧ True) (hh : Ch [61, 64] [25, 28] A B ∧ Kp 49 73 JA JB ∧ RX B ∧ True) : CD7 B R := by
  obtain ⟨⟨⟨q8, q15, q12, q5, q6, q7, q11⟩, tb, -⟩, ⟨⟨q9, q0⟩, -⟩⟩ := id hP
  have yc : ∀ k, k < 49 ∨ 73 ≤ k → B k = A k := Ch_kp hh.1 (by decide)
  have z51 : A 51 = I 51 := h0.1 51 (by decide)
  have x5 := XI_o hC.2.1.1
  have b3 : B 3 = I 3 := ((yc 3 (by decide)).trans (Fw_row h0.2.2.2.1 3 (by decide) (by decide) (by decide)))
  have k51 : ∀ j : Nat, j < 256 → B 51 j = A 51 j := fun j _ => congrFun (hh.1.1 51 (by decide) (by decide)) j
  exact CD7_g h hC (fun s hs => by rw [b3, k51 s hs, z51]; exact h.1 s hs) (SRF_of h.2.1 ((yc 43 (by decide)).trans (Fw_row h0.2.2.2.1 43 (by decide) (by decide) (by decide))) ((yc 44 (by decide)).trans (Fw_row h0.2.2.2.1 44 (by decide) (by decide) (by decide))) ((yc 45 (by decide)).trans (Fw_row h0.2.2.2.1 45 (by decide) (by decide) (by decide)))) rfl ((hh.1.1 52 (by decide) (by decide)).trans (h0.1 52 (by decide))) (fun k h1 _ => (yc k (by omega)).trans (h0.1 k (by omega)))
set_option maxHeartbeats 1000000 in
theorem CH_hurts {I A B J JA JB : aI1} {R : aR1} {S : aS1} (hP : CPG I R S) (h : CD7 I R) (hC : CI I R S) (h0 : Kp 0 49 I A ∧ Kp 0 49 J JA ∧ CX A ∧ Fw [18, 19, 20, 21, 22, 23, 24, 25, 26, 27, 28, 29, 30, 31, 32, 33, 34, 35, 36] [] I A ∧ True) (hh : Ch [61] [25] A B ∧ Kp 49 73 JA JB ∧ RX B ∧ True) : CD7 B R := by
  obtain ⟨⟨⟨q8, q15, q12, q5, q6, q7, q11⟩, tb, -⟩, ⟨⟨q9, q0⟩, -⟩⟩ := id hP
  have yc : ∀ k, k < 49 ∨ 73 ≤ k → B k = A k := Ch_kp hh.1 (by decide)
  have z51 : A 51 = I 51 := h0.1 51 (by decide)
  have x5 := XI_o hC.2.1.1
  have b3 : B 3 = I 3 := ((yc 3 (by decide)).trans (Fw_row h0.2.2.2.1 3 (by decide) (by decide) (by decide)))
  have k51 : ∀ j : Nat, j < 256 → B 51 j = A 51 j := fun j _ => congrFun (hh.1.1 51 (by decide) (by decide)) j
  exact CD7_g h hC (fun s hs => by rw [b3, k51 s hs, z51]; exact h.1 s hs) (SRF_of h.2.1 ((yc 43 (by decide)).trans (Fw_row h0.2.2.2.1 43 (by decide) (by decide) (by decide))) ((yc 44 (by decide)).trans (Fw_row h0.2.2.2.1 44 (by decide) (by decide) (by decide))) ((yc 45 (by decide)).trans (Fw_row h0.2.2.2.1 45 (by decide) (by decide) (by decide)))) rfl ((hh.1.1 52 (by decide) (by decide)).trans (h0.1 52 (by decide))) (fun k h1 _ => (yc k (by omega)).trans (h0.1 k (by omega)))
set_option maxHeartbeats 1000000 in
theorem CH_codes {I A B J JA JB : aI1} {R : aR1} {S : aS1} {a b c x y : Int} (hP : CPG I R S) (h : CD7 I R) (hC : CI I R S) (h0 : Kp 0 49 I A ∧ Kp 0 49 J JA ∧ CX A ∧ Fw [37, 38, 39, 40, 41, 42, 43, 44, 45] [] I A ∧ SR A ∧ SRF A ∧ (¬ (1 ≤ a ∧ a ≤ 3 ∧ 2 ≤ b ∧ b ≤ 4 ∧ 0 ≤ c ∧ c ≤ 8) → x = -1) ∧ ((1 ≤ a ∧ a ≤ 3 ∧ 2 ≤ b ∧ b ≤ 4 ∧ 0 ≤ c ∧ c ≤ 8) → x = TBX a b c)) (hh : Ch [51, 61, 65, 66] [25, 31] A B ∧ Kp 49 73 JA JB ∧ RX B ∧ (¬ (1 ≤ a ∧ a ≤ 3 ∧ 2 ≤ b ∧ b ≤ 4 ∧ 0 ≤ c ∧ c ≤ 8) → y = -1) ∧ ((1 ≤ a ∧ a ≤ 3 ∧ 2 ≤ b ∧ b ≤ 4 ∧ 0 ≤ c ∧ c ≤ 8) → y = TBX a b c) ∧ B 51 = A 51) : CD7 B R := by
  obtain ⟨⟨⟨q8, q15, q12, q5, q6, q7, q11⟩, tb, -⟩, ⟨⟨q9, q0⟩, -⟩⟩ := id hP
  have yc : ∀ k, k < 49 ∨ 73 ≤ k → B k = A k := Ch_kp hh.1 (by decide)
  have z51 : A 51 = I 51 := h0.1 51 (by decide)
  have x5 := XI_o hC.2.1.1
  have b3 : B 3 = I 3 := ((yc 3 (by decide)).trans (Fw_row h0.2.2.2.1 3 (by decide) (by decide) (by decide)))
  have k51 : ∀ j : Nat, j < 256 → B 51 j = A 51 j := fun j hj => congrFun hh.2.2.2.2.2 j
  exact CD7_g h hC (fun s hs => by rw [b3, k51 s hs, z51]; exact h.1 s hs) (SRF_of h0.2.2.2.2.2.1 (yc 43 (by decide)) (yc 44 (by decide)) (yc 45 (by decide))) rfl ((hh.1.1 52 (by decide) (by decide)).trans (h0.1 52 (by decide))) (fun k h1 _ => (yc k (by omega)).trans (h0.1 k (by omega)))
set_option maxHeartbeats 1000000 in
theorem CH_send {I A B J JA JB : aI1} {R : aR1} {S : aS1} (hP : CPG I R S) (h : CD7 I R) (hC : CI I R S) (h0 : Kp 0 49 I A ∧ Kp 0 49 J JA ∧ CX A ∧ Fw [5, 18, 19, 20, 21, 22, 23, 24, 25, 26, 27, 28, 29, 30, 31, 32, 33, 34, 35, 36, 48] [(0, 16), (1, 8), (1, 10)] I A ∧ True) (hh : Ch [50, 51, 61] [0, 1, 25] A B ∧ Kp 49 73 JA JB ∧ RX B ∧ (∀ j : Nat, (j < 264 ∨ 288 ≤ j) → j ≠ 307 → j ≠ 308 → B 51 j = A 51 j)) : CD7 B R := by
  obtain ⟨⟨⟨q8, q15, q12, q5, q6, q7, q11⟩, tb, -⟩, ⟨⟨q9, q0⟩, -⟩⟩ := id hP
  have yc : ∀ k, k < 49 ∨ 73 ≤ k → B k = A k := Ch_kp hh.1 (by decide)
  have z51 : A 51 = I 51 := h0.1 51 (by decide)
  have x5 := XI_o hC.2.1.1
  have b3 : B 3 = I 3 := ((yc 3 (by decide)).trans (Fw_row h0.2.2.2.1 3 (by decide) (by decide) (by decide)))
  have k51 : ∀ j : Nat, j < 256 → B 51 j = A 51 j := fun j hj => hh.2.2.2 j (by omega) (by omega) (by omega)
  exact CD7_g h hC (fun s hs => by rw [b3, k51 s hs, z51]; exact h.1 s hs) (SRF_of h.2.1 ((yc 43 (by decide)).trans (Fw_row h0.2.2.2.1 43 (by decide) (by decide) (by decide))) ((yc 44 (by decide)).trans (Fw_row h0.2.2.2.1 44 (by decide) (by decide) (by decide))) ((yc 45 (by decide)).trans (Fw_row h0.2.2.2.1 45 (by decide) (by decide) (by decide)))) rfl ((hh.1.1 52 (by decide) (by decide)).trans (h0.1 52 (by decide))) (fun k h1 _ => (yc k (by omega)).trans (h0.1 k (by omega)))
set_option maxHeartbeats 1000000 in
theorem CH_dawn {I A B J JA JB : aI1} {R : aR1} {S : aS1} {x : Int} (hP : CPG I R S) (h : CD7 I R) (hC : CI I R S) (h0 : Kp 0 49 I A ∧ Kp 0 49 J JA ∧ CX A ∧ Fw [] [(1, 8), (1, 10)] I A ∧ x = bc (I 1 8) ∧ A 1 8 = 0 ∧ A 1 10 = 0) (hh : Ch [51] [1] A B ∧ Kp 49 73 JA JB ∧ RX B ∧ B 51 = up1 (up1 (A 51) 307 0) 308 0) : CD7 B R := by
  obtain ⟨⟨⟨q8, q15, q12, q5, q6, q7, q11⟩, tb, -⟩, ⟨⟨q9, q0⟩, -⟩⟩ := id hP
  have yc : ∀ k, k < 49 ∨ 73 ≤ k → B k = A k := Ch_kp hh.1 (by decide)
  have z51 : A 51 = I 51 := h0.1 51 (by decide)
  have x5 := XI_o hC.2.1.1
  have b3 : B 3 = I 3 := ((yc 3 (by decide)).trans (Fw_row h0.2.2.2.1 3 (by decide) (by decide) (by decide)))
  have k51 : ∀ j : Nat, j < 256 → B 51 j = A 51 j := fun j hj => by rw [hh.2.2.2, up1_n _ _ (by omega), up1_n _ _ (by omega)]
  exact CD7_g h hC (fun s hs => by rw [b3, k51 s hs, z51]; exact h.1 s hs) (SRF_of h.2.1 ((yc 43 (by decide)).trans (Fw_row h0.2.2.2.1 43 (by decide) (by decide) (by decide))) ((yc 44 (by decide)).trans (Fw_row h0.2.2.2.1 44 (by decide) (by decide) (by decide))) ((yc 45 (by decide)).trans (Fw_row h0.2.2.2.1 45 (by decide) (by decide) (by decide)))) rfl ((hh.1.1 52 (by decide) (by decide)).trans (h0.1 52 (by decide))) (fun k h1 _ => (yc k (by omega)).trans (h0.1 k (by omega)))
set_option maxHeartbeats 1000000 in
theorem CH_log {I A B J JA JB : aI1} {R : aR1} {S : aS1} (hP : CPG I R S) (h : CD7 I R) (hC : CI I R S) (h0 : Kp 0 49 I A ∧ Kp 0 49 J JA ∧ CX A ∧ Fw [] [] I A ∧ True) (hh : A = B ∧ JA = JB ∧ True) : CD7 A R := by
  obtain ⟨⟨⟨q8, q15, q12, q5, q6, q7, q11⟩, tb, -⟩, ⟨⟨q9, q0⟩, -⟩⟩ := id hP
  obtain ⟨rfl, rfl, hh⟩ := hh
  have z51 : A 51 = I 51 := h0.1 51 (by decide)
  have x5 := XI_o hC.2.1.1
  have b3 : A 3 = I 3 := (Fw_row h0.2.2.2.1 3 (by decide) (by decide) (by decide))
  exact CD7_g h hC (fun s hs => by rw [b3, z51]; exact h.1 s hs) (SRF_of h.2.1 (Fw_row h0.2.2.2.1 43 (by decide) (by decide) (by decide)) (Fw_row h0.2.2.2.1 44 (by decide) (by decide) (by decide)) (Fw_row h0.2.2.2.1 45 (by decide) (by decide) (by decide))) rfl (h0.1 52 (by decide)) (fun k h1 _ => h0.1 k (by omega))
set_option maxHeartbeats 1000000 in
theorem CH_burnt {I A B J JA JB : aI1} {R : aR1} {S : aS1} (hP : CPG I R S) (h : CD7 I R) (hC : CI I R S) (h0 : Kp 0 49 I A ∧ Kp 0 49 J JA ∧ CX A ∧ Fw [18, 19, 20, 21, 22, 23, 24, 25, 26, 27, 28, 29, 30, 31, 32, 33, 34, 35, 36] [] I A ∧ True) (hh : A = B ∧ JA = JB ∧ True) : CD7 A R := by
  obtain ⟨⟨⟨q8, q15, q12, q5, q6, q7, q11⟩, tb, -⟩, ⟨⟨q9, q0⟩, -⟩⟩ := id hP
  obtain ⟨rfl, rfl, hh⟩ := hh
  have z51 : A 51 = I 51 := h0.1 51 (by decide)
  have x5 := XI_o hC.2.1.1
  have b3 : A 3 = I 3 := (Fw_row h0.2.2.2.1 3 (by decide) (by decide) (by decide))
  exact CD7_g h hC (fun s hs => by rw [b3, z51]; exact h.1 s hs) (SRF_of h.2.1 (Fw_row h0.2.2.2.1 43 (by decide) (by decide) (by decide)) (Fw_row h0.2.2.2.1 44 (by decide) (by decide) (by decide)) (Fw_row h0.2.2.2.1 45 (by decide) (by decide) (by decide))) rfl (h0.1 52 (by decide)) (fun k h1 _ => h0.1 k (by omega))
set_option maxHeartbeats 1000000 in
theorem CH_trail {I A B J JA JB : aI1} {R : aR1} {S : aS1} {x y : Int} (hP : CPG I R S) (h : CD7 I R) (hC : CI I R S) (h0 : Kp 0 49 I A ∧ Kp 0 49 J JA ∧ CX A ∧ Fw [46, 48] [(0, 12), (0, 16), (8, 1)] I A ∧ (I 8 1 = 0 → x = -6 ∧ RFc I A (-6)) ∧ (¬ I 8 1 = 0 → x = min (I 8 1) 30 ∧ Fw [46] [(0, 12), (0, 16), (8, 1)] I A ∧ A 0 16 = 0 ∧ A 0 12 = min (I 8 1) 30 ∧ A 8 1 = 0 ∧ (∀ j : Nat, (j : Int) < min (I 8 1) 30 → A 46 j = I 9 j))) (hh : Ch [50, 67] [0, 1, 10, 33] A B ∧ Kp 49 73 JA JB ∧ RX B ∧ B 49 10 = 0 ∧ (A 49 10 = 0 → y = -6 ∧ B 49 33 = A 49 33 ∧ B 67 = A 67) ∧ (¬ A 49 10 = 0 → y = min (A 49 10) 30 ∧ B 49 33 = min (A 49 10) 30 ∧ (∀ j : Nat, (j : Int) < min (A 49 10) 30 → B 67 j = i_and (A 55 j) 255))) : CD7 B R := by
  obtain ⟨⟨⟨q8, q15, q12, q5, q6, q7, q11⟩, tb, -⟩, ⟨⟨q9, q0⟩, -⟩⟩ := id hP
  have yc : ∀ k, k < 49 ∨ 73 ≤ k → B k = A k := Ch_kp hh.1 (by decide)
  have z51 : A 51 = I 51 := h0.1 51 (by decide)
  have x5 := XI_o hC.2.1.1
  have b3 : B 3 = I 3 := ((yc 3 (by decide)).trans (Fw_row h0.2.2.2.1 3 (by decide) (by decide) (by decide)))
  have k51 : ∀ j : Nat, j < 256 → B 51 j = A 51 j := fun j _ => congrFun (hh.1.1 51 (by decide) (by decide)) j
  exact CD7_g h hC (fun s hs => by rw [b3, k51 s hs, z51]; exact h.1 s hs) (SRF_of h.2.1 ((yc 43 (by decide)).trans (Fw_row h0.2.2.2.1 43 (by decide) (by decide) (by decide))) ((yc 44 (by decide)).trans (Fw_row h0.2.2.2.1 44 (by decide) (by decide) (by decide))) ((yc 45 (by decide)).trans (Fw_row h0.2.2.2.1 45 (by decide) (by decide) (by decide)))) rfl ((hh.1.1 52 (by decide) (by decide)).trans (h0.1 52 (by decide))) (fun k h1 _ => (yc k (by omega)).trans (h0.1 k (by omega)))
set_option maxHeartbeats 1000000 in
theorem CH_judge {I A B J JA JB : aI1} {R : aR1} {S : aS1} (hP : CPG I R S) (h : CD7 I R) (hC : CI I R S) (h0 : Kp 0 49 I A ∧ Kp 0 49 J JA ∧ CX A ∧ Fw [18, 19, 20, 21, 22, 23, 24, 25, 26, 27, 28, 29, 30, 31, 32, 33, 34, 35, 36] [] I A ∧ True) (hh : Ch [61] [25] A B ∧ Kp 49 73 JA JB ∧ RX B ∧ True) : CD7 B R := by
  obtain ⟨⟨⟨q8, q15, q12, q5, q6, q7, q11⟩, tb, -⟩, ⟨⟨q9, q0⟩, -⟩⟩ := id hP
  have yc : ∀ k, k < 49 ∨ 73 ≤ k → B k = A k := Ch_kp hh.1 (by decide)
  have z51 : A 51 = I 51 := h0.1 51 (by decide)
  have x5 := XI_o hC.2.1.1
  have b3 : B 3 = I 3 := ((yc 3 (by decide)).trans (Fw_row h0.2.2.2.1 3 (by decide) (by decide) (by decide)))
  have k51 : ∀ j : Nat, j < 256 → B 51 j = A 51 j := fun j _ => congrFun (hh.1.1 51 (by decide) (by decide)) j
  exact CD7_g h hC (fun s hs => by rw [b3, k51 s hs, z51]; exact h.1 s hs) (SRF_of h.2.1 ((yc 43 (by decide)).trans (Fw_row h0.2.2.2.1 43 (by decide) (by decide) (by decide))) ((yc 44 (by decide)).trans (Fw_row h0.2.2.2.1 44 (by decide) (by decide) (by decide))) ((yc 45 (by decide)).trans (Fw_row h0.2.2.2.1 45 (by decide) (by decide) (by decide)))) rfl ((hh.1.1 52 (by decide) (by decide)).trans (h0.1 52 (by decide))) (fun k h1 _ => (yc k (by omega)).trans (h0.1 k (by omega)))
set_option maxHeartbeats 1000000 in
theorem CH_rows {I A B J JA JB : aI1} {R : aR1} {S : aS1} (hP : CPG I R S) (h : CD7 I R) (hC : CI I R S) (h0 : Kp 0 49 I A ∧ Kp 0 49 J JA ∧ CX A ∧ Fw [18, 19, 20, 21, 22, 23, 24, 25, 26, 27, 28, 29, 30, 31, 32, 33, 34, 35, 36] [] I A ∧ True) (hh : Ch [61] [25] A B ∧ Kp 49 73 JA JB ∧ RX B ∧ True) : CD7 B R := by
  obtain ⟨⟨⟨q8, q15, q12, q5, q6, q7, q11⟩, tb, -⟩, ⟨⟨q9, q0⟩, -⟩⟩ := id hP
  have yc : ∀ k, k < 49 ∨ 73 ≤ k → B k = A k := Ch_kp hh.1 (by decide)
  have z51 : A 51 = I 51 := h0.1 51 (by decide)
  have x5 := XI_o hC.2.1.1
  have b3 : B 3 = I 3 := ((yc 3 (by decide)).trans (Fw_row h0.2.2.2.1 3 (by decide) (by decide) (by decide)))
  have k51 : ∀ j : Nat, j < 256 → B 51 j = A 51 j := fun j _ => congrFun (hh.1.1 51 (by decide) (by decide)) j
  exact CD7_g h hC (fun s hs => by rw [b3, k51 s hs, z51]; exact h.1 s hs) (SRF_of h.2.1 ((yc 43 (by decide)).trans (Fw_row h0.2.2.2.1 43 (by decide) (by decide) (by decide))) ((yc 44 (by decide)).trans (Fw_row h0.2.2.2.1 44 (by decide) (by decide) (by decide))) ((yc 45 (by decide)).trans (Fw_row h0.2.2.2.1 45 (by decide) (by decide) (by decide)))) rfl ((hh.1.1 52 (by decide) (by decide)).trans (h0.1 52 (by decide))) (fun k h1 _ => (yc k (by omega)).trans (h0.1 k (by omega)))
set_option maxHeartbeats 1000000 in
theorem CH_could {I A B J JA JB : aI1} {R : aR1} {S : aS1} (hP : CPG I R S) (h : CD7 I R) (hC : CI I R S) (h0 : Kp 0 49 I A ∧ Kp 0 49 J JA ∧ CX A ∧ Fw [18, 19, 20, 21, 22, 23, 24, 25, 26, 27, 28, 29, 30, 31, 32, 33, 34, 35, 36] [] I A ∧ True) (hh : Ch [61] [25] A B ∧ Kp 49 73 JA JB ∧ RX B ∧ True) : CD7 B R := by
  obtain ⟨⟨⟨q8, q15, q12, q5, q6, q7, q11⟩, tb, -⟩, ⟨⟨q9, q0⟩, -⟩⟩ := id hP
  have yc : ∀ k, k < 49 ∨ 73 ≤ k → B k = A k := Ch_kp hh.1 (by decide)
  have z51 : A 51 = I 51 := h0.1 51 (by decide)
  have x5 := XI_o hC.2.1.1
  have b3 : B 3 = I 3 := ((yc 3 (by decide)).trans (Fw_row h0.2.2.2.1 3 (by decide) (by decide) (by decide)))
  have k51 : ∀ j : Nat, j < 256 → B 51 j = A 51 j := fun j _ => congrFun (hh.1.1 51 (by decide) (by decide)) j
  exact CD7_g h hC (fun s hs => by rw [b3, k51 s hs, z51]; exact h.1 s hs) (SRF_of h.2.1 ((yc 43 (by decide)).trans (Fw_row h0.2.2.2.1 43 (by decide) (by decide) (by decide))) ((yc 44 (by decide)).trans (Fw_row h0.2.2.2.1 44 (by decide) (by decide) (by decide))) ((yc 45 (by decide)).trans (Fw_row h0.2.2.2.1 45 (by decide) (by decide) (by decide)))) rfl ((hh.1.1 52 (by decide) (by decide)).trans (h0.1 52 (by decide))) (fun k h1 _ => (yc k (by omega)).trans (h0.1 k (by omega)))
set_option maxHeartbeats 1000000 in
theorem CH_maybe {I A B J JA JB : aI1} {R : aR1} {S : aS1} (hP : CPG I R S) (h : CD7 I R) (hC : CI I R S) (h0 : Kp 0 49 I A ∧ Kp 0 49 J JA ∧ CX A ∧ Fw [] [] I A ∧ True) (hh : Ch [63] [] A B ∧ Kp 49 73 JA JB ∧ RX B ∧ True) : CD7 B R := by
  obtain ⟨⟨⟨q8, q15, q12, q5, q6, q7, q11⟩, tb, -⟩, ⟨⟨q9, q0⟩, -⟩⟩ := id hP
  have yc : ∀ k, k < 49 ∨ 73 ≤ k → B k = A k := Ch_kp hh.1 (by decide)
  have z51 : A 51 = I 51 := h0.1 51 (by decide)
  have x5 := XI_o hC.2.1.1
  have b3 : B 3 = I 3 := ((yc 3 (by decide)).trans (Fw_row h0.2.2.2.1 3 (by decide) (by decide) (by decide)))
  have k51 : ∀ j : Nat, j < 256 → B 51 j = A 51 j := fun j _ => congrFun (hh.1.1 51 (by decide) (by decide)) j
  exact CD7_g h hC (fun s hs => by rw [b3, k51 s hs, z51]; exact h.1 s hs) (SRF_of h.2.1 ((yc 43 (by decide)).trans (Fw_row h0.2.2.2.1 43 (by decide) (by decide) (by decide))) ((yc 44 (by decide)).trans (Fw_row h0.2.2.2.1 44 (by decide) (by decide) (by decide))) ((yc 45 (by decide)).trans (Fw_row h0.2.2.2.1 45 (by decide) (by decide) (by decide)))) rfl ((hh.1.1 52 (by decide) (by decide)).trans (h0.1 52 (by decide))) (fun k h1 _ => (yc k (by omega)).trans (h0.1 k (by omega)))
set_option maxHeartbeats 1000000 in
theorem CH_safe {I A B J JA JB : aI1} {R : aR1} {S : aS1} (hP : CPG I R S) (h : CD7 I R) (hC : CI I R S) (h0 : Kp 0 49 I A ∧ Kp 0 49 J JA ∧ CX A ∧ Fw [18, 19, 20, 21, 22, 23, 24, 25, 26, 27, 28, 29, 30, 31, 32, 33, 34, 35, 36] [] I A ∧ True) (hh : Ch [63] [] A B ∧ Kp 49 73 JA JB ∧ RX B ∧ True) : CD7 B R := by
  obtain ⟨⟨⟨q8, q15, q12, q5, q6, q7, q11⟩, tb, -⟩, ⟨⟨q9, q0⟩, -⟩⟩ := id hP
  have yc : ∀ k, k < 49 ∨ 73 ≤ k → B k = A k := Ch_kp hh.1 (by decide)
  have z51 : A 51 = I 51 := h0.1 51 (by decide)
  have x5 := XI_o hC.2.1.1
  have b3 : B 3 = I 3 := ((yc 3 (by decide)).trans (Fw_row h0.2.2.2.1 3 (by decide) (by decide) (by decide)))
  have k51 : ∀ j : Nat, j < 256 → B 51 j = A 51 j := fun j _ => congrFun (hh.1.1 51 (by decide) (by decide)) j
  exact CD7_g h hC (fun s hs => by rw [b3, k51 s hs, z51]; exact h.1 s hs) (SRF_of h.2.1 ((yc 43 (by decide)).trans (Fw_row h0.2.2.2.1 43 (by decide) (by decide) (by decide))) ((yc 44 (by decide)).trans (Fw_row h0.2.2.2.1 44 (by decide) (by decide) (by decide))) ((yc 45 (by decide)).trans (Fw_row h0.2.2.2.1 45 (by decide) (by decide) (by decide)))) rfl ((hh.1.1 52 (by decide) (by decide)).trans (h0.1 52 (by decide))) (fun k h1 _ => (yc k (by omega)).trans (h0.1 k (by omega)))
set_option maxHeartbeats 1000000 in
theorem CH_spy {I A B J JA JB : aI1} {R : aR1} {S : aS1} (hP : CPG I R S) (h : CD7 I R) (hC : CI I R S) (h0 : Kp 0 49 I A ∧ Kp 0 49 J JA ∧ CX A ∧ Fw [] [] I A ∧ True) (hh : Ch [63] [] A B ∧ Kp 49 73 JA JB ∧ RX B ∧ True) : CD7 B R := by
  obtain ⟨⟨⟨q8, q15, q12, q5, q6, q7, q11⟩, tb, -⟩, ⟨⟨q9, q0⟩, -⟩⟩ := id hP
  have yc : ∀ k, k < 49 ∨ 73 ≤ k → B k = A k := Ch_kp hh.1 (by decide)
  have z51 : A 51 = I 51 := h0.1 51 (by decide)
  have x5 := XI_o hC.2.1.1
  have b3 : B 3 = I 3 := ((yc 3 (by decide)).trans (Fw_row h0.2.2.2.1 3 (by decide) (by decide) (by decide)))
  have k51 : ∀ j : Nat, j < 256 → B 51 j = A 51 j := fun j _ => congrFun (hh.1.1 51 (by decide) (by decide)) j
  exact CD7_g h hC (fun s hs => by rw [b3, k51 s hs, z51]; exact h.1 s hs) (SRF_of h.2.1 ((yc 43 (by decide)).trans (Fw_row h0.2.2.2.1 43 (by decide) (by decide) (by decide))) ((yc 44 (by decide)).trans (Fw_row h0.2.2.2.1 44 (by decide) (by decide) (by decide))) ((yc 45 (by decide)).trans (Fw_row h0.2.2.2.1 45 (by decide) (by decide) (by decide)))) rfl ((hh.1.1 52 (by decide) (by decide)).trans (h0.1 52 (by decide))) (fun k h1 _ => (yc k (by omega)).trans (h0.1 k (by omega)))
set_option maxHeartbeats 1000000 in
theorem CH_want {I A B J JA JB : aI1} {R : aR1} {S : aS1} {a x y : Int} (hP : CPG I R S) (h : CD7 I R) (hC : CI I R S) (h0 : Kp 0 49 I A ∧ Kp 0 49 J JA ∧ CX A ∧ Fw [6, 33, 48] [(0, 16), (1, 11)] I A ∧ (¬ (0 ≤ a ∧ a < I 1 6) → x = -1 ∧ RFc I A (-1)) ∧ ((0 ≤ a ∧ a < I 1 6) → (16 ≤ I 1 11 → x = -5 ∧ RFc I A (-5)) ∧ (I 1 11 < 16 → x = I 1 11 + 1 ∧ Fw [6, 33] [(0, 16), (1, 11)] I A ∧ A 0 16 = 0 ∧ A 1 11 = I 1 11 + 1 ∧ A 6 = up1 (I 6) (I 1 11).toNat a))) (hh : Ch [50, 51] [0, 1] A B ∧ Kp 49 73 JA JB ∧ RX B ∧ (¬ (0 ≤ a ∧ a < A 51 305) → y = -1 ∧ B 51 = A 51) ∧ ((0 ≤ a ∧ a < A 51 305) → (16 ≤ A 51 309 → y = -5 ∧ B 51 = A 51) ∧ (A 51 309 < 16 → y = A 51 309 + 1 ∧ B 51 = up1 (up1 (A 51) (288 + (A 51 309).toNat) a) 309 (A 51 309 + 1)))) : CD7 B R := by
  obtain ⟨⟨⟨q8, q15, q12, q5, q6, q7, q11⟩, tb, -⟩, ⟨⟨q9, q0⟩, -⟩⟩ := id hP
  have yc : ∀ k, k < 49 ∨ 73 ≤ k → B k = A k := Ch_kp hh.1 (by decide)
  have z51 : A 51 = I 51 := h0.1 51 (by decide)
  have x5 := XI_o hC.2.1.1
  have b3 : B 3 = I 3 := ((yc 3 (by decide)).trans (Fw_row h0.2.2.2.1 3 (by decide) (by decide) (by decide)))
  have k51 : ∀ j : Nat, j < 256 → B 51 j = A 51 j := fun j hj => by
    by_cases hv : 0 ≤ a ∧ a < A 51 305
    · by_cases hw : 16 ≤ A 51 309
      · rw [((hh.2.2.2.2 hv).1 hw).2]
      · rw [((hh.2.2.2.2 hv).2 (by omega)).2, up1_n _ _ (by omega), up1_n _ _ (by omega)]
    · rw [(hh.2.2.2.1 hv).2]
  exact CD7_g h hC (fun s hs => by rw [b3, k51 s hs, z51]; exact h.1 s hs) (SRF_of h.2.1 ((yc 43 (by decide)).trans (Fw_row h0.2.2.2.1 43 (by decide) (by decide) (by decide))) ((yc 44 (by decide)).trans (Fw_row h0.2.2.2.1 44 (by decide) (by decide) (by decide))) ((yc 45 (by decide)).trans (Fw_row h0.2.2.2.1 45 (by decide) (by decide) (by decide)))) rfl ((hh.1.1 52 (by decide) (by decide)).trans (h0.1 52 (by decide))) (fun k h1 _ => (yc k (by omega)).trans (h0.1 k (by omega)))
set_option maxHeartbeats 1000000 in
theorem CH_unwant {I A B J JA JB : aI1} {R : aR1} {S : aS1} {x y : Int} (hP : CPG I R S) (h : CD7 I R) (hC : CI I R S) (h0 : Kp 0 49 I A ∧ Kp 0 49 J JA ∧ CX A ∧ Fw [33] [(1, 11)] I A ∧ x = I 1 11 ∧ A 1 11 = 0) (hh : Ch [51] [1] A B ∧ Kp 49 73 JA JB ∧ RX B ∧ y = A 51 309 ∧ B 51 = up1 (A 51) 309 0) : CD7 B R := by
  obtain ⟨⟨⟨q8, q15, q12, q5, q6, q7, q11⟩, tb, -⟩, ⟨⟨q9, q0⟩, -⟩⟩ := id hP
  have yc : ∀ k, k < 49 ∨ 73 ≤ k → B k = A k := Ch_kp hh.1 (by decide)
  have z51 : A 51 = I 51 := h0.1 51 (by decide)
  have x5 := XI_o hC.2.1.1
  have b3 : B 3 = I 3 := ((yc 3 (by decide)).trans (Fw_row h0.2.2.2.1 3 (by decide) (by decide) (by decide)))
  have k51 : ∀ j : Nat, j < 256 → B 51 j = A 51 j := fun j hj => by rw [hh.2.2.2.2, up1_n _ _ (by omega)]
  exact CD7_g h hC (fun s hs => by rw [b3, k51 s hs, z51]; exact h.1 s hs) (SRF_of h.2.1 ((yc 43 (by decide)).trans (Fw_row h0.2.2.2.1 43 (by decide) (by decide) (by decide))) ((yc 44 (by decide)).trans (Fw_row h0.2.2.2.1 44 (by decide) (by decide) (by decide))) ((yc 45 (by decide)).trans (Fw_row h0.2.2.2.1 45 (by decide) (by decide) (by decide)))) rfl ((hh.1.1 52 (by decide) (by decide)).trans (h0.1 52 (by decide))) (fun k h1 _ => (yc k (by omega)).trans (h0.1 k (by omega)))
set_option maxHeartbeats 1000000 in
theorem CH_cheap {I A B J JA JB : aI1} {R : aR1} {S : aS1} (hP : CPG I R S) (h : CD7 I R) (hC : CI I R S) (h0 : Kp 0 49 I A ∧ Kp 0 49 J JA ∧ CX A ∧ Fw [18, 19, 20, 21, 22, 23, 24, 25, 26, 27, 28, 29, 30, 31, 32, 33, 34, 35, 36] [] I A ∧ True) (hh : Ch [70, 71] [] A B ∧ Kp 49 73 JA JB ∧ RX B ∧ True) : CD7 B R := by
  obtain ⟨⟨⟨q8, q15, q12, q5, q6, q7, q11⟩, tb, -⟩, ⟨⟨q9, q0⟩, -⟩⟩ := id hP
  have yc : ∀ k, k < 49 ∨ 73 ≤ k → B k = A k := Ch_kp hh.1 (by decide)
  have z51 : A 51 = I 51 := h0.1 51 (by decide)
  have x5 := XI_o hC.2.1.1
  have b3 : B 3 = I 3 := ((yc 3 (by decide)).trans (Fw_row h0.2.2.2.1 3 (by decide) (by decide) (by decide)))
  have k51 : ∀ j : Nat, j < 256 → B 51 j = A 51 j := fun j _ => congrFun (hh.1.1 51 (by decide) (by decide)) j
  exact CD7_g h hC (fun s hs => by rw [b3, k51 s hs, z51]; exact h.1 s hs) (SRF_of h.2.1 ((yc 43 (by decide)).trans (Fw_row h0.2.2.2.1 43 (by decide) (by decide) (by decide))) ((yc 44 (by decide)).trans (Fw_row h0.2.2.2.1 44 (by decide) (by decide) (by decide))) ((yc 45 (by decide)).trans (Fw_row h0.2.2.2.1 45 (by decide) (by decide) (by decide)))) rfl ((hh.1.1 52 (by decide) (by decide)).trans (h0.1 52 (by decide))) (fun k h1 _ => (yc k (by omega)).trans (h0.1 k (by omega)))
set_option maxHeartbeats 1000000 in
theorem CH_plan {I A B J JA JB : aI1} {R : aR1} {S : aS1} (hP : CPG I R S) (h : CD7 I R) (hC : CI I R S) (h0 : Kp 0 49 I A ∧ Kp 0 49 J JA ∧ CX A ∧ Fw [18, 19, 20, 21, 22, 23, 24, 25, 26, 27, 28, 29, 30, 31, 32, 33, 34, 35, 36] [] I A ∧ True) (hh : Ch [70, 71] [] A B ∧ Kp 49 73 JA JB ∧ RX B ∧ True) : CD7 B R := by
  obtain ⟨⟨⟨q8, q15, q12, q5, q6, q7, q11⟩, tb, -⟩, ⟨⟨q9, q0⟩, -⟩⟩ := id hP
  have yc : ∀ k, k < 49 ∨ 73 ≤ k → B k = A k := Ch_kp hh.1 (by decide)
  have z51 : A 51 = I 51 := h0.1 51 (by decide)
  have x5 := XI_o hC.2.1.1
  have b3 : B 3 = I 3 := ((yc 3 (by decide)).trans (Fw_row h0.2.2.2.1 3 (by decide) (by decide) (by decide)))
  have k51 : ∀ j : Nat, j < 256 → B 51 j = A 51 j := fun j _ => congrFun (hh.1.1 51 (by decide) (by decide)) j
  exact CD7_g h hC (fun s hs => by rw [b3, k51 s hs, z51]; exact h.1 s hs) (SRF_of h.2.1 ((yc 43 (by decide)).trans (Fw_row h0.2.2.2.1 43 (by decide) (by decide) (by decide))) ((yc 44 (by decide)).trans (Fw_row h0.2.2.2.1 44 (by decide) (by decide) (by decide))) ((yc 45 (by decide)).trans (Fw_row h0.2.2.2.1 45 (by decide) (by decide) (by decide)))) rfl ((hh.1.1 52 (by decide) (by decide)).trans (h0.1 52 (by decide))) (fun k h1 _ => (yc k (by omega)).trans (h0.1 k (by omega)))
set_option maxHeartbeats 1000000 in
theorem CH_night {I A B J JA JB : aI1} {R : aR1} {S : aS1} (hP : CPG I R S) (h : CD7 I R) (hC : CI I R S) (h0 : Kp 0 49 I A ∧ Kp 0 49 J JA ∧ CX A ∧ Fw [18, 19, 20, 21, 22, 23, 24, 25, 26, 27, 28, 29, 30, 31, 32, 33, 34, 35, 36, 47, 48] [(0, 13), (0, 14), (0, 16)] I A ∧ True) (hh : Ch [50, 61, 72] [0, 1, 25, 39, 40, 41] A B ∧ Kp 49 73 JA JB ∧ RX B ∧ True) : CD7 B R := by
  obtain ⟨⟨⟨q8, q15, q12, q5, q6, q7, q11⟩, tb, -⟩, ⟨⟨q9, q0⟩, -⟩⟩ := id hP
  have yc : ∀ k, k < 49 ∨ 73 ≤ k → B k = A k := Ch_kp hh.1 (by decide)
  have z51 : A 51 = I 51 := h0.1 51 (by decide)
  have x5 := XI_o hC.2.1.1
  have b3 : B 3 = I 3 := ((yc 3 (by decide)).trans (Fw_row h0.2.2.2.1 3 (by decide) (by decide) (by decide)))
  have k51 : ∀ j : Nat, j < 256 → B 51 j = A 51 j := fun j _ => congrFun (hh.1.1 51 (by decide) (by decide)) j
  exact CD7_g h hC (fun s hs => by rw [b3, k51 s hs, z51]; exact h.1 s hs) (SRF_of h.2.1 ((yc 43 (by decide)).trans (Fw_row h0.2.2.2.1 43 (by decide) (by decide) (by decide))) ((yc 44 (by decide)).trans (Fw_row h0.2.2.2.1 44 (by decide) (by decide) (by decide))) ((yc 45 (by decide)).trans (Fw_row h0.2.2.2.1 45 (by decide) (by decide) (by decide)))) rfl ((hh.1.1 52 (by decide) (by decide)).trans (h0.1 52 (by decide))) (fun k h1 _ => (yc k (by omega)).trans (h0.1 k (by omega)))
set_option maxHeartbeats 1000000 in
theorem CH_drawn {I A B J JA JB : aI1} {R : aR1} {S : aS1} (hP : CPG I R S) (h : CD7 I R) (hC : CI I R S) (h0 : Kp 0 49 I A ∧ Kp 0 49 J JA ∧ CX A ∧ Fw [] [] I A ∧ True) (hh : A = B ∧ JA = JB ∧ True) : CD7 A R := by
  obtain ⟨⟨⟨q8, q15, q12, q5, q6, q7, q11⟩, tb, -⟩, ⟨⟨q9, q0⟩, -⟩⟩ := id hP
  obtain ⟨rfl, rfl, hh⟩ := hh
  have z51 : A 51 = I 51 := h0.1 51 (by decide)
  have x5 := XI_o hC.2.1.1
  have b3 : A 3 = I 3 := (Fw_row h0.2.2.2.1 3 (by decide) (by decide) (by decide))
  exact CD7_g h hC (fun s hs => by rw [b3, z51]; exact h.1 s hs) (SRF_of h.2.1 (Fw_row h0.2.2.2.1 43 (by decide) (by decide) (by decide)) (Fw_row h0.2.2.2.1 44 (by decide) (by decide) (by decide)) (Fw_row h0.2.2.2.1 45 (by decide) (by decide) (by decide))) rfl (h0.1 52 (by decide)) (fun k h1 _ => h0.1 k (by omega))
set_option maxHeartbeats 1000000 in
theorem CH_count {I A B J JA JB : aI1} {R : aR1} {S : aS1} (hP : CPG I R S) (h : CD7 I R) (hC : CI I R S) (h0 : Kp 0 49 I A ∧ Kp 0 49 J JA ∧ CX A ∧ Fw [] [] I A ∧ True) (hh : A = B ∧ JA = JB ∧ True) : CD7 A R := by
  obtain ⟨⟨⟨q8, q15, q12, q5, q6, q7, q11⟩, tb, -⟩, ⟨⟨q9, q0⟩, -⟩⟩ := id hP
  obtain ⟨rfl, rfl, hh⟩ := hh
  have z51 : A 51 = I 51 := h0.1 51 (by decide)
  have x5 := XI_o hC.2.1.1
  have b3 : A 3 = I 3 := (Fw_row h0.2.2.2.1 3 (by decide) (by decide) (by decide))
  exact CD7_g h hC (fun s hs => by rw [b3, z51]; exact h.1 s hs) (SRF_of h.2.1 (Fw_row h0.2.2.2.1 43 (by decide) (by decide) (by decide)) (Fw_row h0.2.2.2.1 44 (by decide) (by decide) (by decide)) (Fw_row h0.2.2.2.1 45 (by decide) (by decide) (by decide))) rfl (h0.1 52 (by decide)) (fun k h1 _ => h0.1 k (by omega))
set_option maxHeartbeats 1000000 in
theorem CH_status {I A B J JA JB : aI1} {R : aR1} {S : aS1} (hP : CPG I R S) (h : CD7 I R) (hC : CI I R S) (h0 : Kp 0 49 I A ∧ Kp 0 49 J JA ∧ CX A ∧ Fw [] [] I A ∧ True) (hh : A = B ∧ JA = JB ∧ True) : CD7 A R := by
  obtain ⟨⟨⟨q8, q15, q12, q5, q6, q7, q11⟩, tb, -⟩, ⟨⟨q9, q0⟩, -⟩⟩ := id hP
  obtain ⟨rfl, rfl, hh⟩ := hh
  have z51 : A 51 = I 51 := h0.1 51 (by decide)
  have x5 := XI_o hC.2.1.1
  have b3 : A 3 = I 3 := (Fw_row h0.2.2.2.1 3 (by decide) (by decide) (by decide))
  exact CD7_g h hC (fun s hs => by rw [b3, z51]; exact h.1 s hs) (SRF_of h.2.1 (Fw_row h0.2.2.2.1 43 (by decide) (by decide) (by decide)) (Fw_row h0.2.2.2.1 44 (by decide) (by decide) (by decide)) (Fw_row h0.2.2.2.1 45 (by decide) (by decide) (by decide))) rfl (h0.1 52 (by decide)) (fun k h1 _ => h0.1 k (by omega))
set_option maxHeartbeats 1000000 in
theorem CH_lamps {I A B J JA JB : aI1} {R : aR1} {S : aS1} {a x y : Int} (hP : CPG I R S) (h : CD7 I R) (hC : CI I R S) (h0 : Kp 0 49 I A ∧ Kp 0 49 J JA ∧ CX A ∧ Fw [2, 3, 18, 19, 20, 21, 22, 23, 24, 25, 26, 27, 28, 29, 30, 31, 32, 33, 34, 35, 36, 48] [(0, 16), (1, 5), (1, 7), (1, 8), (1, 10), (1, 11)] I A ∧ (¬ (1 ≤ a ∧ a ≤ 8) → x = -1 ∧ RFc I A (-1)) ∧ ((1 ≤ a ∧ a ≤ 8) → x = I 1 5 ∧ Fw [2, 3, 18, 19, 20, 21, 22, 23, 24, 25, 26, 27, 28, 29, 30, 31, 32, 33, 34, 35, 36] [(0, 16), (1, 5), (1, 7), (1, 8), (1, 10), (1, 11)] I A ∧ A 1 5 = a ∧ A 1 7 = 0 ∧ (∀ j, j < 8 → A 2 j = 1) ∧ A 0 16 = 0 ∧ A 1 8 = 0 ∧ A 1 10 = 0 ∧ A 1 11 = 0 ∧ (∀ s, s < 256 → A 3 s = -1))) (hh : Ch [50, 51] [0, 1] A B ∧ Kp 49 73 JA JB ∧ RX B ∧ (¬ (1 ≤ a ∧ a ≤ 8) → y = -1 ∧ B 51 = A 51) ∧ ((1 ≤ a ∧ a ≤ 8) → y = A 51 304 ∧ B 51 304 = a ∧ B 51 306 = 0 ∧ B 51 307 = 0 ∧ B 51 308 = 0 ∧ B 51 309 = 0 ∧ (∀ j, j < 8 → B 51 (256 + j) = 1) ∧ (∀ s, s < 256 → B 51 s = -1) ∧ (∀ j : Nat, 264 ≤ j → j ≠ 304 → j ≠ 306 → j ≠ 307 → j ≠ 308 → j ≠ 309 → B 51 j = A 51 j))) : CD7 B R := by
  obtain ⟨⟨⟨q8, q15, q12, q5, q6, q7, q11⟩, tb, -⟩, ⟨⟨q9, q0⟩, -⟩⟩ := id hP
  have yc : ∀ k, k < 49 ∨ 73 ≤ k → B k = A k := Ch_kp hh.1 (by decide)
  have z51 : A 51 = I 51 := h0.1 51 (by decide)
  have x5 := XI_o hC.2.1.1
  by_cases hv : 1 ≤ a ∧ a ≤ 8
  · have hg := (h0.2.2.2.2.2 hv).2.2.2.2.2.2.2.2.2
    have hd := (hh.2.2.2.2 hv).2.2.2.2.2.2.2.1
    exact CD7_g h hC (fun s hs => by rw [yc 3 (by decide), hg s hs, hd s hs]) (SRF_of h.2.1 ((yc 43 (by decide)).trans (Fw_row h0.2.2.2.1 43 (by decide) (by decide) (by decide))) ((yc 44 (by decide)).trans (Fw_row h0.2.2.2.1 44 (by decide) (by decide) (by decide))) ((yc 45 (by decide)).trans (Fw_row h0.2.2.2.1 45 (by decide) (by decide) (by decide)))) rfl ((hh.1.1 52 (by decide) (by decide)).trans (h0.1 52 (by decide))) (fun k h1 _ => (yc k (by omega)).trans (h0.1 k (by omega)))
  · have hb := h0.2.2.2.2.1 hv
    have hd := hh.2.2.2.1 hv
    exact CD7_g h hC (fun s hs => by rw [((yc 3 (by decide)).trans (Fw_row hb.2.1 3 (by decide) (by decide) (by decide))), hd.2, z51]; exact h.1 s hs) (SRF_of h.2.1 ((yc 43 (by decide)).trans (Fw_row hb.2.1 43 (by decide) (by decide) (by decide))) ((yc 44 (by decide)).trans (Fw_row hb.2.1 44 (by decide) (by decide) (by decide))) ((yc 45 (by decide)).trans (Fw_row hb.2.1 45 (by decide) (by decide) (by decide)))) rfl ((hh.1.1 52 (by decide) (by decide)).trans (h0.1 52 (by decide))) (fun k h1 _ => (yc k (by omega)).trans (h0.1 k (by omega)))
set_option maxHeartbeats 1000000 in
theorem CH_news {I A B J JA JB : aI1} {R : aR1} {S : aS1} {a x y : Int} (hP : CPG I R S) (h : CD7 I R) (hC : CI I R S) (h0 : Kp 0 49 I A ∧ Kp 0 49 J JA ∧ CX A ∧ Fw [3, 18, 19, 20, 21, 22, 23, 24, 25, 26, 27, 28, 29, 30, 31, 32, 33, 34, 35, 36, 48] [(0, 16), (1, 6), (1, 8), (1, 10), (1, 11)] I A ∧ (¬ (2 ≤ a ∧ a ≤ 8) → x = -1 ∧ RFc I A (-1)) ∧ ((2 ≤ a ∧ a ≤ 8) → x = I 1 6 ∧ Fw [3, 18, 19, 20, 21, 22, 23, 24, 25, 26, 27, 28, 29, 30, 31, 32, 33, 34, 35, 36] [(0, 16), (1, 6), (1, 8), (1, 10), (1, 11)] I A ∧ A 1 6 = a ∧ A 0 16 = 0 ∧ A 1 8 = 0 ∧ A 1 10 = 0 ∧ A 1 11 = 0 ∧ (∀ s, s < 256 → A 3 s = -1))) (hh : Ch [50, 51] [0, 1] A B ∧ Kp 49 73 JA JB ∧ RX B ∧ (¬ (2 ≤ a ∧ a ≤ 8) → y = -1 ∧ B 51 = A 51) ∧ ((2 ≤ a ∧ a ≤ 8) → y = A 51 305 ∧ B 51 = EMr (up1 (A 51) 305 a))) : CD7 B R := by
  obtain ⟨⟨⟨q8, q15, q12, q5, q6, q7, q11⟩, tb, -⟩, ⟨⟨q9, q0⟩, -⟩⟩ := id hP
  have yc : ∀ k, k < 49 ∨ 73 ≤ k → B k = A k := Ch_kp hh.1 (by decide)
  have z51 : A 51 = I 51 := h0.1 51 (by decide)
  have x5 := XI_o hC.2.1.1
  by_cases hv : 2 ≤ a ∧ a ≤ 8
  · have hg := (h0.2.2.2.2.2 hv).2.2.2.2.2.2.2
    have hd := (hh.2.2.2.2 hv).2
    exact CD7_g h hC (fun s hs => by
      rw [yc 3 (by decide), hg s hs, hd]
      unfold EMr
      rw [if_pos hs]) (SRF_of h.2.1 ((yc 43 (by decide)).trans (Fw_row h0.2.2.2.1 43 (by decide) (by decide) (by decide))) ((yc 44 (by decide)).trans (Fw_row h0.2.2.2.1 44 (by decide) (by decide) (by decide))) ((yc 45 (by decide)).trans (Fw_row h0.2.2.2.1 45 (by decide) (by decide) (by decide)))) rfl ((hh.1.1 52 (by decide) (by decide)).trans (h0.1 52 (by decide))) (fun k h1 _ => (yc k (by omega)).trans (h0.1 k (by omega)))
  · have hb := h0.2.2.2.2.1 hv
    have hd := hh.2.2.2.1 hv
    exact CD7_g h hC (fun s hs => by rw [((yc 3 (by decide)).trans (Fw_row hb.2.1 3 (by decide) (by decide) (by decide))), hd.2, z51]; exact h.1 s hs) (SRF_of h.2.1 ((yc 43 (by decide)).trans (Fw_row hb.2.1 43 (by decide) (by decide) (by decide))) ((yc 44 (by decide)).trans (Fw_row hb.2.1 44 (by decide) (by decide) (by decide))) ((yc 45 (by decide)).trans (Fw_row hb.2.1 45 (by decide) (by decide) (by decide)))) rfl ((hh.1.1 52 (by decide) (by decide)).trans (h0.1 52 (by decide))) (fun k h1 _ => (yc k (by omega)).trans (h0.1 k (by omega)))
set_option maxHeartbeats 1000000 in
theorem CH_read {I A B J JA JB : aI1} {R : aR1} {S : aS1} {a b x y : Int} (hP : CPG I R S) (h : CD7 I R) (hC : CI I R S) (h0 : Kp 0 49 I A ∧ Kp 0 49 J JA ∧ CX A ∧ Fw [3, 18, 19, 20, 21, 22, 23, 24, 25, 26, 27, 28, 29, 30, 31, 32, 33, 34, 35, 36, 48] [(0, 16)] I A ∧ (¬ (0 ≤ a ∧ a ≤ FU (I 1 5) ∧ (b = -1 ∨ (0 ≤ b ∧ b < I 1 6))) → x = -1 ∧ RFc I A (-1)) ∧ ((0 ≤ a ∧ a ≤ FU (I 1 5) ∧ (b = -1 ∨ (0 ≤ b ∧ b < I 1 6))) → x = I 3 a.toNat ∧ Fw [3, 18, 19, 20, 21, 22, 23, 24, 25, 26, 27, 28, 29, 30, 31, 32, 33, 34, 35, 36] [(0, 16)] I A ∧ A 0 16 = 0 ∧ A 3 = up1 (I 3) a.toNat b)) (hh : Ch [50, 51] [0, 1] A B ∧ Kp 49 73 JA JB ∧ RX B ∧ (¬ (0 ≤ a ∧ a ≤ FU (A 51 304) ∧ (b = -1 ∨ (0 ≤ b ∧ b < A 51 305))) → y = -1 ∧ B 51 = A 51) ∧ ((0 ≤ a ∧ a ≤ FU (A 51 304) ∧ (b = -1 ∨ (0 ≤ b ∧ b < A 51 305))) → y = A 51 a.toNat ∧ B 51 = up1 (A 51) a.toNat b)) : CD7 B R ∧ x = y := by
  obtain ⟨⟨⟨q8, q15, q12, q5, q6, q7, q11⟩, tb, -⟩, ⟨⟨q9, q0⟩, -⟩⟩ := id hP
  have yc : ∀ k, k < 49 ∨ 73 ≤ k → B k = A k := Ch_kp hh.1 (by decide)
  have z51 : A 51 = I 51 := h0.1 51 (by decide)
  have x5 := XI_o hC.2.1.1
  have ef : FU (A 51 304) = FU (I 1 5) := by rw [z51, ← q5]
  have e305 : A 51 305 = I 1 6 := by rw [z51, ← q6]
  have hd0 := hh.2.2.2
  rw [ef, e305] at hd0
  by_cases hv : 0 ≤ a ∧ a ≤ FU (I 1 5) ∧ (b = -1 ∨ (0 ≤ b ∧ b < I 1 6))
  · obtain ⟨g1, -, -, g2⟩ := h0.2.2.2.2.2 hv
    obtain ⟨g3, g4⟩ := hd0.2 hv
    refine ⟨CD7_g h hC (fun s hs => by
      rw [yc 3 (by decide), g2, g4, z51]
      by_cases e9 : s = a.toNat
      · rw [e9, up1_s, up1_s]
      · rw [up1_n _ _ e9, up1_n _ _ e9]; exact h.1 s hs) (SRF_of h.2.1 ((yc 43 (by decide)).trans (Fw_row h0.2.2.2.1 43 (by decide) (by decide) (by decide))) ((yc 44 (by decide)).trans (Fw_row h0.2.2.2.1 44 (by decide) (by decide) (by decide))) ((yc 45 (by decide)).trans (Fw_row h0.2.2.2.1 45 (by decide) (by decide) (by decide)))) rfl ((hh.1.1 52 (by decide) (by decide)).trans (h0.1 52 (by decide))) (fun k h1 _ => (yc k (by omega)).trans (h0.1 k (by omega))), ?_⟩
    rw [g1, g3, z51]
    exact h.1 _ (by omega)
  · have hb := h0.2.2.2.2.1 hv
    have hd := hd0.1 hv
    exact ⟨CD7_g h hC (fun s hs => by rw [((yc 3 (by decide)).trans (Fw_row hb.2.1 3 (by decide) (by decide) (by decide))), hd.2, z51]; exact h.1 s hs) (SRF_of h.2.1 ((yc 43 (by decide)).trans (Fw_row hb.2.1 43 (by decide) (by decide) (by decide))) ((yc 44 (by decide)).trans (Fw_row hb.2.1 44 (by decide) (by decide) (by decide))) ((yc 45 (by decide)).trans (Fw_row hb.2.1 45 (by decide) (by decide) (by decide)))) rfl ((hh.1.1 52 (by decide) (by decide)).trans (h0.1 52 (by decide))) (fun k h1 _ => (yc k (by omega)).trans (h0.1 k (by omega))), by have := hb.1; have := hd.1; omega⟩
set_option maxHeartbeats 1000000 in
theorem CH_row {I A B J JA JB : aI1} {R : aR1} {S : aS1} {x y : Int} (hP : CPG I R S) (h : CD7 I R) (hC : CI I R S) (h0 : Kp 0 49 I A ∧ Kp 0 49 J JA ∧ CX A ∧ Fw [3, 18, 19, 20, 21, 22, 23, 24, 25, 26, 27, 28, 29, 30, 31, 32, 33, 34, 35, 36, 48] [(0, 15), (0, 16), (8, 1)] I A ∧ (I 8 1 = 0 → x = -6 ∧ RFc I A (-6)) ∧ (¬ I 8 1 = 0 → Fw [3, 18, 19, 20, 21, 22, 23, 24, 25, 26, 27, 28, 29, 30, 31, 32, 33, 34, 35, 36] [(0, 15), (0, 16), (8, 1)] I A ∧ A 0 16 = 0 ∧ A 8 1 = 0 ∧ A 0 15 = max 0 (I 8 1 - (FU (I 1 5) + 1)) ∧ (∀ j : Nat, A 3 j = if (j : Int) < FU (I 1 5) + 1 then RWv (I 9) (I 8 1) (I 1 6) j else I 3 j) ∧ x = cnR (A 3) (FU (I 1 5) + 1).toNat)) (hh : Ch [50, 51] [0, 1, 6, 10] A B ∧ Kp 49 73 JA JB ∧ RX B ∧ B 49 10 = 0 ∧ (A 49 10 = 0 → y = -6 ∧ B 49 6 = A 49 6 ∧ B 51 = A 51) ∧ (¬ A 49 10 = 0 → B 49 6 = max 0 (A 49 10 - (FU (A 51 304) + 1)) ∧ (∀ j : Nat, B 51 j = if (j : Int) < FU (A 51 304) + 1 then RWv (A 55) (A 49 10) (A 51 305) j else A 51 j) ∧ y = cnR (B 51) (FU (A 51 304) + 1).toNat)) : CD7 B R := by
  obtain ⟨⟨⟨q8, q15, q12, q5, q6, q7, q11⟩, tb, -⟩, ⟨⟨q9, q0⟩, -⟩⟩ := id hP
  have yc : ∀ k, k < 49 ∨ 73 ≤ k → B k = A k := Ch_kp hh.1 (by decide)
  have z51 : A 51 = I 51 := h0.1 51 (by decide)
  have x5 := XI_o hC.2.1.1
  have ef : FU (A 51 304) = FU (I 1 5) := by rw [z51, ← q5]
  have e305 : A 51 305 = I 1 6 := by rw [z51, ← q6]
  have e10 : A 49 10 = I 8 1 := (congrFun (h0.1 49 (by decide)) 10).trans q8.symm
  have hd0 := hh.2.2.2
  rw [e10, ef, e305] at hd0
  by_cases hv : ¬ I 8 1 = 0
  · obtain ⟨-, -, -, -, c3, -⟩ := h0.2.2.2.2.2 hv
    obtain ⟨-, d2, -⟩ := hd0.2.2 hv
    have hrw : ∀ j : Nat, RWv (A 55) (I 8 1) (I 1 6) j = RWv (I 9) (I 8 1) (I 1 6) j := fun j => by
      unfold RWv
      rw [h0.1 55 (by decide)]
      by_cases hj9 : (j : Int) < I 8 1
      · have h9 := tb j hj9
        have hc9 := x5
        by_cases h8 : 0 ≤ I 55 j ∧ I 55 j < I 1 6
        · rw [if_pos ⟨hj9, h8⟩, if_pos (by omega)]; omega
        · rw [if_neg (by omega), if_neg (by omega)]
      · rw [if_neg (by omega), if_neg (by omega)]
    exact CD7_g h hC (fun s hs => by
      rw [yc 3 (by decide), c3 s, d2 s]
      by_cases e9 : (s : Int) < FU (I 1 5) + 1
      · rw [if_pos e9, if_pos e9, hrw s]
      · rw [if_neg e9, if_neg e9, z51]; exact h.1 s hs) (SRF_of h.2.1 ((yc 43 (by decide)).trans (Fw_row h0.2.2.2.1 43 (by decide) (by decide) (by decide))) ((yc 44 (by decide)).trans (Fw_row h0.2.2.2.1 44 (by decide) (by decide) (by decide))) ((yc 45 (by decide)).trans (Fw_row h0.2.2.2.1 45 (by decide) (by decide) (by decide)))) rfl ((hh.1.1 52 (by decide) (by decide)).trans (h0.1 52 (by decide))) (fun k h1 _ => (yc k (by omega)).trans (h0.1 k (by omega)))
  · have hv0 : I 8 1 = 0 := by omega
    have hb := h0.2.2.2.2.1 hv0
    have hd := (hd0.2.1 hv0).2
    exact CD7_g h hC (fun s hs => by rw [((yc 3 (by decide)).trans (Fw_row hb.2.1 3 (by decide) (by decide) (by decide))), hd.2, z51]; exact h.1 s hs) (SRF_of h.2.1 ((yc 43 (by decide)).trans (Fw_row hb.2.1 43 (by decide) (by decide) (by decide))) ((yc 44 (by decide)).trans (Fw_row hb.2.1 44 (by decide) (by decide) (by decide))) ((yc 45 (by decide)).trans (Fw_row hb.2.1 45 (by decide) (by decide) (by decide)))) rfl ((hh.1.1 52 (by decide) (by decide)).trans (h0.1 52 (by decide))) (fun k h1 _ => (yc k (by omega)).trans (h0.1 k (by omega)))
set_option maxHeartbeats 1000000 in
theorem CH_learn {I A B J JA JB : aI1} {R : aR1} {S : aS1} {qsf : Nat → List zQ} {a x y : Int} (hP : CPG I R S) (h : CD7 I R) (hC : CI I R S) (h0 : Kp 0 49 I A ∧ Kp 0 49 J JA ∧ CX A ∧ Fw [3, 15, 16, 17, 18, 19, 20, 21, 22, 23, 24, 25, 26, 27, 28, 29, 30, 31, 32, 33, 34, 35, 36, 48] [(0, 16)] I A ∧ (¬ (0 ≤ a ∧ a < I 1 9) → x = -2 ∧ RFc I A (-2)) ∧ ((0 ≤ a ∧ a < I 1 9) → Fw [3, 15, 16, 17, 18, 19, 20, 21, 22, 23, 24, 25, 26, 27, 28, 29, 30, 31, 32, 33, 34, 35, 36] [(0, 16)] I A ∧ A 0 16 = 0 ∧ (∀ j : Nat, A 3 j = if (j : Int) ≤ FU (I 1 5) then zLd (qsf a.toNat) (I 1 5) (I 1 6) j else I 3 j) ∧ x = cnR (A 3) (FU (I 1 5) + 1).toNat)) (hh : Ch [50, 51, 60] [0, 1, 19, 20, 21] A B ∧ Kp 49 73 JA JB ∧ RX B ∧ (0 ≤ a ∧ a < A 51 310 → (∀ s : Nat, (s : Int) ≤ FU (A 51 304) → B 51 s = zLd (qsf a.toNat) (A 51 304) (A 51 305) s) ∧ (∀ s : Nat, ¬ (s : Int) ≤ FU (A 51 304) → B 51 s = A 51 s) ∧ y = cnR (B 51) (FU (A 51 304) + 1).toNat) ∧ (¬ (0 ≤ a ∧ a < A 51 310) → y = -2 ∧ B 51 = A 51)) : CD7 B R ∧ x = y := by
  obtain ⟨⟨⟨q8, q15, q12, q5, q6, q7, q11⟩, tb, -⟩, ⟨⟨q9, q0⟩, -⟩⟩ := id hP
  have yc : ∀ k, k < 49 ∨ 73 ≤ k → B k = A k := Ch_kp hh.1 (by decide)
  have z51 : A 51 = I 51 := h0.1 51 (by decide)
  have x5 := XI_o hC.2.1.1
  have e304 : A 51 304 = I 1 5 := by rw [z51, ← q5]
  have e305 : A 51 305 = I 1 6 := by rw [z51, ← q6]
  have e310 : A 51 310 = I 1 9 := by rw [z51, ← q9]
  have hd0 := hh.2.2.2
  rw [e310, e304, e305] at hd0
  by_cases hv : 0 ≤ a ∧ a < I 1 9
  · obtain ⟨-, -, c3, c4⟩ := h0.2.2.2.2.2 hv
    obtain ⟨d1, d2, d3⟩ := hd0.1 hv
    refine ⟨CD7_g h hC (fun s hs => by
      rw [yc 3 (by decide), c3 s]
      by_cases e9 : (s : Int) ≤ FU (I 1 5)
      · rw [if_pos e9, d1 s e9]
      · rw [if_neg e9, d2 s e9, z51]; exact h.1 s hs) (SRF_of h.2.1 ((yc 43 (by decide)).trans (Fw_row h0.2.2.2.1 43 (by decide) (by decide) (by decide))) ((yc 44 (by decide)).trans (Fw_row h0.2.2.2.1 44 (by decide) (by decide) (by decide))) ((yc 45 (by decide)).trans (Fw_row h0.2.2.2.1 45 (by decide) (by decide) (by decide)))) rfl ((hh.1.1 52 (by decide) (by decide)).trans (h0.1 52 (by decide))) (fun k h1 _ => (yc k (by omega)).trans (h0.1 k (by omega))), ?_⟩
    rw [c4, d3]
    refine cnR_cg _ (fun j hj => ?_)
    rw [c3 j, if_pos (by omega), d1 j (by omega)]
  · have hb := h0.2.2.2.2.1 hv
    have hd := hd0.2 hv
    exact ⟨CD7_g h hC (fun s hs => by rw [((yc 3 (by decide)).trans (Fw_row hb.2.1 3 (by decide) (by decide) (by decide))), hd.2, z51]; exact h.1 s hs) (SRF_of h.2.1 ((yc 43 (by decide)).trans (Fw_row hb.2.1 43 (by decide) (by decide) (by decide))) ((yc 44 (by decide)).trans (Fw_row hb.2.1 44 (by decide) (by decide) (by decide))) ((yc 45 (by decide)).trans (Fw_row hb.2.1 45 (by decide) (by decide) (by decide)))) rfl ((hh.1.1 52 (by decide) (by decide)).trans (h0.1 52 (by decide))) (fun k h1 _ => (yc k (by omega)).trans (h0.1 k (by omega))), by have := hb.1; have := hd.1; omega⟩
set_option maxHeartbeats 1000000 in
theorem CH_make {I A B J JA JB : aI1} {R : aR1} {S : aS1} {a b c x y : Int} (hP : CPG I R S) (h : CD7 I R) (hC : CI I R S) (h0 : Kp 0 49 I A ∧ Kp 0 49 J JA ∧ CX A ∧ Fw [3, 18, 19, 20, 21, 22, 23, 24, 25, 26, 27, 28, 29, 30, 31, 32, 33, 34, 35, 36, 37, 38, 39, 40, 41, 42, 43, 44, 45, 48] [(0, 16)] I A ∧ SR A ∧ SRF A ∧ (¬ (1 ≤ a ∧ a ≤ 3 ∧ 2 ≤ b ∧ b ≤ 4 ∧ 0 ≤ c ∧ c ≤ 8) → x = -1 ∧ A 3 = I 3) ∧ ((1 ≤ a ∧ a ≤ 3 ∧ 2 ≤ b ∧ b ≤ 4 ∧ 0 ≤ c ∧ c ≤ 8) → ¬ (a = I 1 5 ∧ b = I 1 6 ∧ ¬ TBX a b c = 0) → x = -3 ∧ A 3 = I 3) ∧ ((1 ≤ a ∧ a ≤ 3 ∧ 2 ≤ b ∧ b ≤ 4 ∧ 0 ≤ c ∧ c ≤ 8) → (a = I 1 5 ∧ b = I 1 6 ∧ ¬ TBX a b c = 0) → x = 0 ∧ ∀ j : Nat, A 3 j = if j < 2 ^ a.toNat then ((gd (S0 b.toNat (2 ^ a.toNat) c.toNat) j : Nat) : Int) else I 3 j)) (hh : Ch [50, 51, 61, 65, 66] [0, 1, 25, 31] A B ∧ Kp 49 73 JA JB ∧ RX B ∧ (¬ (1 ≤ a ∧ a ≤ 3 ∧ 2 ≤ b ∧ b ≤ 4 ∧ 0 ≤ c ∧ c ≤ 8) → y = -1 ∧ B 51 = A 51) ∧ ((1 ≤ a ∧ a ≤ 3 ∧ 2 ≤ b ∧ b ≤ 4 ∧ 0 ≤ c ∧ c ≤ 8) → ¬ (a = A 51 304 ∧ b = A 51 305 ∧ ¬ TBX a b c = 0) → y = -3 ∧ B 51 = A 51) ∧ ((1 ≤ a ∧ a ≤ 3 ∧ 2 ≤ b ∧ b ≤ 4 ∧ 0 ≤ c ∧ c ≤ 8) → (a = A 51 304 ∧ b = A 51 305 ∧ ¬ TBX a b c = 0) → y = 0 ∧ ∃ c0, cN b.toNat (FU a + 1).toNat c.toNat c0 = 0 ∧ c.toNat ≤ DL b.toNat (dgs b.toNat (FU a + 1).toNat c0) ∧ ∀ j : Nat, B 51 j = if (j : Int) < FU a + 1 then ((gd (dgs b.toNat (FU a + 1).toNat c0) j : Nat) : Int) else A 51 j)) : CD7 B R ∧ x = y := by
  obtain ⟨⟨⟨q8, q15, q12, q5, q6, q7, q11⟩, tb, -⟩, ⟨⟨q9, q0⟩, -⟩⟩ := id hP
  have yc : ∀ k, k < 49 ∨ 73 ≤ k → B k = A k := Ch_kp hh.1 (by decide)
  have z51 : A 51 = I 51 := h0.1 51 (by decide)
  have x5 := XI_o hC.2.1.1
  have e304 : A 51 304 = I 1 5 := by rw [z51, ← q5]
  have e305 : A 51 305 = I 1 6 := by rw [z51, ← q6]
  have hd0 := hh.2.2.2
  rw [e304, e305] at hd0
  have hc0 := h0.2.2.2.2.2.2
  by_cases hv : 1 ≤ a ∧ a ≤ 3 ∧ 2 ≤ b ∧ b ≤ 4 ∧ 0 ≤ c ∧ c ≤ 8
  · by_cases hw : a = I 1 5 ∧ b = I 1 6 ∧ ¬ TBX a b c = 0
    · obtain ⟨c1, c2⟩ := hc0.2.2 hv hw
      obtain ⟨d1, c0, d2, d3, d4⟩ := hd0.2.2 hv hw
      have hf2 := FU_2 (a := a) (by omega) (by omega)
      rw [hf2] at d2 d3 d4
      have hfe := first_eq (n := a) (k := b) (t := c) (by omega) (by omega) (by omega) (by omega) (by omega) hw.2.2 d2 d3
      have hfr := FU_r (n := a) (by omega) (by omega)
      refine ⟨CD7_g h hC (fun s hs => ?_) (SRF_of h0.2.2.2.2.2.1 (yc 43 (by decide)) (yc 44 (by decide)) (yc 45 (by decide))) rfl ((hh.1.1 52 (by decide) (by decide)).trans (h0.1 52 (by decide))) (fun k h1 _ => (yc k (by omega)).trans (h0.1 k (by omega))), by omega⟩
      rw [yc 3 (by decide), c2 s, d4 s]
      by_cases e9 : s < 2 ^ a.toNat
      · rw [if_pos e9, if_pos (by omega), hfe]
      · rw [if_neg e9, if_neg (by omega), z51]; exact h.1 s hs
    · have hb := hc0.2.1 hv hw
      have hd := hd0.2.1 hv hw
      exact ⟨CD7_g h hC (fun s hs => by rw [yc 3 (by decide), hb.2, hd.2, z51]; exact h.1 s hs) (SRF_of h0.2.2.2.2.2.1 (yc 43 (by decide)) (yc 44 (by decide)) (yc 45 (by decide))) rfl ((hh.1.1 52 (by decide) (by decide)).trans (h0.1 52 (by decide))) (fun k h1 _ => (yc k (by omega)).trans (h0.1 k (by omega))), by omega⟩
  · have hb := hc0.1 hv
    have hd := hd0.1 hv
    exact ⟨CD7_g h hC (fun s hs => by rw [yc 3 (by decide), hb.2, hd.2, z51]; exact h.1 s hs) (SRF_of h0.2.2.2.2.2.1 (yc 43 (by decide)) (yc 44 (by decide)) (yc 45 (by decide))) rfl ((hh.1.1 52 (by decide) (by decide)).trans (h0.1 52 (by decide))) (fun k h1 _ => (yc k (by omega)).trans (h0.1 k (by omega))), by omega⟩
set_option maxHeartbeats 1000000 in
theorem CH_back {I A B J JA JB : aI1} {R R' : aR1} {S S' : aS1} {a x y : Int} (hP : CPG I R S) (h : CD7 I R) (hC : CI I R S) (h0 : CI A R' S' ∧ (∀ k, 49 ≤ k → k < 73 → A k = I k ∧ JA k = J k ∧ R' k = R k) ∧ Fw [1, 2, 3, 5, 6, 18, 19, 20, 21, 22, 23, 24, 25, 26, 27, 28, 29, 30, 31, 32, 33, 34, 35, 36, 48] [(0, 16)] I A ∧ (¬ (0 ≤ a ∧ a < 2) → x = -1 ∧ RFc I A (-1)) ∧ (¬ (0 ≤ a ∧ a < 2) → R' 7 = R 7 ∧ R' 4 = R 4 ∧ (∀ k, 73 ≤ k → A k = I k ∧ R' k = R k)) ∧ ((0 ≤ a ∧ a < 2) → R 7 a.toNat = none → x = -2 ∧ RFc I A (-2) ∧ R' 7 = R 7 ∧ R' 4 = R 4 ∧ (∀ k, 73 ≤ k → A k = I k ∧ R' k = R k)) ∧ ((0 ≤ a ∧ a < 2) → ∀ c, R 7 a.toNat = some c → x = 0 ∧ Fw [1, 2, 3, 5, 6, 18, 19, 20, 21, 22, 23, 24, 25, 26, 27, 28, 29, 30, 31, 32, 33, 34, 35, 36] [(0, 16)] I A ∧ A 0 16 = 0 ∧ BkC I A R R' c ∧ R' 7 = R 7 ∧ (∀ k, 73 ≤ k → A k = I k ∧ R' k = R k)) ∧ S = S') (hh : Ch [50, 51] [0, 1] A B ∧ Kp 49 73 JA JB ∧ RX B ∧ (¬ (0 ≤ a ∧ a < 2) → y = -1 ∧ B 51 = A 51) ∧ ((0 ≤ a ∧ a < 2) → (A 53 a.toNat = 0 → y = -2 ∧ B 51 = A 51) ∧ (¬ A 53 a.toNat = 0 → y = 0 ∧ ∀ j : Nat, j < 5117 → B 51 j = A 52 (5117 * a.toNat + j)))) : CD7 B R' := by
  obtain ⟨-, -, -⟩ := id hP.1
  have yc : ∀ k, k < 49 ∨ 73 ≤ k → B k = A k := Ch_kp hh.1 (by decide)
  have zz : ∀ k, 49 ≤ k → k < 73 → A k = I k := fun k h1 h2 => (h0.2.1 k h1 h2).1
  have z51 := zz 51 (by decide) (by decide)
  have z52 := zz 52 (by decide) (by decide)
  have z53 := zz 53 (by decide) (by decide)
  have hHI : HI5 I R := hP.1.2.2.2.2.2.2.1
  have r52 : B 52 = I 52 := (hh.1.1 52 (by decide) (by decide)).trans z52
  have w := h0.2.2.1
  have sf : SRF B := SRF_of h.2.1 ((yc 43 (by decide)).trans (Fw_row w 43 (by decide) (by decide) (by decide))) ((yc 44 (by decide)).trans (Fw_row w 44 (by decide) (by decide) (by decide))) ((yc 45 (by decide)).trans (Fw_row w 45 (by decide) (by decide) (by decide)))
  obtain ⟨-, -, -, c1, c2, c3, c4, rfl⟩ := h0
  obtain ⟨d1, d2⟩ := hh.2.2.2
  have same : R' 7 = R 7 → (∀ k, 73 ≤ k → A k = I k ∧ R' k = R k) → A 3 = I 3 → B 51 = A 51 → CD7 B R' := fun e7 ek e3 e51 => CD7_g h hC (fun s hs => by rw [yc 3 (by decide), e3, e51, z51]; exact h.1 s hs) sf e7 r52 (fun k h1 _ => (yc k (Or.inr h1)).trans (ek k h1).1)
  by_cases hv : 0 ≤ a ∧ a < 2
  · have d2 := d2 hv
    rw [z53] at d2
    have h4 := hHI a.toNat (by omega)
    cases hn : R 7 a.toNat with
    | none =>
      obtain ⟨-, u2, u3, u4, u5⟩ := c3 hv hn
      exact same u3 u5 (Fw_row u2.1 3 (by decide) (by decide) (by decide)) (d2.1 (h4.mp hn)).2
    | some c0 =>
      obtain ⟨-, u2, u3, u4, u5, u6⟩ := c4 hv c0 hn
      have d3 := (d2.2 (fun q => by rw [h4.mpr q] at hn; cases hn)).2
      exact CD7_g h hC (fun s hs => by rw [yc 3 (by decide), u4.2.2.1 s hs, d3 s (by omega), z52]; exact h.2.2 a.toNat (by omega) c0 hn s hs) sf u5 r52 (fun k h1 _ => (yc k (Or.inr h1)).trans (u6 k h1).1)
  · obtain ⟨e7, e4, ek⟩ := c2 hv
    exact same e7 ek (Fw_row (c1 hv).2.1 3 (by decide) (by decide) (by decide)) (d1 hv).2
set_option maxHeartbeats 1000000 in
theorem CH_image {I A B J JA JB : aI1} {R R' : aR1} {S S' : aS1} {a x y : Int} (hP : CPG I R S) (h : CD7 I R) (hC : CI I R S) (h0 : CI A R' S' ∧ (∀ k, 49 ≤ k → k < 73 → A k = I k ∧ JA k = J k ∧ R' k = R k) ∧ Fw [48] [(0, 16)] I A ∧ (¬ (0 ≤ a ∧ a < 2) → x = -1 ∧ RFc I A (-1)) ∧ (¬ (0 ≤ a ∧ a < 2) → R' 7 = R 7 ∧ R' 4 = R 4 ∧ (∀ k, 73 ≤ k → A k = I k ∧ R' k = R k)) ∧ ((0 ≤ a ∧ a < 2) → x = 0 ∧ Fw [] [(0, 16)] I A ∧ A 0 16 = 0 ∧ ∃ c, R' 7 a.toNat = some c ∧ ImC I A R R' c ∧ (∀ j, j ≠ a.toNat → R' 7 j = R 7 j) ∧ (∀ j, j < 2 → j ≠ a.toNat → ∀ c', R 7 j = some c' → (∀ k, k < 6 → A (c' + k) = I (c' + k)) ∧ R' (c' + 3) = R (c' + 3)) ∧ ((R 7 a.toNat = some c ∧ R' 7 = R 7) ∨ c = S.length) ∧ R' 4 = R 4 ∧ (∀ k, 73 ≤ k → k < S.length → (k < c ∨ c + 6 ≤ k) → A k = I k ∧ R' k = R k)) ∧ SX S S') (hh : Ch [50, 52, 53] [0, 1] A B ∧ Kp 49 73 JA JB ∧ RX B ∧ (¬ (0 ≤ a ∧ a < 2) → y = -1 ∧ B 53 = A 53 ∧ B 52 = A 52) ∧ ((0 ≤ a ∧ a < 2) → y = 0 ∧ B 53 = up1 (A 53) a.toNat 1 ∧ (∀ j : Nat, j < 5117 → B 52 (5117 * a.toNat + j) = A 51 j) ∧ (∀ b : Nat, (b < 5117 * a.toNat ∨ 5117 * a.toNat + 5117 ≤ b) → B 52 b = A 52 b))) : CD7 B R' := by
  have yc : ∀ k, k < 49 ∨ 73 ≤ k → B k = A k := Ch_kp hh.1 (by decide)
  have zz : ∀ k, 49 ≤ k → k < 73 → A k = I k := fun k h1 h2 => (h0.2.1 k h1 h2).1
  have z51 := zz 51 (by decide) (by decide)
  have z52 := zz 52 (by decide) (by decide)
  have b51 : B 51 = I 51 := (hh.1.1 51 (by decide) (by decide)).trans z51
  have w := h0.2.2.1
  have b3 : B 3 = I 3 := (yc 3 (by decide)).trans (Fw_row w 3 (by decide) (by decide) (by decide))
  have sf : SRF B := SRF_of h.2.1 ((yc 43 (by decide)).trans (Fw_row w 43 (by decide) (by decide) (by decide))) ((yc 44 (by decide)).trans (Fw_row w 44 (by decide) (by decide) (by decide))) ((yc 45 (by decide)).trans (Fw_row w 45 (by decide) (by decide) (by decide)))
  have c3 : ∀ s, s < 256 → B 3 s = B 51 s := fun s hs => by rw [b3, b51]; exact h.1 s hs
  obtain ⟨-, -, -, c1, c2, c4, hS⟩ := h0
  obtain ⟨d1, d2⟩ := hh.2.2.2
  by_cases hv : 0 ≤ a ∧ a < 2
  · obtain ⟨-, -, -, c0, r1, ic, r2, r3, r4, e4, hk⟩ := c4 hv
    obtain ⟨-, -, d3, d4⟩ := d2 hv
    refine ⟨c3, sf, fun i hi c hc => ?_⟩
    by_cases hia : i = a.toNat
    · subst hia
      rw [r1] at hc
      cases hc
      intro s hs
      have hc73 : 73 ≤ c0 := by
        rcases r4 with ⟨r4, -⟩ | r4
        · exact (hC.2.2.2 a.toNat (by omega) c0 r4).1
        · rw [r4]; exact (List.getElem?_eq_some_iff.mp (xs_72 hC.1)).1
      rw [yc (c0 + 2) (by omega), ic.2.2.1 s hs, d3 s (by omega), z51]
      exact h.1 s hs
    · rw [r2 i hia] at hc
      have hco := hC.2.2.2 i hi c hc
      obtain ⟨k1, k2, k3⟩ := coast_lt hco
      obtain ⟨o1, o2⟩ := r3 i hi hia c hc
      intro s hs
      rw [yc (c + 2) (by omega), o1 2 (by decide), d4 _ (by omega), z52]
      exact h.2.2 i hi c hc s hs
  · obtain ⟨e7, e4, ek⟩ := c2 hv
    obtain ⟨-, -, d52⟩ := d1 hv
    exact CD7_g h hC c3 sf e7 (d52.trans z52) (fun k g1 _ => (yc k (Or.inr g1)).trans (ek k g1).1)
set_option maxHeartbeats 1000000 in
theorem C65_codes {I A J JA : aI1} {a b c x : Int} (h0 : Kp 0 49 I A ∧ Kp 0 49 J JA ∧ CX A ∧ Fw [37, 38, 39, 40, 41, 42, 43, 44, 45] [] I A ∧ SR A ∧ SRF A ∧ (¬ (1 ≤ a ∧ a ≤ 3 ∧ 2 ≤ b ∧ b ≤ 4 ∧ 0 ≤ c ∧ c ≤ 8) → x = -1) ∧ ((1 ≤ a ∧ a ≤ 3 ∧ 2 ≤ b ∧ b ≤ 4 ∧ 0 ≤ c ∧ c ≤ 8) → x = TBX a b c)) : Kp 0 49 I A ∧ Kp 0 49 J JA ∧ CX A ∧ Fw [37, 38, 39, 40, 41, 42, 43, 44, 45] [] I A ∧ SR A ∧ (¬ (1 ≤ a ∧ a ≤ 3 ∧ 2 ≤ b ∧ b ≤ 4 ∧ 0 ≤ c ∧ c ≤ 8) → x = -1) ∧ ((1 ≤ a ∧ a ≤ 3 ∧ 2 ≤ b ∧ b ≤ 4 ∧ 0 ≤ c ∧ c ≤ 8) → x = TBX a b c) := by
  exact ⟨h0.1, h0.2.1, h0.2.2.1, h0.2.2.2.1, h0.2.2.2.2.1, h0.2.2.2.2.2.2⟩
set_option maxHeartbeats 1000000 in
theorem C65_make {I A J JA : aI1} {a b c x : Int} (h0 : Kp 0 49 I A ∧ Kp 0 49 J JA ∧ CX A ∧ Fw [3, 18, 19, 20, 21, 22, 23, 24, 25, 26, 27, 28, 29, 30, 31, 32, 33, 34, 35, 36, 37, 38, 39, 40, 41, 42, 43, 44, 45, 48] [(0, 16)] I A ∧ SR A ∧ SRF A ∧ (¬ (1 ≤ a ∧ a ≤ 3 ∧ 2 ≤ b ∧ b ≤ 4 ∧ 0 ≤ c ∧ c ≤ 8) → x = -1 ∧ A 3 = I 3) ∧ ((1 ≤ a ∧ a ≤ 3 ∧ 2 ≤ b ∧ b ≤ 4 ∧ 0 ≤ c ∧ c ≤ 8) → ¬ (a = I 1 5 ∧ b = I 1 6 ∧ ¬ TBX a b c = 0) → x = -3 ∧ A 3 = I 3) ∧ ((1 ≤ a ∧ a ≤ 3 ∧ 2 ≤ b ∧ b ≤ 4 ∧ 0 ≤ c ∧ c ≤ 8) → (a = I 1 5 ∧ b = I 1 6 ∧ ¬ TBX a b c = 0) → x = 0 ∧ ∀ j : Nat, A 3 j = if j < 2 ^ a.toNat then ((gd (S0 b.toNat (2 ^ a.toNat) c.toNat) j : Nat) : Int) else I 3 j)) : Kp 0 49 I A ∧ Kp 0 49 J JA ∧ CX A ∧ Fw [3, 18, 19, 20, 21, 22, 23, 24, 25, 26, 27, 28, 29, 30, 31, 32, 33, 34, 35, 36, 37, 38, 39, 40, 41, 42, 43, 44, 45, 48] [(0, 16)] I A ∧ SR A ∧ (¬ (1 ≤ a ∧ a ≤ 3 ∧ 2 ≤ b ∧ b ≤ 4 ∧ 0 ≤ c ∧ c ≤ 8) → x = -1) ∧ ((1 ≤ a ∧ a ≤ 3 ∧ 2 ≤ b ∧ b ≤ 4 ∧ 0 ≤ c ∧ c ≤ 8) → ¬ (a = I 1 5 ∧ b = I 1 6 ∧ ¬ TBX a b c = 0) → x = -3) ∧ ((1 ≤ a ∧ a ≤ 3 ∧ 2 ≤ b ∧ b ≤ 4 ∧ 0 ≤ c ∧ c ≤ 8) → (a = I 1 5 ∧ b = I 1 6 ∧ ¬ TBX a b c = 0) → x = 0) := by
  have g := h0.2.2.2.2.2.2
  exact ⟨h0.1, h0.2.1, h0.2.2.1, h0.2.2.2.1, h0.2.2.2.2.1, fun h1 => (g.1 h1).1, fun h1 h2 => (g.2.1 h1 h2).1, fun h1 h2 => (g.2.2 h1 h2).1⟩
set_option maxHeartbeats 1000000 in
theorem R65_codes {A B JA JB : aI1} {a b c y : Int} (hQ : RX A) (hh : Ch [51, 61, 65, 66] [25, 31] A B ∧ Kp 49 73 JA JB ∧ RX B ∧ (¬ (1 ≤ a ∧ a ≤ 3 ∧ 2 ≤ b ∧ b ≤ 4 ∧ 0 ≤ c ∧ c ≤ 8) → y = -1) ∧ ((1 ≤ a ∧ a ≤ 3 ∧ 2 ≤ b ∧ b ≤ 4 ∧ 0 ≤ c ∧ c ≤ 8) → y = TBX a b c) ∧ B 51 = A 51) : Ch [51, 61, 65, 66] [25, 31] A B ∧ Kp 49 73 JA JB ∧ RX B ∧ (¬ (1 ≤ a ∧ a ≤ 3 ∧ 2 ≤ b ∧ b ≤ 4 ∧ 0 ≤ c ∧ c ≤ 8) → y = -1) ∧ ((1 ≤ a ∧ a ≤ 3 ∧ 2 ≤ b ∧ b ≤ 4 ∧ 0 ≤ c ∧ c ≤ 8) → y = TBX a b c) ∧ (∀ j : Nat, 256 ≤ j → B 51 j = A 51 j) := by
  exact ⟨hh.1, hh.2.1, hh.2.2.1, hh.2.2.2.1, hh.2.2.2.2.1, fun j _ => congrFun hh.2.2.2.2.2 j⟩
set_option maxHeartbeats 1000000 in
theorem R65_make {A B JA JB : aI1} {a b c y : Int} (hQ : RX A) (hh : Ch [50, 51, 61, 65, 66] [0, 1, 25, 31] A B ∧ Kp 49 73 JA JB ∧ RX B ∧ (¬ (1 ≤ a ∧ a ≤ 3 ∧ 2 ≤ b ∧ b ≤ 4 ∧ 0 ≤ c ∧ c ≤ 8) → y = -1 ∧ B 51 = A 51) ∧ ((1 ≤ a ∧ a ≤ 3 ∧ 2 ≤ b ∧ b ≤ 4 ∧ 0 ≤ c ∧ c ≤ 8) → ¬ (a = A 51 304 ∧ b = A 51 305 ∧ ¬ TBX a b c = 0) → y = -3 ∧ B 51 = A 51) ∧ ((1 ≤ a ∧ a ≤ 3 ∧ 2 ≤ b ∧ b ≤ 4 ∧ 0 ≤ c ∧ c ≤ 8) → (a = A 51 304 ∧ b = A 51 305 ∧ ¬ TBX a b c = 0) → y = 0 ∧ ∃ c0, cN b.toNat (FU a + 1).toNat c.toNat c0 = 0 ∧ c.toNat ≤ DL b.toNat (dgs b.toNat (FU a + 1).toNat c0) ∧ ∀ j : Nat, B 51 j = if (j : Int) < FU a + 1 then ((gd (dgs b.toNat (FU a + 1).toNat c0) j : Nat) : Int) else A 51 j)) : Ch [50, 51, 61, 65, 66] [0, 1, 25, 31] A B ∧ Kp 49 73 JA JB ∧ RX B ∧ B 51 304 = A 51 304 ∧ B 51 305 = A 51 305 ∧ B 51 309 = A 51 309 ∧ (¬ (1 ≤ a ∧ a ≤ 3 ∧ 2 ≤ b ∧ b ≤ 4 ∧ 0 ≤ c ∧ c ≤ 8) → y = -1) ∧ ((1 ≤ a ∧ a ≤ 3 ∧ 2 ≤ b ∧ b ≤ 4 ∧ 0 ≤ c ∧ c ≤ 8) → ¬ (a = A 51 304 ∧ b = A 51 305 ∧ ¬ TBX a b c = 0) → y = -3) ∧ ((1 ≤ a ∧ a ≤ 3 ∧ 2 ≤ b ∧ b ≤ 4 ∧ 0 ≤ c ∧ c ≤ 8) → (a = A 51 304 ∧ b = A 51 305 ∧ ¬ TBX a b c = 0) → y = 0) ∧ (∀ j : Nat, 256 ≤ j → B 51 j = A 51 j) := by
  have g := hh.2.2.2
  have k51 : ∀ j : Nat, 256 ≤ j → B 51 j = A 51 j := fun j hj => by
    by_cases hv : 1 ≤ a ∧ a ≤ 3 ∧ 2 ≤ b ∧ b ≤ 4 ∧ 0 ≤ c ∧ c ≤ 8
    · by_cases hw : a = A 51 304 ∧ b = A 51 305 ∧ ¬ TBX a b c = 0
      · obtain ⟨-, c0, -, -, d4⟩ := g.2.2 hv hw
        have hfr := FU_r (n := a) (by omega) (by omega)
        rw [d4 j, if_neg (by omega)]
      · rw [(g.2.1 hv hw).2]
    · rw [(g.1 hv).2]
  exact ⟨hh.1, hh.2.1, hh.2.2.1, k51 304 (by decide), k51 305 (by decide), k51 309 (by decide), fun h1 => (g.1 h1).1, fun h1 h2 => (g.2.1 h1 h2).1, fun h1 h2 => (g.2.2 h1 h2).1, k51⟩
end
section
/-! OIL of a STATE -/
def oilS (o : Nat → Int) (s : Nat) (n : Nat) : Int := fW (fun (v : Int) (l : Nat) => if s.testBit l = true then v + o l else v) 0 n
theorem oilS_s (o : Nat → Int) (s n : Nat) : oilS o s (n + 1) = if s.testBit n = true then oilS o s n + o n else oilS o s n := rfl
theorem oilS_lt {o : Nat → Int} {s n m : Nat} (h : s < 2 ^ n) (hm : n ≤ m) : oilS o s m = oilS o s n :=
  fW_N hm (fun v t ht => by
    have h2 : (2 : Nat) ^ n ≤ 2 ^ t := Nat.pow_le_pow_right (by decide) ht
    show (if s.testBit t = true then v + o t else v) = v
    rw [Nat.testBit_lt_two_pow (show s < 2 ^ t by omega)]
    rfl)
theorem oilS_cg {o o' : Nat → Int} {s t : Nat} : ∀ n : Nat, (∀ l, l < n → o l = o' l) → (∀ l, l < n → s.testBit l = t.testBit l) → oilS o s n = oilS o' t n
  | 0, _, _ => rfl
  | n + 1, h, h2 => by
    rw [oilS_s, oilS_s, oilS_cg n (fun l hl => h l (by omega)) (fun l hl => h2 l (by omega)), h n (by omega), h2 n (by omega)]
theorem oilS_bit {o : Nat → Int} {b n : Nat} (h : b < 2 ^ n) : oilS o (2 ^ n + b) (n + 1) = oilS o b n + o n := by
  rw [oilS_s, Nat.testBit_two_pow_add_eq, Nat.testBit_lt_two_pow h]
  show oilS o (2 ^ n + b) n + o n = _
  rw [oilS_cg (o' := o) (t := b) n (fun _ _ => rfl) (fun l hl => Nat.testBit_two_pow_add_gt hl b)]
theorem oilS_r {o : Nat → Int} {s : Nat} (ho : ∀ l, l < 8 → 0 ≤ o l ∧ o l ≤ 99) : ∀ n : Nat, n ≤ 8 → 0 ≤ oilS o s n ∧ oilS o s n ≤ 99 * n
  | 0, _ => ⟨Int.le_refl 0, Int.le_refl 0⟩
  | n + 1, h => by
    have h1 := oilS_r ho n (s := s) (by omega)
    have h2 := ho n (by omega)
    rw [oilS_s]
    split <;> omega
/-- all that is lit more -/
theorem oilS_df {o : Nat → Int} {s t : Nat} (h : s &&& t = s) : ∀ n : Nat, oilS o t n = oilS o s n + oilS o (df t s) n
  | 0 => rfl
  | n + 1 => by
    have h1 := oilS_df (o := o) h n
    have g : (s &&& t).testBit n = s.testBit n := by rw [h]
    have e : (df t s).testBit n = (t.testBit n ^^ (t.testBit n && s.testBit n)) := by
      unfold df
      rw [Nat.testBit_xor, Nat.testBit_and]
    rw [Nat.testBit_and] at g
    rw [oilS_s, oilS_s, oilS_s, e, h1]
    revert g
    cases s.testBit n <;> cases t.testBit n <;> intro g <;> simp at g ⊢ <;> omega
theorem or_bit {b n : Nat} (hb : b < 2 ^ n) (hn : n ≤ 7) : i_or ((2 ^ n : Nat) : Int) (b : Int) = ((2 ^ n + b : Nat) : Int) := by
  have h7 : (2 : Nat) ^ n ≤ 2 ^ 7 := Nat.pow_le_pow_right (by decide) hn
  rw [i_or_N (by omega) (by omega)]
  have h2 := Nat.two_pow_add_eq_or_of_lt hb 1
  rw [Nat.mul_one] at h2
  rw [h2]
theorem pcn_df {s t : Nat} (h : s &&& t = s) : pcn (df t s) = pcn t - pcn s := by
  have hb : ∀ i, pcB (df t s) i = pcB t i - pcB s i := fun i => by
    have g : (s &&& t).testBit i = s.testBit i := by rw [h]
    have e : (df t s).testBit i = (t.testBit i ^^ (t.testBit i && s.testBit i)) := by
      unfold df
      rw [Nat.testBit_xor, Nat.testBit_and]
    rw [Nat.testBit_and] at g
    unfold pcB
    rw [e]
    revert g
    cases s.testBit i <;> cases t.testBit i <;> intro g <;> simp at g ⊢
  unfold pcn
  rw [hb 0, hb 1, hb 2, hb 3, hb 4, hb 5, hb 6, hb 7]
  omega
/-! choosing -/
/-- the best of the STATES from s by which NEWS x is READ; -1 without -/
def nxF (bt : Nat → Nat → Bool) (code : Nat → Int) (g s N x : Int) (v : Int) (t : Nat) : Int := if (t : Int) < N ∧ s.toNat &&& t = s.toNat ∧ i_and (i_xor t s) g = 0 ∧ code t = x ∧ (v = -1 ∨ bt t v.toNat = true) then t else v
def NX (bt : Nat → Nat → Bool) (code : Nat → Int) (g s N x : Int) : Int := fW (nxF bt code g s N x) (-1) N.toNat
theorem nxF_n {bt : Nat → Nat → Bool} {code : Nat → Int} {g s N x : Int} : ∀ v (t : Nat), ¬ (s.toNat &&& t = s.toNat) → nxF bt code g s N x v t = v := fun _ _ h => if_neg (fun h2 => h h2.2.1)
theorem nxF_N {bt : Nat → Nat → Bool} {code : Nat → Int} {g s N x : Int} : ∀ v (t : Nat), N ≤ t → nxF bt code g s N x v t = v := fun _ _ h => if_neg (fun h2 => by have := h2.1; omega)
/-- by which NEWS x can be SENT from s, s too -/
def CD (code : Nat → Int) (g s N x : Int) (t : Nat) : Prop := (t : Int) < N ∧ s.toNat &&& t = s.toNat ∧ i_and (i_xor t s) g = 0 ∧ code t = x
theorem nxF_y {bt : Nat → Nat → Bool} {code : Nat → Int} {g s N x v to : Int} (h0 : 0 ≤ to) (h1 : to < N) (h2 : s.toNat &&& to.toNat = s.toNat) (h3 : i_and (i_xor to s) g = 0) (h4 : code to.toNat = x) (h5 : v = -1 ∨ bt to.toNat v.toNat = true) : nxF bt code g s N x v to.toNat = to := by
  have e : ((to.toNat : Nat) : Int) = to := by omega
  exact (if_pos ⟨by omega, h2, by rw [e]; exact h3, h4, h5⟩).trans e
theorem nxF_x {bt : Nat → Nat → Bool} {code : Nat → Int} {g s N x v to : Int} (h0 : 0 ≤ to) (h : ¬ (i_and (i_xor to s) g = 0 ∧ code to.toNat = x ∧ (v = -1 ∨ bt to.toNat v.toNat = true))) : nxF bt code g s N x v to.toNat = v :=
  if_neg (fun h2 => h ⟨by have h3 := h2.2.2.1; rw [show ((to.toNat : Nat) : Int) = to by omega] at h3; exact h3, h2.2.2.2⟩)
theorem nx_cd {bt : Nat → Nat → Bool} {code : Nat → Int} {g s N x : Int} : ∀ n, fW (nxF bt code g s N x) (-1) n = -1 ∨ ∃ t : Nat, fW (nxF bt code g s N x) (-1) n = (t : Int) ∧ CD code g s N x t
  | 0 => Or.inl rfl
  | n + 1 => by
    show nxF bt code g s N x (fW (nxF bt code g s N x) (-1) n) n = -1 ∨ ∃ t : Nat, nxF bt code g s N x (fW (nxF bt code g s N x) (-1) n) n = (t : Int) ∧ CD code g s N x t
    by_cases h : (n : Int) < N ∧ s.toNat &&& n = s.toNat ∧ i_and (i_xor n s) g = 0 ∧ code n = x ∧ (fW (nxF bt code g s N x) (-1) n = -1 ∨ bt n (fW (nxF bt code g s N x) (-1) n).toNat = true)
    · rw [show nxF bt code g s N x (fW (nxF bt code g s N x) (-1) n) n = (n : Int) from if_pos h]
      exact Or.inr ⟨n, rfl, h.1, h.2.1, h.2.2.1, h.2.2.2.1⟩
    · rw [show nxF bt code g s N x (fW (nxF bt code g s N x) (-1) n) n = fW (nxF bt code g s N x) (-1) n from if_neg h]
      exact nx_cd n
theorem NX_cd {bt : Nat → Nat → Bool} {code : Nat → Int} {g s N x : Int} : NX bt code g s N x = -1 ∨ ∃ t : Nat, NX bt code g s N x = (t : Int) ∧ CD code g s N x t := nx_cd _
theorem NX_r {bt : Nat → Nat → Bool} {code : Nat → Int} {g s N x : Int} (h0 : 0 ≤ s) : NX bt code g s N x = -1 ∨ (s ≤ NX bt code g s N x ∧ NX bt code g s N x < N ∧ code (NX bt code g s N x).toNat = x ∧ s.toNat &&& (NX bt code g s N x).toNat = s.toNat ∧ i_and (i_xor (NX bt code g s N x) s) g = 0) := by
  rcases NX_cd (bt := bt) (code := code) (g := g) (s := s) (N := N) (x := x) with h | ⟨t, h, h1, h2, h3, h4⟩
  · exact Or.inl h
  · right
    rw [h, Int.toNat_natCast]
    have h5 : s.toNat &&& t ≤ t := Nat.and_le_right
    exact ⟨by omega, h1, h4, h2, h3⟩
theorem nx_cg {bt bt' : Nat → Nat → Bool} {code code' : Nat → Int} {g s N x : Int} (hc : ∀ t : Nat, (t : Int) < N → code t = code' t) (hb : ∀ t v : Nat, CD code g s N x t → CD code g s N x v → bt t v = bt' t v) : ∀ n, fW (nxF bt code g s N x) (-1) n = fW (nxF bt' code' g s N x) (-1) n
  | 0 => rfl
  | n + 1 => by
    have ih := nx_cg hc hb n
    show nxF bt code g s N x (fW (nxF bt code g s N x) (-1) n) n = nxF bt' code' g s N x (fW (nxF bt' code' g s N x) (-1) n) n
    rw [← ih]
    have hv := nx_cd (bt := bt) (code := code) (g := g) (s := s) (N := N) (x := x) n
    generalize fW (nxF bt code g s N x) (-1) n = v at hv ⊢
    by_cases h : (n : Int) < N ∧ s.toNat &&& n = s.toNat ∧ i_and (i_xor n s) g = 0 ∧ code n = x
    · have e : (v = -1 ∨ bt n v.toNat = true) ↔ (v = -1 ∨ bt' n v.toNat = true) := by
        rcases hv with hv | ⟨t, hv, ht⟩
        · exact ⟨fun _ => Or.inl hv, fun _ => Or.inl hv⟩
        · rw [hv, Int.toNat_natCast, hb n t h ht]
      unfold nxF
      by_cases h2 : v = -1 ∨ bt n v.toNat = true
      · rw [if_pos ⟨h.1, h.2.1, h.2.2.1, h.2.2.2, h2⟩, if_pos ⟨h.1, h.2.1, h.2.2.1, by rw [← hc n h.1]; exact h.2.2.2, e.mp h2⟩]
      · rw [if_neg (fun h9 => h2 h9.2.2.2.2), if_neg (fun h9 => h2 (e.mpr h9.2.2.2.2))]
    · unfold nxF
      rw [if_neg (fun h9 => h ⟨h9.1, h9.2.1, h9.2.2.1, h9.2.2.2.1⟩), if_neg (fun h9 => h ⟨h9.1, h9.2.1, h9.2.2.1, by rw [hc n h9.1]; exact h9.2.2.2.1⟩)]
theorem NX_cg {bt bt' : Nat → Nat → Bool} {code code' : Nat → Int} {g s N x : Int} (hc : ∀ t : Nat, (t : Int) < N → code t = code' t) (hb : ∀ t v : Nat, CD code g s N x t → CD code g s N x v → bt t v = bt' t v) : NX bt code g s N x = NX bt' code' g s N x := nx_cg hc hb _
/-- a MANNER by the class's tables: OIL, LASTING, MEAN -/
def bC (m : Int) (o L T : Nat → Int) (t v : Nat) : Bool := if m = 1 then decide (o t < o v) else if m = 2 then decide (L v < L t ∨ (L t = L v ∧ pcn t < pcn v)) else if m = 3 then decide (T v < T t) else decide (pcn t < pcn v)
/-! means -/
/-- v is the greatest of T over P; -1 without any -/
def GM (P : Nat → Prop) (T : Nat → Int) (v : Int) : Prop := (∀ t, P t → T t ≤ v) ∧ ((v = -1 ∧ ∀ t, ¬ P t) ∨ ∃ t, P t ∧ v = T t)
theorem GM_cg {P Q : Nat → Prop} {T M : Nat → Int} {v : Int} (h : GM P T v) (h1 : ∀ t, P t ↔ Q t) (h2 : ∀ t, Q t → T t = M t) : GM Q M v :=
  ⟨fun t ht => by rw [← h2 t ht]; exact h.1 t ((h1 t).mpr ht), h.2.imp (fun ⟨a, b⟩ => ⟨a, fun t ht => b t ((h1 t).mpr ht)⟩) (fun ⟨t, a, b⟩ => ⟨t, (h1 t).mp a, by rw [← h2 t ((h1 t).mp a)]; exact b⟩)⟩
theorem GM_un {P : Nat → Prop} {T : Nat → Int} {v w : Int} (h : GM P T v) (k : GM P T w) : v = w := by
  rcases h.2 with ⟨h2, h3⟩ | ⟨t, h2, h3⟩
  · rcases k.2 with ⟨k2, -⟩ | ⟨u, k2, -⟩
    · omega
    · exact absurd k2 (h3 u)
  · rcases k.2 with ⟨-, k3⟩ | ⟨u, k2, k3⟩
    · exact absurd h2 (k3 t)
    · have := k.1 t h2
      have := h.1 u k2
      omega
theorem GM_0 {P : Nat → Prop} {T : Nat → Int} (h : ∀ t, ¬ P t) : GM P T (-1) := ⟨fun t ht => absurd ht (h t), Or.inl ⟨rfl, h⟩⟩
theorem GM_ad {P Q : Nat → Prop} {T : Nat → Int} {v : Int} {u : Nat} (h : GM P T v) (hq : ∀ t, Q t ↔ P t ∨ t = u) (hT : 0 ≤ T u) : GM Q T (max v (T u)) := by
  refine ⟨fun t ht => ?_, ?_⟩
  · rcases (hq t).mp ht with h1 | rfl
    · have := h.1 t h1
      omega
    · omega
  · right
    by_cases hv : v ≤ T u
    · exact ⟨u, (hq u).mpr (Or.inr rfl), by omega⟩
    · rcases h.2 with ⟨h2, -⟩ | ⟨t, h2, h3⟩
      · omega
      · exact ⟨t, (hq t).mpr (Or.inl h2), by omega⟩
theorem GM_mul {P : Nat → Prop} {T : Nat → Int} {v c : Int} (h : GM P T v) (hc : 0 < c) (hT : ∀ t, P t → 0 ≤ T t) : GM P (fun t => T t * c) (if v = -1 then -1 else v * c) := by
  rcases h.2 with ⟨h2, h3⟩ | ⟨t, h2, h3⟩
  · rw [if_pos h2]
    exact GM_0 h3
  · have h4 := hT t h2
    rw [if_neg (by omega)]
    exact ⟨fun u hu => Int.mul_le_mul_of_nonneg_right (h.1 u hu) (by omega), Or.inr ⟨t, h2, by rw [h3]⟩⟩
/-- the sum that a MEAN is of -/
def mS (U own : Int) (r : Nat → Int) (q : Nat) : Int := fW (fun (v : Int) (x : Nat) => if (x : Int) = own ∨ r x = -1 then v else v + (U + r x)) (if own = -1 then 0 else U) q
theorem mS_s (U own : Int) (r : Nat → Int) (q : Nat) : mS U own r (q + 1) = if (q : Int) = own ∨ r q = -1 then mS U own r q else mS U own r q + (U + r q) := rfl
theorem mS_cg {U own : Int} {r r' : Nat → Int} : ∀ q : Nat, (∀ x, x < q → r x = r' x) → mS U own r q = mS U own r' q
  | 0, _ => rfl
  | q + 1, h => by rw [mS_s, mS_s, mS_cg q (fun x hx => h x (by omega)), h q (by omega)]
theorem mS_mul {U V c own : Int} {r r' : Nat → Int} (hU : V = U * c) : ∀ q : Nat, (∀ x, x < q → (r x = -1 ∧ r' x = -1) ∨ (0 ≤ r x ∧ 0 ≤ r' x ∧ r' x = r x * c)) → mS V own r' q = mS U own r q * c
  | 0, _ => by
    show (if own = -1 then 0 else V) = (if own = -1 then 0 else U) * c
    by_cases h : own = -1
    · rw [if_pos h, if_pos h, Int.zero_mul]
    · rw [if_neg h, if_neg h, hU]
  | q + 1, h => by
    have ih := mS_mul (own := own) hU q (fun x hx => h x (by omega))
    rw [mS_s, mS_s]
    rcases h q (by omega) with ⟨h1, h2⟩ | ⟨h1, h2, h3⟩
    · rw [if_pos (Or.inr h2), if_pos (Or.inr h1), ih]
    · by_cases h4 : (q : Int) = own
      · rw [if_pos (Or.inl h4), if_pos (Or.inl h4), ih]
      · rw [if_neg (by omega), if_neg (by omega), ih, h3, hU, Int.add_mul, Int.add_mul]
theorem mS_r {U own B : Int} {r : Nat → Int} (hU : 0 ≤ U) (hB : 0 ≤ B) : ∀ q : Nat, (∀ x, x < q → -1 ≤ r x ∧ r x ≤ B) → 0 ≤ mS U own r q ∧ mS U own r q ≤ U + q * (U + B)
  | 0, _ => by
    show 0 ≤ (if own = -1 then 0 else U) ∧ (if own = -1 then 0 else U) ≤ U + ((0 : Nat) : Int) * (U + B)
    rw [show ((0 : Nat) : Int) = 0 from rfl, Int.zero_mul]
    split <;> omega
  | q + 1, h => by
    have ih := mS_r (own := own) hU hB q (fun x hx => h x (by omega))
    have h1 := h q (by omega)
    rw [mS_s, show (((q + 1 : Nat) : Int)) * (U + B) = (q : Int) * (U + B) + (U + B) by rw [Int.natCast_succ, Int.add_mul, Int.one_mul]]
    split <;> omega
/-- a MEAN by those above, times the unit U (of one that is READ: through K - 1) -/
def MCs (code : Nat → Int) (g N K U : Int) (T : Nat → Int) (s : Nat) (v : Int) : Prop := ∃ r : Nat → Int, (∀ x : Nat, (x : Int) < K → GM (PB code g s N x) T (r x)) ∧ v = if code s = -1 then mS U (code s) r K.toNat else mS U (code s) r K.toNat / (K - 1)
/-- a MEAN by those above, times K - 1 once for each LAMP that is dark -/
def MRs (code : Nat → Int) (g N K n : Int) (M : Nat → Int) (s : Nat) (v : Int) : Prop := ∃ r : Nat → Int, (∀ x : Nat, (x : Int) < K → GM (PB code g s N x) (fun t => M t * (K - 1) ^ (n - pcn s - (n - pcn t) - 1).toNat) (r x)) ∧ v = mS ((K - 1) ^ (n - pcn s).toNat) (code s) r K.toNat
theorem MCs_cg {code : Nat → Int} {g N K U v : Int} {T T' : Nat → Int} {s : Nat} (h : MCs code g N K U T s v) (hT : ∀ t : Nat, s < t → (t : Int) < N → T t = T' t) : MCs code g N K U T' s v := by
  obtain ⟨r, h1, h2⟩ := h
  exact ⟨r, fun x hx => GM_cg (h1 x hx) (fun _ => Iff.rfl) (fun t ht => hT t (by have := ht.1; omega) ht.2.1), h2⟩
theorem MRs_cg {code : Nat → Int} {g N K n v : Int} {M M' : Nat → Int} {s : Nat} (h : MRs code g N K n M s v) (hT : ∀ t : Nat, s < t → (t : Int) < N → M t = M' t) : MRs code g N K n M' s v := by
  obtain ⟨r, h1, h2⟩ := h
  exact ⟨r, fun x hx => GM_cg (h1 x hx) (fun _ => Iff.rfl) (fun t ht => by show M t * _ = M' t * _; rw [hT t (by have := ht.1; omega) ht.2.1]), h2⟩
theorem pw_pos {P : Int} (h : 1 ≤ P) (n : Nat) : 1 ≤ P ^ n := by
  induction n with
  | zero => exact Int.le_of_eq (Int.pow_zero P).symm
  | succ n ih =>
    rw [Int.pow_succ]
    have := Int.mul_le_mul ih h (by omega) (by omega)
    omega
theorem pw_add (P : Int) (a b : Nat) : P ^ a * P ^ b = P ^ (a + b) := (Int.pow_add P a b).symm
/-- both kinds of MEAN told by each other -/
theorem M_link {code : Nat → Int} {g N K n : Int} {T M : Nat → Int} {s : Nat} {v w : Int} (hK : 2 ≤ K) (hn : n ≤ 8) (hN : N ≤ 256) (hs : (s : Int) < N) (hc : ∀ t : Nat, s < t → (t : Int) < N → ¬ code t = -1 → T t = M t * (K - 1) ^ (8 - (n - pcn t)).toNat ∧ 0 ≤ M t) (hp : ∀ t : Nat, (t : Int) < N → pcn t ≤ n) (h : MCs code g N K ((K - 1) ^ 9) T s v) (k : MRs code g N K n M s w) : (code s = -1 → v = w * (K - 1) ^ (9 - (n - pcn s)).toNat) ∧ (¬ code s = -1 → v = w * (K - 1) ^ (8 - (n - pcn s)).toNat) := by
  obtain ⟨r, h1, h2⟩ := h
  obtain ⟨r', k1, k2⟩ := k
  have hps := hp s hs
  have hpr := pcn_r s
  have hc1 : 1 ≤ (K - 1) ^ (9 - (n - pcn s)).toNat := pw_pos (by omega) _
  have hr : ∀ x, x < K.toNat → (r' x = -1 ∧ r x = -1) ∨ (0 ≤ r' x ∧ 0 ≤ r x ∧ r x = r' x * (K - 1) ^ (9 - (n - pcn s)).toNat) := fun x hx => by
    have g1 := h1 x (by omega)
    have g2 := k1 x (by omega)
    have hpos : ∀ t, PB code g s N x t → 0 ≤ M t * (K - 1) ^ (n - pcn s - (n - pcn t) - 1).toNat := fun t ht => by
      have a1 := (hc t (by have := ht.1; omega) ht.2.1 (by have := ht.2.2.2.2; omega)).2
      have a2 := pw_pos (P := K - 1) (by omega) (n - pcn s - (n - pcn t) - 1).toNat
      exact Int.mul_nonneg a1 (by omega)
    have g3 := GM_mul g2 (c := (K - 1) ^ (9 - (n - pcn s)).toNat) (by omega) hpos
    have g4 : GM (PB code g s N x) T (if r' x = -1 then -1 else r' x * (K - 1) ^ (9 - (n - pcn s)).toNat) := by
      refine GM_cg g3 (fun _ => Iff.rfl) (fun t ht => ?_)
      have b1 := ht.1
      have b2 := ht.2.1
      have a3 := (hc t (by omega) b2 (by have := ht.2.2.2.2; omega)).1
      have a4 := pcn_lt (by have := ht.2.2.1; rw [Int.toNat_natCast] at this; exact this) (show s < t by omega) (by omega)
      have a5 := hp t b2
      have a6 := pcn_r t
      rw [a3, Int.mul_assoc, pw_add]
      exact congrArg (fun z : Nat => M t * (K - 1) ^ z) (by omega)
    have g5 := GM_un g1 g4
    rcases g2.2 with ⟨g6, -⟩ | ⟨t, g6, g7⟩
    · rw [if_pos g6] at g5
      exact Or.inl ⟨g6, g5⟩
    · have g8 := hpos t g6
      have g7 : r' x = M t * (K - 1) ^ (n - pcn s - (n - pcn t) - 1).toNat := g7
      rw [if_neg (by omega)] at g5
      refine Or.inr ⟨by omega, ?_, g5⟩
      rw [g5]
      exact Int.mul_nonneg (by omega) (by omega)
  have hm := mS_mul (U := (K - 1) ^ (n - pcn s).toNat) (V := (K - 1) ^ 9) (c := (K - 1) ^ (9 - (n - pcn s)).toNat) (own := code s) (r := r') (r' := r) (by
    rw [pw_add]
    exact congrArg (fun z : Nat => (K - 1) ^ z) (by omega)) K.toNat hr
  constructor
  · intro h9
    rw [h2, if_pos h9, hm, k2]
  · intro h9
    rw [h2, if_neg h9, hm, k2, show (9 - (n - pcn s)).toNat = (8 - (n - pcn s)).toNat + 1 by omega, Int.pow_succ, ← Int.mul_assoc]
    exact Int.mul_ediv_cancel _ (by omega)
end
