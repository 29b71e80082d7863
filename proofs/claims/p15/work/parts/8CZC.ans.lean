set_option maxHeartbeats 1000000 in
theorem A8_next {I A B J JA JB : aI1} {R : aR1} {S : aS1} {a b c x y v : Int} (hP : CPI I J R S v) (hC : CI I R S) (hQ : RX I) (h0 : (Kp 0 49 I A ∧ Kp 0 49 J JA ∧ CX A ∧ Fw [18, 19, 20, 21, 22, 23, 24, 25, 26, 27, 28, 29, 30] [] I A ∧ ((0 ≤ a ∧ a ≤ FU (I 1 5) ∧ 0 ≤ b ∧ b < I 1 6 ∧ 0 ≤ c ∧ c ≤ 3) → ∃ o L T, KT c I o L T ∧ x = NX (bC c o L T) (I 3) (I 1 7) a (FU (I 1 5) + 1) b) ∧ (¬ (0 ≤ a ∧ a ≤ FU (I 1 5) ∧ 0 ≤ b ∧ b < I 1 6 ∧ 0 ≤ c ∧ c ≤ 3) → x = -1)) ∧ FRk A JA) (hh : Ch [61] [25] A B ∧ Kp 49 73 JA JB ∧ RX B ∧ B 51 = A 51 ∧ QF B JB v ∧ ((0 ≤ a ∧ a ≤ FU (A 51 304) ∧ 0 ≤ b ∧ b < A 51 305 ∧ 0 ≤ c ∧ c ≤ 3) → ∃ L M, zLV (A 51) (A 51 306) (FU (A 51 304) + 1) (A 51 305) (-1) L ∧ MRc (A 51) (A 51 306) (A 51 304) (A 51 305) M ∧ y = NX (bR c a (A 51 304) (A 51 305) (A 51) L M) (A 51) (A 51 306) a (FU (A 51 304) + 1) b) ∧ (¬ (0 ≤ a ∧ a ≤ FU (A 51 304) ∧ 0 ≤ b ∧ b < A 51 305 ∧ 0 ≤ c ∧ c ≤ 3) → y = -1)) : x = y := by
  obtain ⟨hPH, -, hOK, hST, hIM, hDR⟩ := id hP
  obtain ⟨⟨⟨q8, q15, q12, q5, q6, q7, q11⟩, tb, -⟩, ⟨⟨q9, q0⟩, -⟩⟩ := id hPH.1
  have x5 := XI_o hC.2.1.1
  have hfu := (RX_o hQ).2.2.2.2.2.2.2.2.2
  obtain ⟨h0, -⟩ := h0
  have z51 : A 51 = I 51 := h0.1 51 (by decide)
  have cd : ∀ s, s < 256 → I 3 s = I 51 s := hPH.2.1
  have hfr := FU_r x5.1.1 x5.1.2
  have u0 := h0.2.2.2.2
  have u1 := hh.2.2.2.2.2
  rw [z51, ← q5, ← q6, ← q7] at u1
  by_cases hv : 0 ≤ a ∧ a ≤ FU (I 1 5) ∧ 0 ≤ b ∧ b < I 1 6 ∧ 0 ≤ c ∧ c ≤ 3
  · obtain ⟨o, L, T, kt, hx⟩ := u0.1 hv
    obtain ⟨L', M, zl, mr, hy⟩ := u1.1 hv
    rw [hx, hy]
    exact NX_l9 (CP_L hP hC hv.2.2.2.2 kt zl mr) ⟨hv.1, hv.2.1⟩ (by omega)
  · have g1 := u0.2 hv
    have g2 := u1.2 hv
    omega
