set_option maxHeartbeats 1000000 in
theorem A8_rows {I A B J JA JB : aI1} {R : aR1} {S : aS1} {a b c x y v : Int} (hP : CPI I J R S v) (hC : CI I R S) (hQ : RX I) (h0 : (Kp 0 49 I A ∧ Kp 0 49 J JA ∧ CX A ∧ Fw [18, 19, 20, 21, 22, 23, 24, 25, 26, 27, 28, 29, 30, 31, 32] [] I A ∧ ((0 ≤ a ∧ a ≤ 8 ∧ 0 ≤ b ∧ b ≤ FU (I 1 5) ∧ 0 ≤ c ∧ c ≤ 3) → ∃ o L T, KT c I o L T ∧ x = RW (I 3) (nxD c I o L T) (-1) (-1) (I 1 6).toNat (FU (I 1 5) + 1).toNat a.toNat b.toNat) ∧ (¬ (0 ≤ a ∧ a ≤ 8 ∧ 0 ≤ b ∧ b ≤ FU (I 1 5) ∧ 0 ≤ c ∧ c ≤ 3) → x = -1)) ∧ FRk A JA) (hh : Ch [61] [25] A B ∧ Kp 49 73 JA JB ∧ RX B ∧ B 51 = A 51 ∧ QF B JB v ∧ ((0 ≤ a ∧ a ≤ 8 ∧ 0 ≤ b ∧ b ≤ FU (A 51 304) ∧ 0 ≤ c ∧ c ≤ 3) → ∃ L M, (zLV (A 51) (A 51 306) (FU (A 51 304) + 1) (A 51 305) (-1) L ∧ MRc (A 51) (A 51 306) (A 51 304) (A 51 305) M) ∧ y = RW (A 51) (nxRf c A L M) (-1) 0 (A 51 305).toNat (FU (A 51 304) + 1).toNat a.toNat b.toNat) ∧ (¬ (0 ≤ a ∧ a ≤ 8 ∧ 0 ≤ b ∧ b ≤ FU (A 51 304) ∧ 0 ≤ c ∧ c ≤ 3) → y = -1)) : x = y := by
  obtain ⟨hPH, -, hOK, hST, hIM, hDR⟩ := id hP
  obtain ⟨⟨⟨q8, q15, q12, q5, q6, q7, q11⟩, tb, -⟩, ⟨⟨q9, q0⟩, -⟩⟩ := id hPH.1
  have x5 := XI_o hC.2.1.1
  have hfu := (RX_o hQ).2.2.2.2.2.2.2.2.2
  obtain ⟨h0, -⟩ := h0
  have z51 : A 51 = I 51 := h0.1 51 (by decide)
  have cd : ∀ s, s < 256 → I 3 s = I 51 s := hPH.2.1
  have hfr := FU_r x5.1.1 x5.1.2
  have u0 := h0.2.2.2.2
  have u1 := hh.2.2.2.2.2
  rw [z51, ← q5, ← q6, ← q7] at u1
  by_cases hv : 0 ≤ a ∧ a ≤ 8 ∧ 0 ≤ b ∧ b ≤ FU (I 1 5) ∧ 0 ≤ c ∧ c ≤ 3
  · obtain ⟨o, L, T, kt, hx⟩ := u0.1 hv
    obtain ⟨L', M, ⟨zl, mr⟩, hy⟩ := u1.1 hv
    rw [hx, hy]
    exact (RW_w (w' := 0) (by decide) _ _).trans (RW_cg (fun s hs => cd s (by omega)) (fun s x hs hx _ => by
      have np := (NX_p (CP_L hP hC hv.2.2.2.2 kt zl mr) s x (by omega) (by omega) (by omega) (by omega)).1
      unfold nxD nxRf
      rw [z51, ← q5, ← q6, ← q7]
      exact np) _ _)
  · have g1 := u0.2 hv
    have g2 := u1.2 hv
    omega
