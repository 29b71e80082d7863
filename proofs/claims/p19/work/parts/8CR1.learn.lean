/-! learn: its answers agree -/
theorem R66_learn {A B JA JB : aI1} {a y : Int} {qsf : Nat → List zQ} (hQ : RX A) (hh : Ch [50, 51, 60] [0, 1, 19, 20, 21] A B ∧ Kp 49 73 JA JB ∧ RX B ∧ (0 ≤ a ∧ a < A 51 310 → (∀ s : Nat, (s : Int) ≤ FU (A 51 304) → B 51 s = zLd (qsf a.toNat) (A 51 304) (A 51 305) s) ∧ (∀ s : Nat, ¬ (s : Int) ≤ FU (A 51 304) → B 51 s = A 51 s) ∧ y = cnR (B 51) (FU (A 51 304) + 1).toNat) ∧ (¬ (0 ≤ a ∧ a < A 51 310) → y = -2 ∧ B 51 = A 51)) : Ch [50, 51, 60] [0, 1, 19, 20, 21] A B ∧ Kp 49 73 JA JB ∧ RX B ∧ (∀ j : Nat, 256 ≤ j → B 51 j = A 51 j) := by
  have q := RX_o hQ
  refine ⟨hh.1, hh.2.1, hh.2.2.1, fun j hj => ?_⟩
  by_cases ha : 0 ≤ a ∧ a < A 51 310
  · exact (hh.2.2.2.1 ha).2.1 j (by omega)
  · rw [(hh.2.2.2.2 ha).2]
theorem L6_learn {I A B J JA JB : aI1} {R : aR1} {S : aS1} {a x y : Int} {qsf : Nat → List zQ} (hP : CPG I R S) (h0 : Kp 0 49 I A ∧ Kp 0 49 J JA ∧ CX A ∧ Fw [3, 15, 16, 17, 18, 19, 20, 21, 22, 23, 24, 25, 26, 27, 28, 29, 30, 31, 32, 33, 34, 35, 36, 48] [(0, 16)] I A ∧ (¬ (0 ≤ a ∧ a < I 1 9) → x = -2 ∧ RFc I A (-2)) ∧ ((0 ≤ a ∧ a < I 1 9) → Fw [3, 15, 16, 17, 18, 19, 20, 21, 22, 23, 24, 25, 26, 27, 28, 29, 30, 31, 32, 33, 34, 35, 36] [(0, 16)] I A ∧ A 0 16 = 0 ∧ (∀ j : Nat, A 3 j = if (j : Int) ≤ FU (I 1 5) then zLd (qsf a.toNat) (I 1 5) (I 1 6) j else I 3 j) ∧ x = cnR (A 3) (FU (I 1 5) + 1).toNat)) (hh : Ch [50, 51, 60] [0, 1, 19, 20, 21] A B ∧ Kp 49 73 JA JB ∧ RX B ∧ (0 ≤ a ∧ a < A 51 310 → (∀ s : Nat, (s : Int) ≤ FU (A 51 304) → B 51 s = zLd (qsf a.toNat) (A 51 304) (A 51 305) s) ∧ (∀ s : Nat, ¬ (s : Int) ≤ FU (A 51 304) → B 51 s = A 51 s) ∧ y = cnR (B 51) (FU (A 51 304) + 1).toNat) ∧ (¬ (0 ≤ a ∧ a < A 51 310) → y = -2 ∧ B 51 = A 51)) : x = y := by
  obtain ⟨⟨⟨-, -, -, q5, q6, -, -⟩, -⟩, ⟨⟨q9, -⟩, -⟩⟩ := hP
  have e51 : A 51 = I 51 := h0.1 51 (by decide)
  obtain ⟨-, -, -, -, g1, g2⟩ := h0
  obtain ⟨-, -, -, k1, k2⟩ := hh
  rw [e51] at k1 k2
  by_cases ha : 0 ≤ a ∧ a < I 1 9
  · obtain ⟨-, -, w3, w4⟩ := g2 ha
    obtain ⟨v1, -, v3⟩ := k1 (by omega)
    rw [w4, v3, ← q5]
    refine cnR_cg _ (fun j hj => ?_)
    rw [w3 j, if_pos (by omega), v1 j (by rw [← q5]; omega), ← q5, ← q6]
  · have h1 := (g1 ha).1
    have h2 := (k2 (by omega)).1
    omega
