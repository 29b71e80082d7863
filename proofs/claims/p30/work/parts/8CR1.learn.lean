/-! learn: its answers agree -/
theorem R66_learn {A B JA JB : aI1} {a y : Int} {qsf : Nat → List zQ} (hQ : RX A) (hh : Ch [50, 51, 60] [0, 1, 19, 20, 21] A B ∧ Kp 49 73 JA JB ∧ RX B ∧ (0 ≤ a ∧ a < A 51 310 → (∀ s : Nat, (s : Int) ≤ FU (A 51 304) → B 51 s = zLd (qsf a.toNat) (A 51 304) (A 51 305) s) ∧ (∀ s : Nat, ¬ (s : Int) ≤ FU (A 51 304) → B 51 s = A 51 s) ∧ y = cnR (B 51) (FU (A 51 304) + 1).toNat) ∧ (¬ (0 ≤ a ∧ a < A 51 310) → y = -2 ∧ B 51 = A 51)) : Ch [50, 51, 60] [0, 1, 19, 20, 21] A B ∧ Kp 49 73 JA JB ∧ RX B ∧ (∀ j : Nat, 256 ≤ j → B 51 j = A 51 j) := by
  have q := RX_o hQ
  refine ⟨hh.1, hh.2.1, hh.2.2.1, fun j hj => ?_⟩
  by_cases ha : 0 ≤ a ∧ a < A 51 310
  · exact (hh.2.2.2.1 ha).2.1 j (by omega)
  · rw [(hh.2.2.2.2 ha).2]
