theorem PL_w {k L : Nat → Int} {i s : Int} (h : PLs k L i s) (hn : ¬ w32 (L (256 * i + s).toNat) = w32 1000000000) : ∃ t, s ≤ t ∧ t ≤ FU (k 304) ∧ Cand k L i s t ∧ vPl k L i s t = L (256 * i + s).toNat := by
  rcases h with h | h
  · exact absurd (by rw [h]) hn
  · exact h
