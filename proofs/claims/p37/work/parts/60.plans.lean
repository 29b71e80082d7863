theorem RX_p {I : aI1} (h : RX I) : (1 ≤ I 51 304 ∧ I 51 304 ≤ 8) ∧ (0 ≤ I 51 309 ∧ I 51 309 ≤ 16) ∧ (1 ≤ FU (I 51 304) ∧ FU (I 51 304) ≤ 255) := by
  have hf := FU_r h.1.1.1 h.1.1.2
  exact ⟨h.1.1, h.1.2.2.2.2.1, hf.1, hf.2.1⟩
