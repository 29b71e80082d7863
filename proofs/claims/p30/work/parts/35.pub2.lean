theorem CX_forget {I G : aI1} (h : CX I) (e : ∀ a, a ≠ 1 → a ≠ 2 → a ≠ 3 → G a = I a) (h5 : 1 ≤ G 1 5 ∧ G 1 5 ≤ 8) (h6 : 2 ≤ G 1 6 ∧ G 1 6 ≤ 8) (h8 : G 1 8 = 0) (h9 : G 1 9 = I 1 9) (h10 : G 1 10 = 0) (h11 : G 1 11 = 0) (h3 : ∀ s, s < 256 → G 3 s = -1) : CX G := by
  refine ⟨?_, LR_of h.2.1 (e _ (by decide) (by decide) (by decide)) (e _ (by decide) (by decide) (by decide)) (e _ (by decide) (by decide) (by decide)) (e _ (by decide) (by decide) (by decide)), FI_of h.2.2 (e _ (by decide) (by decide) (by decide))⟩
  have h := h.1
  have hf := FU_r h5.1 h5.2
  unfold XI at h ⊢
  rw [e 0 (by decide) (by decide) (by decide), e 8 (by decide) (by decide) (by decide), e 9 (by decide) (by decide) (by decide), h8, h9, h10, h11]
  exact ⟨h5, h6, by omega, h.2.2.2.1, by omega, by omega, h.2.2.2.2.2.2.1, h.2.2.2.2.2.2.2.1, h.2.2.2.2.2.2.2.2.1, fun s hs => by rw [h3 s hs]; omega, h.2.2.2.2.2.2.2.2.2.2⟩
theorem CX_code {I G : aI1} (h : CX I) (e : ∀ q, q ≠ 3 → (q < 37 ∨ 46 ≤ q) → G q = I q) (hf : FI G) (h3 : ∀ j, j < 256 → -1 ≤ G 3 j ∧ G 3 j ≤ 7) : CX G := by
  refine ⟨?_, LR_of h.2.1 (e _ (by decide) (by decide)) (e _ (by decide) (by decide)) (e _ (by decide) (by decide)) (e _ (by decide) (by decide)), hf⟩
  have h := h.1
  unfold XI at h ⊢
  rw [e 0 (by decide) (by decide), e 1 (by decide) (by decide), e 8 (by decide) (by decide), e 9 (by decide) (by decide)]
  exact ⟨h.1, h.2.1, h.2.2.1, h.2.2.2.1, h.2.2.2.2.1, h.2.2.2.2.2.1, h.2.2.2.2.2.2.1, h.2.2.2.2.2.2.2.1, h.2.2.2.2.2.2.2.2.1, h3, h.2.2.2.2.2.2.2.2.2.2⟩
