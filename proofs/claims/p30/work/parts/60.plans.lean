theorem RX_p {I : aI1} (h : RX I) : (1 ≤ I 51 304 ∧ I 51 304 ≤ 8) ∧ (0 ≤ I 51 309 ∧ I 51 309 ≤ 16) ∧ (1 ≤ FU (I 51 304) ∧ FU (I 51 304) ≤ 255) := by
  have hf := FU_r h.1.1.1 h.1.1.2
  exact ⟨h.1.1, h.1.2.2.2.2.1, hf.1, hf.2.1⟩
/-- a STATE t by which the i-th NEWS may be sent from s -/
def Cand (k L : Nat → Int) (i s t : Int) : Prop := w32 (k t.toNat) = w32 (k (288 + i).toNat) ∧ canC s t (k 306) ∧ ¬ w32 (L (256 * (i + 1) + t).toNat) = w32 1000000000
def vPl (k L : Nat → Int) (i s t : Int) : Int := oilF k (i_and t (i_xor s (-1))) (k 304).toNat + L (256 * (i + 1) + t).toNat
def PLs (k L : Nat → Int) (i s : Int) : Prop := L (256 * i + s).toNat = 1000000000 ∨ ∃ t, s ≤ t ∧ t ≤ FU (k 304) ∧ Cand k L i s t ∧ vPl k L i s t = L (256 * i + s).toNat
theorem PL_keep {k L : Nat → Int} {i s i' s' v : Int} (hi : 0 ≤ i) (hs : 0 ≤ s) (hs1 : s ≤ 255) (hs' : 0 ≤ s') (hs'1 : s' ≤ 255) (hii : i < i' ∨ (i = i' ∧ s' < s)) (h : PLs k L i' s') : PLs k (up1 L (256 * i + s).toNat v) i' s' := by
  have e : ∀ q : Int, 256 * i + s < q ∨ (0 ≤ q ∧ q < 256 * i + s) → up1 L (256 * i + s).toNat v q.toNat = L q.toNat := fun q hq => up1_n _ _ (by omega)
  have e1 := e (256 * i' + s') (by omega)
  unfold PLs at h ⊢
  rw [e1]
  rcases h with h | ⟨t, h1, h2, ⟨c1, c2, c3⟩, h4⟩
  · exact Or.inl h
  · refine Or.inr ⟨t, h1, h2, ⟨c1, c2, ?_⟩, ?_⟩
    · rw [e (256 * (i' + 1) + t) (by omega)]; exact c3
    · unfold vPl at h4 ⊢
      rw [e (256 * (i' + 1) + t) (by omega)]; exact h4
/-- the best so far -/
def Bst (k L : Nat → Int) (i s t v : Int) : Prop := v = 1000000000 ∨ ∃ t9, s ≤ t9 ∧ t9 < t ∧ t9 ≤ FU (k 304) ∧ Cand k L i s t9 ∧ v = vPl k L i s t9
theorem Bst_0 {k L : Nat → Int} {i s t : Int} : Bst k L i s t 1000000000 := Or.inl rfl
theorem Bst_k {k L : Nat → Int} {i s t v : Int} (h : Bst k L i s t v) : Bst k L i s (t + 1) v := by
  rcases h with h | ⟨t9, h1, h2, h3⟩
  · exact Or.inl h
  · exact Or.inr ⟨t9, h1, by omega, h3⟩
theorem Bst_n {k L : Nat → Int} {i s t v : Int} (h1 : s ≤ t) (h2 : t ≤ FU (k 304)) (h3 : Cand k L i s t) (h4 : v = vPl k L i s t) : Bst k L i s (t + 1) v := Or.inr ⟨t, h1, by omega, h2, h3, h4⟩
theorem PL_new {k L : Nat → Int} {i s v t8 : Int} (hi : 0 ≤ i) (hs : 0 ≤ s) (hs1 : s ≤ 255) (h : Bst k L i s t8 v) : PLs k (up1 L (256 * i + s).toNat v) i s := by
  have e : ∀ q : Int, 256 * i + s < q → up1 L (256 * i + s).toNat v q.toNat = L q.toNat := fun q hq => up1_n _ _ (by omega)
  unfold PLs
  rw [up1_s]
  rcases h with h | ⟨t, h1, -, h2, ⟨c1, c2, c3⟩, h4⟩
  · exact Or.inl h
  · refine Or.inr ⟨t, h1, h2, ⟨c1, c2, ?_⟩, ?_⟩
    · rw [e (256 * (i + 1) + t) (by omega)]; exact c3
    · have e1 := e (256 * (i + 1) + t) (by omega)
      unfold vPl
      rw [e1]
      exact h4.symm
theorem PL_st {k L L' : Nat → Int} {i s i9 s9 v t8 : Int} (e : L' = up1 L (256 * i + s).toNat v) (hi : 0 ≤ i) (hs : 0 ≤ s) (hs1 : s ≤ 255) (h : Bst k L i s t8 v) (g1 : i < i9 ∨ (i9 = i ∧ s9 < s + 1)) (g3 : 0 ≤ s9) (g4 : s9 ≤ 255) (hp : i < i9 ∨ (i9 = i ∧ s9 < s) → PLs k L i9 s9) : PLs k L' i9 s9 := by
  rw [e]
  by_cases hh : i9 = i ∧ s9 = s
  · rw [hh.1, hh.2]
    exact PL_new hi hs hs1 h
  · exact PL_keep hi hs hs1 g3 g4 (by omega) (hp (by omega))
