/-- cells from c on keep what the coast keeps in I, R -/
def ImC (I I' : aI1) (R R' : aR1) (c : Nat) : Prop := (∀ j, 5 ≤ j → j ≤ 11 → I' c j = I 1 j) ∧ (∀ j, j < 8 → I' (c + 1) j = I 2 j) ∧ (∀ s, s < 256 → I' (c + 2) s = I 3 s) ∧ (∀ j, j < 24 → I' (c + 4) j = I 5 j) ∧ (∀ j, j < 16 → I' (c + 5) j = I 6 j) ∧ (∀ i, i < 6 → R' (c + 3) i = R 4 i)
/-- the coast is again what cells from c on keep -/
def BkC (I I' : aI1) (R R' : aR1) (c : Nat) : Prop := (∀ j, 5 ≤ j → j ≤ 11 → I' 1 j = I c j) ∧ (∀ j, j < 8 → I' 2 j = I (c + 1) j) ∧ (∀ s, s < 256 → I' 3 s = I (c + 2) s) ∧ (∀ j, j < 24 → I' 5 j = I (c + 4) j) ∧ (∀ j, j < 16 → I' 6 j = I (c + 5) j) ∧ (∀ i, i < 6 → R' 4 i = R (c + 3) i)
theorem mem_10 {rs : List Nat} {k : Nat} (h1 : 10 ≤ k) (h2 : k < 15) (h : ∀ k, k < 15 → 10 ≤ k → k ∈ rs) : k ∈ rs := h k h2 h1
