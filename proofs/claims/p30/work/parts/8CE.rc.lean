theorem FU_2 {a : Int} (h0 : 1 ≤ a) (h1 : a ≤ 3) : (FU a + 1).toNat = 2 ^ a.toNat := by
  rcases (show a = 1 ∨ a = 2 ∨ a = 3 by omega) with rfl | rfl | rfl <;> decide
