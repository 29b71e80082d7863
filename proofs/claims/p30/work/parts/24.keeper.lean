theorem rng_up {F : aI1} {k q : Nat} {lo hi v : Int} (hv : lo ≤ v ∧ v ≤ hi) (h : ∀ j, j < 8 → lo ≤ F k j ∧ F k j ≤ hi) : ∀ j, j < 8 → lo ≤ up2 F k q v k j ∧ up2 F k q v k j ≤ hi := by
  intro j hj
  by_cases e : j = q
  · subst e; rw [up2_s]; exact hv
  · rw [up2_n _ _ (Or.inr e)]; exact h j hj
