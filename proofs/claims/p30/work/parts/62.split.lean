def RG (f : Nat → Int) (n : Int) : Prop := ∀ j : Nat, (j : Int) < n → 0 ≤ f j ∧ f j ≤ 400
theorem RG_up {f : Nat → Int} {n v : Int} (h : RG f n) (hn : 0 ≤ n) (h0 : 0 ≤ v) (h1 : v ≤ 400) : RG (up1 f n.toNat v) (n + 1) := fun j hj => by
  by_cases e : j = n.toNat
  · rw [e, up1_s]; exact ⟨h0, h1⟩
  · rw [up1_n _ _ e]; exact h j (by omega)
theorem RX_w {I : aI1} (h : RX I) : (0 ≤ I 49 10 ∧ I 49 10 ≤ 400) := h.2.2.2.1
