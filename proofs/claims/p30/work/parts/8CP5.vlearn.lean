/-! the reference's learn -/
def zKp (k : Nat → Int) (t : Nat) (qs : List zQ) : Prop := ∃ (c vl : Nat → Int) (n9 m9 l9 : Nat), cvw k t = c ∧ k (311 + t) = n9 ∧ n9 ≤ 400 ∧ (∀ j, j < n9 → k (2717 + 400 * t + j) = vl j ∧ 0 ≤ vl j) ∧ zLw c vl n9 m9 0 l9 = .inr qs
theorem zKp_k {k k' : Nat → Int} {t : Nat} {qs : List zQ} (h : zKp k t qs) (ht : t < 6) (e : ∀ j : Nat, 256 ≤ j → k' j = k j) : zKp k' t qs := by
  obtain ⟨c, vl, n9, m9, l9, h1, h2, h3, h4, h5⟩ := h
  refine ⟨c, vl, n9, m9, l9, ?_, by rw [e _ (by omega)]; exact h2, h3, fun j hj => by rw [e _ (by omega)]; exact h4 j hj, h5⟩
  rw [← h1]
  funext i
  unfold cvw
  rw [e (311 + t) (by omega)]
  by_cases g : (i : Int) < k (311 + t)
  · rw [if_pos g, if_pos g]
    exact e _ (by omega)
  · rw [if_neg g, if_neg g]
theorem zGv_b {K : Int} {r : Option Int} (h0 : 0 ≤ K) (h : K ≤ 8) : -1 ≤ zGv K r ∧ zGv K r ≤ 7 := by
  cases r with
  | none => exact (by omega : -1 ≤ (-1 : Int) ∧ (-1 : Int) ≤ 7)
  | some x =>
    unfold zGv
    split <;> omega
/-- the CODE that a law tells -/
def zLd (qs : List zQ) (n K : Int) (s : Int) : Int := zGv K (zTl qs (zEn s n K))
