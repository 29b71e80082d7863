theorem TBX_r (n k t : Int) : 0 ≤ TBX n k t ∧ TBX n k t < 16777216 := by
  unfold TBX TBt
  split <;> omega
theorem mem_37 {rs : List Nat} {k : Nat} (h1 : 37 ≤ k) (h2 : k < 46) (h : ∀ k, k < 46 → 37 ≤ k → k ∈ rs) : k ∈ rs := h k h2 h1
