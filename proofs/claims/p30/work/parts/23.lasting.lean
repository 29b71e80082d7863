def Kq (o b : Nat) (I I' : aI1) : Prop := ∀ k, k ≠ o → k ≠ b → I' k = I k
theorem Kq_rf {o b : Nat} {I : aI1} : Kq o b I I := fun _ _ _ => rfl
theorem Kq_up {o b : Nat} {I I1 : aI1} (h : Kq o b I I1) {k : Nat} (j : Nat) (v : Int) (hk : k = o ∨ k = b) : Kq o b I (up2 I1 k j v) := fun q h1 h2 => by
  rw [up2_off _ _ _ (by omega)]
  exact h q h1 h2
theorem Kq_kp {o b x y : Nat} {I I1 : aI1} (h : Kq o b I I1) (h1 : x ≤ o ∧ o < y) (h2 : x ≤ b ∧ b < y) : Kp x y I I1 := fun q hq => h q (by omega) (by omega)
theorem i_min_r {a b : Int} (h1 : -2147483648 ≤ a) (h2 : a < 2147483648) (h3 : -2147483648 ≤ b) (h4 : b < 2147483648) : i_min a b = min a b := by
  unfold i_min
  rw [w32_id h1 h2, w32_id h3 h4]
  split <;> omega
theorem i_max_r {a b : Int} (h1 : -2147483648 ≤ a) (h2 : a < 2147483648) (h3 : -2147483648 ≤ b) (h4 : b < 2147483648) : i_max a b = max a b := by
  unfold i_max
  rw [w32_id h1 h2, w32_id h3 h4]
  split <;> omega
theorem l_cmp_ne {a b : Int} (h : ¬ (l_cmp a b + 2147483648) % 4294967296 - 2147483648 = 0) : ¬ w64 a = w64 b := fun e => h (by
  unfold l_cmp
  rw [if_neg (by omega), if_pos e]
  rfl)
theorem i_or_256 {a b : Int} (h0 : 0 ≤ a) (h1 : a < 256) (h2 : 0 ≤ b) (h3 : b < 256) : 0 ≤ i_or a b ∧ i_or a b < 256 := by
  have := i_or_lt 8 (a := a) (b := b) (by decide) h0 (by simpa using h1) h2 (by simpa using h3)
  have h := i_or_ge (a := a) (b := b) h0 (by omega) h2 (by omega)
  exact ⟨by omega, by simpa using this⟩
theorem i_xor_256 {a b : Int} (h0 : 0 ≤ a) (h1 : a < 256) (h2 : 0 ≤ b) (h3 : b < 256) : 0 ≤ i_xor a b ∧ i_xor a b < 256 := by
  have := i_xor_lt 8 (a := a) (b := b) (by decide) h0 (by simpa using h1) h2 (by simpa using h3)
  exact ⟨this.1, by simpa using this.2⟩
theorem i_shl_128 {n : Int} (h0 : 0 ≤ n) (h1 : n ≤ 7) : 1 ≤ i_shl 1 n ∧ i_shl 1 n ≤ 128 := by
  rcases (show n = 0 ∨ n = 1 ∨ n = 2 ∨ n = 3 ∨ n = 4 ∨ n = 5 ∨ n = 6 ∨ n = 7 by omega) with rfl | rfl | rfl | rfl | rfl | rfl | rfl | rfl <;> decide +kernel
