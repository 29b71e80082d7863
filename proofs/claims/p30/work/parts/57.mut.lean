theorem i_rem_v {a b : Int} (ha : 0 ≤ a) (ha2 : a < 2147483648) (hb : 0 < b) (hb2 : b < 2147483648) : i_rem a b = a % b := by
  have e1 : (Int32.ofInt a).toInt = a := w32_id (by omega) (by omega)
  have e2 : (Int32.ofInt b).toInt = b := w32_id (by omega) (by omega)
  have h1 : 0 ≤ a / b := Int.ediv_nonneg ha (by omega)
  have h2 : a / b ≤ a := Int.ediv_le_self b ha
  have h3 : a / b * b = a - a % b := by have := Int.mul_ediv_add_emod a b; rw [Int.mul_comm] at this; omega
  have h4 := Int.emod_nonneg a (show b ≠ 0 by omega)
  have h5 := Int.emod_lt_of_pos a hb
  unfold i_rem
  rw [Int32.toInt_sub, Int32.toInt_mul, Int32.toInt_div, e1, e2, Int.tdiv_eq_ediv_of_nonneg ha]
  rw [show (a / b).bmod (2 ^ 32) = a / b from Int.bmod_eq_of_le (by omega) (by omega), h3]
  rw [show (a - a % b).bmod (2 ^ 32) = a - a % b from Int.bmod_eq_of_le (by omega) (by omega)]
  rw [show a - (a - a % b) = a % b by omega]
  exact Int.bmod_eq_of_le (by omega) (by omega)
theorem i_div_v {a b : Int} (ha : 0 ≤ a) (ha2 : a < 2147483648) (hb : 0 < b) (hb2 : b < 2147483648) : i_div a b = a / b := by
  have e1 : (Int32.ofInt a).toInt = a := w32_id (by omega) (by omega)
  have e2 : (Int32.ofInt b).toInt = b := w32_id (by omega) (by omega)
  have h1 : 0 ≤ a / b := Int.ediv_nonneg ha (by omega)
  have h2 : a / b ≤ a := Int.ediv_le_self b ha
  unfold i_div
  rw [Int32.toInt_div, e1, e2, Int.tdiv_eq_ediv_of_nonneg ha]
  exact Int.bmod_eq_of_le (by omega) (by omega)
theorem FU_3 {n : Int} (h0 : 1 ≤ n) (h1 : n ≤ 3) : FU n ≤ 7 := by
  unfold FU
  rcases (show n = 1 ∨ n = 2 ∨ n = 3 by omega) with rfl | rfl | rfl <;> decide
