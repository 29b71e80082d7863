/-! numbers: bits of small whole numbers -/
theorem o_nat (n : Nat) : Int32.ofInt (n : Int) = Int32.ofNat n := rfl
theorem o_and (a b : Nat) : Int32.ofInt (a : Int) &&& Int32.ofInt (b : Int) = Int32.ofInt ((a &&& b : Nat) : Int) := by
  rw [o_nat, o_nat, o_nat]
  apply Int32.toBitVec_inj.1
  show BitVec.ofNat 32 a &&& BitVec.ofNat 32 b = BitVec.ofNat 32 (a &&& b)
  apply BitVec.eq_of_getLsbD_eq
  intro i hi
  simp [hi]
theorem o_or (a b : Nat) : Int32.ofInt (a : Int) ||| Int32.ofInt (b : Int) = Int32.ofInt ((a ||| b : Nat) : Int) := by
  rw [o_nat, o_nat, o_nat]
  apply Int32.toBitVec_inj.1
  show BitVec.ofNat 32 a ||| BitVec.ofNat 32 b = BitVec.ofNat 32 (a ||| b)
  apply BitVec.eq_of_getLsbD_eq
  intro i hi
  simp [hi]
theorem o_xor (a b : Nat) : Int32.ofInt (a : Int) ^^^ Int32.ofInt (b : Int) = Int32.ofInt ((a ^^^ b : Nat) : Int) := by
  rw [o_nat, o_nat, o_nat]
  apply Int32.toBitVec_inj.1
  show BitVec.ofNat 32 a ^^^ BitVec.ofNat 32 b = BitVec.ofNat 32 (a ^^^ b)
  apply BitVec.eq_of_getLsbD_eq
  intro i hi
  simp [hi]
theorem i_or_N {a b : Nat} (ha : a < 2147483648) (hb : b < 2147483648) : i_or a b = ((a ||| b : Nat) : Int) := by
  have h : a ||| b < 2 ^ 31 := Nat.or_lt_two_pow ha hb
  unfold i_or
  rw [o_or]
  exact w32_id (by omega) (by omega)
theorem i_xor_N {a b : Nat} (ha : a < 2147483648) (hb : b < 2147483648) : i_xor a b = ((a ^^^ b : Nat) : Int) := by
  have h : a ^^^ b < 2 ^ 31 := Nat.xor_lt_two_pow ha hb
  unfold i_xor
  rw [o_xor]
  exact w32_id (by omega) (by omega)
theorem i_and_N {a b : Nat} (ha : a < 2147483648) : i_and a b = ((a &&& b : Nat) : Int) := by
  have h : a &&& b ≤ a := Nat.and_le_left
  unfold i_and
  rw [o_and]
  exact w32_id (by omega) (by omega)
theorem i_or_ge {a b : Int} (h0 : 0 ≤ a) (h1 : a < 2147483648) (h2 : 0 ≤ b) (h3 : b < 2147483648) : a ≤ i_or a b ∧ b ≤ i_or a b ∧ i_or a b < 2147483648 := by
  obtain ⟨n, rfl⟩ := Int.eq_ofNat_of_zero_le h0
  obtain ⟨m, rfl⟩ := Int.eq_ofNat_of_zero_le h2
  have h : n ||| m < 2 ^ 31 := Nat.or_lt_two_pow (by omega) (by omega)
  have g1 : n ≤ n ||| m := Nat.left_le_or
  have g2 : m ≤ n ||| m := Nat.right_le_or
  have e : i_or (n : Int) (m : Int) = ((n ||| m : Nat) : Int) := i_or_N (by omega) (by omega)
  rw [e]
  omega
theorem i_or_lt (k : Nat) {a b : Int} (hk : k ≤ 31) (h0 : 0 ≤ a) (h1 : a < 2 ^ k) (h2 : 0 ≤ b) (h3 : b < 2 ^ k) : i_or a b < 2 ^ k := by
  obtain ⟨n, rfl⟩ := Int.eq_ofNat_of_zero_le h0
  obtain ⟨m, rfl⟩ := Int.eq_ofNat_of_zero_le h2
  have q1 : n < 2 ^ k := by exact_mod_cast h1
  have q2 : m < 2 ^ k := by exact_mod_cast h3
  have h : n ||| m < 2 ^ k := Nat.or_lt_two_pow q1 q2
  have hb : (2 : Nat) ^ k ≤ 2 ^ 31 := Nat.pow_le_pow_right (by decide) hk
  have e : i_or (n : Int) (m : Int) = ((n ||| m : Nat) : Int) := i_or_N (by omega) (by omega)
  rw [e]
  exact_mod_cast h
theorem i_xor_lt (k : Nat) {a b : Int} (hk : k ≤ 31) (h0 : 0 ≤ a) (h1 : a < 2 ^ k) (h2 : 0 ≤ b) (h3 : b < 2 ^ k) : 0 ≤ i_xor a b ∧ i_xor a b < 2 ^ k := by
  obtain ⟨n, rfl⟩ := Int.eq_ofNat_of_zero_le h0
  obtain ⟨m, rfl⟩ := Int.eq_ofNat_of_zero_le h2
  have q1 : n < 2 ^ k := by exact_mod_cast h1
  have q2 : m < 2 ^ k := by exact_mod_cast h3
  have h : n ^^^ m < 2 ^ k := Nat.xor_lt_two_pow q1 q2
  have hb : (2 : Nat) ^ k ≤ 2 ^ 31 := Nat.pow_le_pow_right (by decide) hk
  have e : i_xor (n : Int) (m : Int) = ((n ^^^ m : Nat) : Int) := i_xor_N (by omega) (by omega)
  rw [e]
  exact ⟨by omega, by exact_mod_cast h⟩
theorem i_and_le {a : Int} (h0 : 0 ≤ a) (h1 : a < 2147483648) (b : Int) : 0 ≤ i_and a b ∧ i_and a b ≤ a := by
  obtain ⟨n, rfl⟩ := Int.eq_ofNat_of_zero_le h0
  have hb : ∃ m : Nat, m < 4294967296 ∧ Int32.ofInt b = Int32.ofInt ((m : Nat) : Int) := ⟨(Int32.ofInt b).toBitVec.toNat, (Int32.ofInt b).toBitVec.isLt, by
    rw [o_nat]
    apply Int32.toBitVec_inj.1
    show _ = BitVec.ofNat 32 _
    rw [BitVec.ofNat_toNat]
    simp⟩
  obtain ⟨m, hm, e⟩ := hb
  have g : n &&& m ≤ n := Nat.and_le_left
  unfold i_and
  rw [e, o_and]
  have e2 : (Int32.ofInt ((n &&& m : Nat) : Int)).toInt = ((n &&& m : Nat) : Int) := w32_id (by omega) (by omega)
  rw [e2]
  omega
theorem i_and_comm (a b : Int) : i_and a b = i_and b a := by
  unfold i_and
  rw [Int32.and_comm]
theorem i_and_1 (x : Int) : i_and x 1 = 0 ∨ i_and x 1 = 1 := by
  rw [i_and_comm]
  have := i_and_le (a := 1) (by decide) (by decide) x
  omega
theorem i_shl1 {n : Int} (h0 : 0 ≤ n) (h1 : n ≤ 8) : i_shl 1 n = 2 ^ n.toNat := by
  rcases (show n = 0 ∨ n = 1 ∨ n = 2 ∨ n = 3 ∨ n = 4 ∨ n = 5 ∨ n = 6 ∨ n = 7 ∨ n = 8 by omega) with rfl | rfl | rfl | rfl | rfl | rfl | rfl | rfl | rfl <;> decide +kernel
/-- one less than a power of two -/
def FU (n : Int) : Int := 2 ^ n.toNat - 1
theorem FU_r {n : Int} (h0 : 1 ≤ n) (h1 : n ≤ 8) : 1 ≤ FU n ∧ FU n ≤ 255 ∧ FU n + 1 = 2 ^ n.toNat := by
  unfold FU
  rcases (show n = 1 ∨ n = 2 ∨ n = 3 ∨ n = 4 ∨ n = 5 ∨ n = 6 ∨ n = 7 ∨ n = 8 by omega) with rfl | rfl | rfl | rfl | rfl | rfl | rfl | rfl <;> decide
