theorem mul_small {p k : Int} (hp : 1 ≤ p ∧ p ≤ 5764801) (hk : 1 ≤ k ∧ k ≤ 8) : 1 ≤ p * k ∧ p * k ≤ 46118408 := by
  rcases (show k = 1 ∨ k = 2 ∨ k = 3 ∨ k = 4 ∨ k = 5 ∨ k = 6 ∨ k = 7 ∨ k = 8 by omega) with rfl | rfl | rfl | rfl | rfl | rfl | rfl | rfl <;> omega
theorem canC_bit {s t : Nat} {b : Int} (h : canC (s : Int) (t : Int) b) (i : Nat) (hi : i < 32) (hs : s.testBit i = true) : t.testBit i = true := by
  have h1 : Int32.ofInt (s : Int) &&& (Int32.ofInt (t : Int) ^^^ Int32.ofInt (-1)) = 0 := by
    have h2 := h.1
    unfold i_and i_xor w32 at h2
    rw [n_of, n_of] at h2
    exact Int32.toInt_inj.1 h2
  have h3 := congrArg Int32.toBitVec h1
  rw [o_nat, o_nat] at h3
  have h4 : BitVec.ofNat 32 s &&& (BitVec.ofNat 32 t ^^^ BitVec.allOnes 32) = 0#32 := h3
  have h5 := congrArg (fun v => v.getLsbD i) h4
  simp only [BitVec.getLsbD_and, BitVec.getLsbD_xor, BitVec.getLsbD_allOnes, BitVec.getLsbD_ofNat, BitVec.getLsbD_zero, hi, decide_true, hs, Bool.true_and, Bool.xor_true] at h5
  simpa using h5
/-- how many of the lowest eight bits are set -/
def pcN (n : Nat) : Nat := n % 2 + n / 2 % 2 + n / 4 % 2 + n / 8 % 2 + n / 16 % 2 + n / 32 % 2 + n / 64 % 2 + n / 128 % 2
def pc8 (x : Int) : Int := (pcN x.toNat : Nat)
theorem dec8 : ∀ n : Nat, n < 256 → n = n % 2 + 2 * (n / 2 % 2) + 4 * (n / 4 % 2) + 8 * (n / 8 % 2) + 16 * (n / 16 % 2) + 32 * (n / 32 % 2) + 64 * (n / 64 % 2) + 128 * (n / 128 % 2) := by decide +kernel
theorem bit_le {s t i : Nat} (h : s.testBit i = true → t.testBit i = true) : s / 2 ^ i % 2 ≤ t / 2 ^ i % 2 := by
  rw [Nat.testBit_eq_decide_div_mod_eq, Nat.testBit_eq_decide_div_mod_eq] at h
  simp only [decide_eq_true_eq] at h
  have := Nat.mod_lt (s / 2 ^ i) (show 0 < 2 by decide)
  by_cases g : s / 2 ^ i % 2 = 1
  · have := h g; omega
  · omega
theorem lin8 {a0 a1 a2 a3 a4 a5 a6 a7 b0 b1 b2 b3 b4 b5 b6 b7 n m : Nat} (h0 : a0 ≤ b0) (h1 : a1 ≤ b1) (h2 : a2 ≤ b2) (h3 : a3 ≤ b3) (h4 : a4 ≤ b4) (h5 : a5 ≤ b5) (h6 : a6 ≤ b6) (h7 : a7 ≤ b7)
    (hn : n = a0 + 2 * a1 + 4 * a2 + 8 * a3 + 16 * a4 + 32 * a5 + 64 * a6 + 128 * a7) (hm : m = b0 + 2 * b1 + 4 * b2 + 8 * b3 + 16 * b4 + 32 * b5 + 64 * b6 + 128 * b7) (hne : n ≠ m) : a0 + a1 + a2 + a3 + a4 + a5 + a6 + a7 + 1 ≤ b0 + b1 + b2 + b3 + b4 + b5 + b6 + b7 := by
  refine Nat.not_lt.mp (fun hc => hne ?_)
  obtain rfl : a0 = b0 := by omega
  obtain rfl : a1 = b1 := by omega
  obtain rfl : a2 = b2 := by omega
  obtain rfl : a3 = b3 := by omega
  obtain rfl : a4 = b4 := by omega
  obtain rfl : a5 = b5 := by omega
  obtain rfl : a6 = b6 := by omega
  obtain rfl : a7 = b7 := by omega
  rw [hn, hm]
theorem sup_pc {s t b : Int} (hs0 : 0 ≤ s) (hs1 : s ≤ 255) (ht0 : 0 ≤ t) (ht1 : t ≤ 255) (h : canC s t b) (hne : s ≠ t) : pc8 s + 1 ≤ pc8 t := by
  obtain ⟨n, rfl⟩ := Int.eq_ofNat_of_zero_le hs0
  obtain ⟨m, rfl⟩ := Int.eq_ofNat_of_zero_le ht0
  have g : ∀ i, i < 32 → n / 2 ^ i % 2 ≤ m / 2 ^ i % 2 := fun i hi => bit_le (canC_bit h i hi)
  have g0 := g 0 (by decide)
  rw [Nat.pow_zero, Nat.div_one, Nat.div_one] at g0
  have := lin8 g0 (g 1 (by decide)) (g 2 (by decide)) (g 3 (by decide)) (g 4 (by decide)) (g 5 (by decide)) (g 6 (by decide)) (g 7 (by decide)) (dec8 n (by omega)) (dec8 m (by omega)) (fun e => hne (by rw [e]))
  unfold pc8
  rw [Int.toNat_natCast, Int.toNat_natCast]
  have h2 : pcN n + 1 ≤ pcN m := this
  omega
theorem pcN_r (n : Nat) : pcN n ≤ 8 := by
  have g : ∀ q : Nat, q % 2 ≤ 1 := fun q => by omega
  have h0 := g n
  have h1 := g (n / 2)
  have h2 := g (n / 4)
  have h3 := g (n / 8)
  have h4 := g (n / 16)
  have h5 := g (n / 32)
  have h6 := g (n / 64)
  have h7 := g (n / 128)
  unfold pcN
  generalize n % 2 = a0 at *
  generalize n / 2 % 2 = a1 at *
  generalize n / 4 % 2 = a2 at *
  generalize n / 8 % 2 = a3 at *
  generalize n / 16 % 2 = a4 at *
  generalize n / 32 % 2 = a5 at *
  generalize n / 64 % 2 = a6 at *
  generalize n / 128 % 2 = a7 at *
  omega
theorem RX_s {I : aI1} (h : RX I) : (1 ≤ I 51 304 ∧ I 51 304 ≤ 8) ∧ (2 ≤ I 51 305 ∧ I 51 305 ≤ 8) ∧ (1 ≤ FU (I 51 304) ∧ FU (I 51 304) ≤ 255) := by
  have hf := FU_r h.1.1.1 h.1.1.2
  exact ⟨h.1.1, h.1.2.1, hf.1, hf.2.1⟩
theorem pc8_r {s : Int} : 0 ≤ pc8 s ∧ pc8 s ≤ 8 := by
  have := pcN_r s.toNat
  unfold pc8
  omega
