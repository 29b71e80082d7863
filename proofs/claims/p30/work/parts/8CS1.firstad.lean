theorem allB_e {k t : Nat} (hk : 0 < k) : ∀ m C cs ls, C ≤ k ^ m → allB k t m C cs ls = true → ∀ c, c < C → gd (lasA k (dr k m c) cs ls) 0 < t
  | 0, C, cs, ls, _, h, c, _ => by
    have h2 : cond (Nat.ble t (gd ls 0)) false true = true := h
    rw [ble_if] at h2
    show gd ls 0 < t
    by_cases e : t ≤ gd ls 0
    · rw [if_pos e] at h2
      exact absurd h2 (by decide)
    · omega
  | m + 1, C, cs, ls, hC, h, c, hc => by
    rw [allB_s] at h
    have hx := Nat.mod_lt c hk
    have h2 := andX_e k h (c % k) hx
    have hd := Nat.div_add_mod c k
    have h3 : c / k < (C + (k - 1) - c % k) / k := by
      refine Nat.lt_of_succ_le ((Nat.le_div_iff_mul_le hk).mpr ?_)
      show (c / k + 1) * k ≤ _
      rw [Nat.add_mul, Nat.one_mul, Nat.mul_comm (c / k) k]
      omega
    have h4 : (C + (k - 1) - c % k) / k ≤ k ^ m := by
      have h6 : C ≤ k ^ m * k := by rw [← Nat.pow_succ]; exact hC
      refine Nat.le_of_lt_succ ((Nat.div_lt_iff_lt_mul hk).mpr ?_)
      show _ < (k ^ m + 1) * k
      rw [Nat.add_mul, Nat.one_mul]
      generalize k ^ m * k = z at h6 ⊢
      omega
    have h7 : (if (C + (k - 1) - c % k) / k = 0 then true else allB k t m ((C + (k - 1) - c % k) / k) (c % k :: cs) (stL k m (c % k) cs ls :: ls)) = true := h2
    rw [if_neg (Nat.ne_of_gt (Nat.lt_of_le_of_lt (Nat.zero_le _) h3))] at h7
    have h8 := allB_e hk m _ _ _ h4 h7 (c / k) h3
    show gd (lasA k (c % k :: dr k m (c / k)) cs ls) 0 < t
    rw [lasA_c, dr_len]
    exact h8
