def dv (k c : Nat) : Nat → Nat
  | 0 => c
  | j + 1 => dv k c j / k
def dg (k N c s : Nat) : Nat := dv k c (N - 1 - s) % k
noncomputable def dgs (k N c : Nat) : List Nat := mkL (dg k N c) N []
/-- how many of the first c CODES are LASTING t at least -/
noncomputable def cN (k N t : Nat) : Nat → Nat
  | 0 => 0
  | c + 1 => cN k N t c + (if t ≤ DL k (dgs k N c) then 1 else 0)
theorem dg_r {k N c s : Nat} (hk : 2 ≤ k) (hk4 : k ≤ 4) : dg k N c s ≤ 3 := by
  have := Nat.mod_lt (dv k c (N - 1 - s)) (show k > 0 by omega)
  unfold dg
  omega
/-- the CODE's number taken apart from the last STATE down to q -/
def DG (k N c : Nat) (q re : Int) (F : Nat → Int) : Prop := re = ((dv k c ((N : Int) - 1 - q).toNat : Nat) : Int) ∧ ∀ s : Nat, q < s → s < N → F s = ((dg k N c s : Nat) : Int)
theorem DG_0 {k N c : Nat} {q re : Int} {F : Nat → Int} (h : q = (N : Int) - 1) (h1 : re = c) : DG k N c q re F := by
  refine ⟨?_, fun s h2 h3 => absurd h3 (by omega)⟩
  rw [h, h1, show ((N : Int) - 1 - ((N : Int) - 1)).toNat = 0 by omega]
  rfl
theorem DG_s {k N c : Nat} {q re re' q' : Int} {F : Nat → Int} {kk : Int} (h : DG k N c q re F) (h0 : 0 ≤ q) (hN : q < N) (hk : kk = k) (hr : re' = re / kk) (hq : q' = q - 1) : DG k N c q' re' (up1 F q.toNat (re % kk)) := by
  obtain ⟨h1, h2⟩ := h
  refine ⟨?_, fun s h3 h4 => ?_⟩
  · rw [hr, h1, hk, hq, show ((N : Int) - 1 - (q - 1)).toNat = ((N : Int) - 1 - q).toNat + 1 by omega]
    rfl
  · by_cases e : s = q.toNat
    · subst e
      rw [up1_s, h1, hk]
      unfold dg
      rw [show N - 1 - q.toNat = ((N : Int) - 1 - q).toNat by omega]
      rfl
    · rw [up1_n _ _ e]
      exact h2 s (by omega) h4
theorem DG_e {k N c : Nat} {re : Int} {F : Nat → Int} (h : DG k N c (-1) re F) {s : Nat} (hs : s < N) : F s = ((gd (dgs k N c) s : Nat) : Int) := by
  unfold dgs
  rw [(mkL_v (dg k N c) N []).2.1 s hs]
  exact h.2 s (by omega) hs
theorem DG_r {k N c : Nat} {re : Int} {F : Nat → Int} (h : DG k N c (-1) re F) (hk : 2 ≤ k) (hk4 : k ≤ 4) {s : Nat} (hs : s < N) : 0 ≤ F s ∧ F s ≤ 3 := by
  rw [h.2 s (by omega) hs]
  have := dg_r (N := N) (c := c) (s := s) hk hk4
  omega
theorem DG_cg {k N c : Nat} {q re : Int} {F G : Nat → Int} (h : DG k N c q re F) (e : G = F) : DG k N c q re G := by rw [e]; exact h
theorem dgs_len (k N c : Nat) : (dgs k N c).length = N := by
  unfold dgs
  rw [(mkL_v (dg k N c) N []).1]
  rfl
theorem pow_65536 {b : Int} {n : Nat} (h0 : 2 ≤ b) (h1 : b ≤ 4) (hn : n ≤ 8) : 1 ≤ b ^ n ∧ b ^ n ≤ 65536 := by
  have h : ∀ n : Nat, n < 9 → 1 ≤ b ^ n ∧ b ^ n ≤ 65536 := by
    rcases (show b = 2 ∨ b = 3 ∨ b = 4 by omega) with rfl | rfl | rfl <;> decide
  exact h n (by omega)
theorem pow_nat {b : Int} (n : Nat) (h0 : 0 ≤ b) : (b ^ n).toNat = b.toNat ^ n := by
  obtain ⟨m, rfl⟩ := Int.eq_ofNat_of_zero_le h0
  rw [← Int.natCast_pow]
  rfl
