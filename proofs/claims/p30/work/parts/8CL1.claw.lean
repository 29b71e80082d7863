theorem zLR_k {I I' : aI1} {S S' : aS1} {w : Nat} {qs : List zQ} (h : zLR I S w qs) (h0 : I' w = I w) (h1 : I' (w + 1) = I (w + 1)) (h2 : I' (w + 2) = I (w + 2)) (hS : SX S S') : zLR I' S' w qs := by
  obtain ⟨a1, a2, a3, n, b1, b2, b3, b4⟩ := h
  unfold zLR
  rw [h0, h1, h2]
  exact ⟨a1, a2, a3, n, hS _ _ b1, b2, b3, hS _ _ b4⟩
/-- what law leaves: by what the TEXT tells -/
def zCW (f : Nat → Int) (N : Nat) (x : Int) (I I' : aI1) (R R' : aR1) (S S' : aS1) : Prop := (∀ fp, zTx f N = .inl fp → x = -6 ∧ R' 4 = R 4 ∧ I' 1 9 = I 1 9 ∧ I' 10 0 = zPc N (zTk f N 0) fp) ∧ (∀ qs, zTx f N = .inr qs → x = I 1 9 ∧ I' 1 9 = I 1 9 + 1 ∧ I' 10 0 = -1 ∧ R' 4 = up1 (R 4) (I 1 9).toNat (some S.length) ∧ S'[S.length]? = some (12, 0) ∧ zLR I' S' S.length qs)
theorem zCW_0 {f : Nat → Int} {N fp : Nat} {x : Int} {I I' : aI1} {R R' : aR1} {S S' : aS1} (h : zTx f N = .inl fp) (h1 : x = -6 ∧ R' 4 = R 4 ∧ I' 1 9 = I 1 9 ∧ I' 10 0 = zPc N (zTk f N 0) fp) : zCW f N x I I' R R' S S' := ⟨fun g hg => (by rw [h] at hg; cases hg; exact h1), fun qs hq => (by rw [h] at hq; cases hq)⟩
theorem zCW_1 {f : Nat → Int} {N : Nat} {qs : List zQ} {x : Int} {I I' : aI1} {R R' : aR1} {S S' : aS1} (h : zTx f N = .inr qs) (h1 : x = I 1 9 ∧ I' 1 9 = I 1 9 + 1 ∧ I' 10 0 = -1 ∧ R' 4 = up1 (R 4) (I 1 9).toNat (some S.length) ∧ S'[S.length]? = some (12, 0) ∧ zLR I' S' S.length qs) : zCW f N x I I' R R' S S' := ⟨fun g hg => (by rw [h] at hg; cases hg), fun ps hq => (by rw [h] at hq; cases hq; exact h1)⟩
