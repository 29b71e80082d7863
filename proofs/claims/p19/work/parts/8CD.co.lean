/-- cells from c on keep what the coast keeps in I, R -/
def ImC (I I' : aI1) (R R' : aR1) (c : Nat) : Prop := (∀ j, 5 ≤ j → j ≤ 11 → I' c j = I 1 j) ∧ (∀ j, j < 8 → I' (c + 1) j = I 2 j) ∧ (∀ s, s < 256 → I' (c + 2) s = I 3 s) ∧ (∀ j, j < 24 → I' (c + 4) j = I 5 j) ∧ (∀ j, j < 16 → I' (c + 5) j = I 6 j) ∧ (∀ i, i < 6 → R' (c + 3) i = R 4 i)
/-- the coast is again what cells from c on keep -/
def BkC (I I' : aI1) (R R' : aR1) (c : Nat) : Prop := (∀ j, 5 ≤ j → j ≤ 11 → I' 1 j = I c j) ∧ (∀ j, j < 8 → I' 2 j = I (c + 1) j) ∧ (∀ s, s < 256 → I' 3 s = I (c + 2) s) ∧ (∀ j, j < 24 → I' 5 j = I (c + 4) j) ∧ (∀ j, j < 16 → I' 6 j = I (c + 5) j) ∧ (∀ i, i < 6 → R' 4 i = R (c + 3) i)
theorem mem_10 {rs : List Nat} {k : Nat} (h1 : 10 ≤ k) (h2 : k < 15) (h : ∀ k, k < 15 → 10 ≤ k → k ∈ rs) : k ∈ rs := h k h2 h1
/-- what the class keeps of its search for CODES -/
def SRP (I : aI1) (_ : aR1) : Prop := SR I
theorem SRP_w {rs : List Nat} {ws : List (Nat × Nat)} {I I' : aI1} {R R' : aR1} (h : SRP I R) (hw : Fw rs ws I I') (h1 : 43 ∉ rs ∧ 45 ∉ rs) (h2 : ∀ p ∈ ws, p.1 ≠ 43 ∧ p.1 ≠ 45) : SRP I' R' := SR_of h (Fw_row hw 43 (by decide) h1.1 (fun p hp => (h2 p hp).1)) (Fw_row hw 45 (by decide) h1.2 (fun p hp => (h2 p hp).2))
theorem SRP_k {I I' : aI1} {R R' : aR1} (h : SRP I R) (hk : Kp 49 73 I I') : SRP I' R' := SR_of h (hk 43 (by decide)) (hk 45 (by decide))
