/-- which rows, and which single places, of the class's own cells may differ -/
def Fw (rs : List Nat) (ws : List (Nat × Nat)) (I I' : aI1) : Prop := ∀ k j, k < 49 → k ∉ rs → (k, j) ∉ ws → I' k j = I k j
theorem Fw_rf {rs : List Nat} {ws : List (Nat × Nat)} {I : aI1} : Fw rs ws I I := fun _ _ _ _ _ => rfl
theorem Fw_tr {rs : List Nat} {ws : List (Nat × Nat)} {I I1 I2 : aI1} (h : Fw rs ws I I1) (g : Fw rs ws I1 I2) : Fw rs ws I I2 := fun k j h1 h2 h3 => (g k j h1 h2 h3).trans (h k j h1 h2 h3)
theorem Fw_wd {rs rs' : List Nat} {ws ws' : List (Nat × Nat)} {I I' : aI1} (h : Fw rs ws I I') (h1 : ∀ k ∈ rs, k ∈ rs') (h2 : ∀ p ∈ ws, p.1 ∈ rs' ∨ p ∈ ws') : Fw rs' ws' I I' := fun k j g1 g2 g3 => h k j g1 (fun q => g2 (h1 k q)) (fun q => (h2 _ q).elim g2 g3)
theorem Fw_up {rs : List Nat} {ws : List (Nat × Nat)} {I I1 : aI1} {k j : Nat} {v : Int} (h : Fw rs ws I I1) (hk : k ∈ rs ∨ (k, j) ∈ ws) : Fw rs ws I (up2 I1 k j v) := fun a b g1 g2 g3 => by
  rw [up2_n _ _ (by
    by_cases e1 : a = k
    · right
      intro e2
      subst e1 e2
      exact hk.elim g2 g3
    · exact Or.inl e1)]
  exact h a b g1 g2 g3
theorem Fw_upR {rs : List Nat} {ws : List (Nat × Nat)} {I I1 : aI1} {k : Nat} {f : Nat → Int} (h : Fw rs ws I I1) (hk : k ∈ rs) : Fw rs ws I (upR I1 k f) := fun a b g1 g2 g3 => by
  rw [upR_n _ _ (fun e => g2 (by rw [e]; exact hk))]
  exact h a b g1 g2 g3
theorem Fw_kp {rs : List Nat} {ws : List (Nat × Nat)} {I I1 I2 : aI1} {a b : Nat} (h : Fw rs ws I I1) (hk : Kp a b I1 I2) (hr : ∀ k, k < b → a ≤ k → k ∈ rs) : Fw rs ws I I2 := fun k j g1 g2 g3 => by
  rw [hk k (by
    by_cases e : k < a
    · exact Or.inl e
    · right
      refine Decidable.byContradiction (fun e2 => g2 (hr k (by omega) (by omega))))]
  exact h k j g1 g2 g3
theorem Fw_of {rs : List Nat} {ws : List (Nat × Nat)} {I I1 I2 : aI1} (h : Fw rs ws I I1) (hk : ∀ k, k < 49 → k ∉ rs → I2 k = I1 k) : Fw rs ws I I2 := fun k j g1 g2 g3 => by
  rw [hk k g1 g2]
  exact h k j g1 g2 g3
theorem Fw_row {rs : List Nat} {ws : List (Nat × Nat)} {I I' : aI1} (h : Fw rs ws I I') (k : Nat) (h1 : k < 49) (h2 : k ∉ rs) (h3 : ∀ p ∈ ws, p.1 ≠ k) : I' k = I k := funext (fun j => h k j h1 h2 (fun q => h3 _ q rfl))
/-- REFUSED by k: nothing but that differs -/
def RFc (I I' : aI1) (k : Int) : Prop := Fw [48] [(0, 16)] I I' ∧ I' 0 16 = k ∧ I' 48 = up1 (I 48) (-k).toNat (I 48 (-k).toNat + 1)
