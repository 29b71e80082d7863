/-- CodeSearch's row and peak, up to place i -/
def RI (F : aI1) (i b : Int) : Prop := (∀ j, j < 8 → (0 ≤ F 41 j ∧ F 41 j ≤ b - 1) ∧ (0 ≤ F 42 j ∧ F 42 j ≤ b - 1)) ∧ (∀ j : Nat, 1 ≤ j → (j : Int) < i → F 41 j ≤ F 42 (j - 1) + 1)
/-- the first codes that it keeps -/
def FI (F : aI1) : Prop := ∀ j, j < 288 → 0 ≤ F 44 j ∧ F 44 j ≤ 7
theorem RI_up {F : aI1} {a b i v : Int} (h : RI F a b) (h0 : 1 ≤ i) (h1 : i < a) (ha : a ≤ 8) (hb : 2 ≤ b) (hne : F 41 i.toNat ≠ min (b - 1) (F 42 (i - 1).toNat + 1)) (hv : v = max (F 42 (i - 1).toNat) (F 41 i.toNat + 1)) : RI (up2 (up2 F 41 i.toNat (F 41 i.toNat + 1)) 42 i.toNat v) (i + 1) b := by
  have p1 := h.1 (i - 1).toNat (by omega)
  have p2 := h.1 i.toNat (by omega)
  have p3 := h.2 i.toNat (by omega) (by omega)
  rw [show i.toNat - 1 = (i - 1).toNat by omega] at p3
  refine ⟨fun j hj => ?_, fun j j1 j2 => ?_⟩
  · have q := h.1 j hj
    rw [up2_off _ _ _ (show (41 : Nat) ≠ 42 by decide), up2_row (k := 42), up2_row (k := 41), up2_off _ _ _ (show (42 : Nat) ≠ 41 by decide)]
    by_cases e : j = i.toNat
    · rw [e, up1_s, up1_s]; omega
    · rw [up1_n _ _ e, up1_n _ _ e]; exact q
  · rw [up2_off _ _ _ (show (41 : Nat) ≠ 42 by decide), up2_row (k := 42), up2_row (k := 41), up2_off _ _ _ (show (42 : Nat) ≠ 41 by decide), up1_n _ _ (show j - 1 ≠ i.toNat by omega)]
    by_cases e : j = i.toNat
    · rw [e, up1_s, show i.toNat - 1 = (i - 1).toNat by omega]; omega
    · rw [up1_n _ _ e]; exact h.2 j j1 (by omega)
theorem RI_st {F : aI1} {b i v : Int} (h : RI F i b) (h0 : 1 ≤ i) (h1 : i < 8) (hb : 2 ≤ b) (hv : v = F 42 (i - 1).toNat) : RI (up2 (up2 F 41 i.toNat 0) 42 i.toNat v) (i + 1) b := by
  have p1 := h.1 (i - 1).toNat (by omega)
  refine ⟨fun j hj => ?_, fun j j1 j2 => ?_⟩
  · have q := h.1 j hj
    rw [up2_off _ _ _ (show (41 : Nat) ≠ 42 by decide), up2_row (k := 42), up2_row (k := 41), up2_off _ _ _ (show (42 : Nat) ≠ 41 by decide)]
    by_cases e : j = i.toNat
    · rw [e, up1_s, up1_s]; omega
    · rw [up1_n _ _ e, up1_n _ _ e]; exact q
  · rw [up2_off _ _ _ (show (41 : Nat) ≠ 42 by decide), up2_row (k := 42), up2_row (k := 41), up2_off _ _ _ (show (42 : Nat) ≠ 41 by decide), up1_n _ _ (show j - 1 ≠ i.toNat by omega)]
    by_cases e : j = i.toNat
    · rw [e, up1_s, show i.toNat - 1 = (i - 1).toNat by omega]; omega
    · rw [up1_n _ _ e]; exact h.2 j j1 (by omega)
theorem RI_of {F G : aI1} {i b : Int} (h : RI F i b) (h1 : G 41 = F 41) (h2 : G 42 = F 42) : RI G i b := by unfold RI; rw [h1, h2]; exact h
theorem FI_of {F G : aI1} (h : FI F) (h1 : G 44 = F 44) : FI G := by unfold FI; rw [h1]; exact h
theorem FI_cpy {F : aI1} {dp : Nat} (h : FI F) (hr : ∀ j, j < 8 → 0 ≤ F 41 j ∧ F 41 j ≤ 7) : FI (upR F 44 (va_cpy (F 41) (F 44) 0 dp 8)) := fun j hj => by
  rw [upR_s]
  unfold va_cpy
  by_cases e : dp ≤ j ∧ j < dp + 8
  · rw [if_pos e]; exact hr _ (by omega)
  · rw [if_neg e]; exact h j hj
