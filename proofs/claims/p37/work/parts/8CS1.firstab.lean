noncomputable def lwF (k N t c : Nat) : Bool := Nat.rec (motive := fun _ => Bool) true (fun c ih => cond (Nat.ble t (DL k (dgs k N c))) false ih) c
theorem lwF_s (k N t c : Nat) : lwF k N t (c + 1) = if t ≤ DL k (dgs k N c) then false else lwF k N t c := ble_if _ _ _ _
theorem lwF_0 (k N t : Nat) : ∀ c, lwF k N t c = true → cN k N t c = 0
  | 0, _ => rfl
  | c + 1, h => by
    rw [lwF_s] at h
    by_cases g : t ≤ DL k (dgs k N c)
    · rw [if_pos g] at h
      cases h
    · rw [if_neg g] at h
      show cN k N t c + (if t ≤ DL k (dgs k N c) then 1 else 0) = 0
      rw [if_neg g, lwF_0 k N t c h]
/-- c is the number of the first CODE that is LASTING t, and it is the class's first -/
def FSc (k N t c : Nat) : Prop := srF k N t 65536 (zrs N) (zrs N) = dgs k N c ∧ lwF k N t c = true ∧ t ≤ DL k (dgs k N c)
