noncomputable def lwF (k N t c : Nat) : Bool := Nat.rec (motive := fun _ => Bool) true (fun c ih => cond (Nat.ble t (DL k (dgs k N c))) false ih) c
theorem lwF_s (k N t c : Nat) : lwF k N t (c + 1) = if t ≤ DL k (dgs k N c) then false else lwF k N t c := ble_if _ _ _ _
theorem lwF_0 (k N t : Nat) : ∀ c, lwF k N t c = true → cN k N t c = 0
  | 0, _ => rfl
  | c + 1, h => by
    rw [lwF_s] at h
    by_cases g : t ≤ DL k (dgs k N c)
    · rw [if_pos g] at h
      cases h
    · rw [if_neg g] at h
      show cN k N t c + (if t ≤ DL k (dgs k N c) then 1 else 0) = 0
      rw [if_neg g, lwF_0 k N t c h]
/-- all below j -/
noncomputable def andX (j : Nat) (f : Nat → Bool) : Bool := Nat.rec (motive := fun _ => Bool) true (fun j ih => cond (f j) ih false) j
theorem andX_e {f : Nat → Bool} : ∀ j, andX j f = true → ∀ i, i < j → f i = true
  | 0, _, i, hi => absurd hi (Nat.not_lt_zero i)
  | j + 1, h, i, hi => by
    have h2 : cond (f j) (andX j f) false = true := h
    cases hf : f j with
    | false =>
      rw [hf] at h2
      exact absurd (show false = true from h2) (by decide)
    | true =>
      rw [hf] at h2
      by_cases e : i = j
      · rw [e, hf]
      · exact andX_e j h2 i (by omega)
