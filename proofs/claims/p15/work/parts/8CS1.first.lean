/-! make's first CODE -/
/-- the first row in the class's order that is LASTING t at least -/
noncomputable def srF (k N t f : Nat) (r p : List Nat) : List Nat := Nat.rec (motive := fun _ => List Nat → List Nat → List Nat) (fun _ _ => []) (fun _ ih r p => frc (DL k r) (fun d => cond (Nat.ble t d) r (frc (nxA k r p (N - 1)) (fun q => cond (Nat.beq q 0) [] (frcL (mkL (nxR r q) N []) (fun r' => frcL (mkL (nxP r p q) N []) (fun p' => ih r' p'))))))) f r p
theorem srF_s (k N t f : Nat) (r p : List Nat) : srF k N t (f + 1) r p = if t ≤ DL k r then r else if nxA k r p (N - 1) = 0 then [] else srF k N t f (mkL (nxR r (nxA k r p (N - 1))) N []) (mkL (nxP r p (nxA k r p (N - 1))) N []) := by
  show frc (DL k r) (fun d => cond (Nat.ble t d) r (frc (nxA k r p (N - 1)) (fun q => cond (Nat.beq q 0) [] (frcL (mkL (nxR r q) N []) (fun r' => frcL (mkL (nxP r p q) N []) (fun p' => srF k N t f r' p')))))) = _
  rw [frc_e, ble_if, frc_e, beq_if, frcL_e, frcL_e]
noncomputable def lwF (k N t c : Nat) : Bool := Nat.rec (motive := fun _ => Bool) true (fun c ih => cond (Nat.ble t (DL k (dgs k N c))) false ih) c
theorem lwF_s (k N t c : Nat) : lwF k N t (c + 1) = if t ≤ DL k (dgs k N c) then false else lwF k N t c := ble_if _ _ _ _
theorem lwF_0 (k N t : Nat) : ∀ c, lwF k N t c = true → cN k N t c = 0
  | 0, _ => rfl
  | c + 1, h => by
    rw [lwF_s] at h
    by_cases g : t ≤ DL k (dgs k N c)
    · rw [if_pos g] at h
      cases h
    · rw [if_neg g] at h
      show cN k N t c + (if t ≤ DL k (dgs k N c) then 1 else 0) = 0
      rw [if_neg g, lwF_0 k N t c h]
/-- c is the number of the first CODE that is LASTING t, and it is the class's first -/
def FSc (k N t c : Nat) : Prop := srF k N t 65536 (zrs N) (zrs N) = dgs k N c ∧ lwF k N t c = true ∧ t ≤ DL k (dgs k N c)
theorem fs_2_2_0 : FSc 2 2 0 0 := ⟨by decide +kernel, by decide +kernel, by decide +kernel⟩
theorem fs_2_2_1 : FSc 2 2 1 1 := ⟨by decide +kernel, by decide +kernel, by decide +kernel⟩
theorem fs_2_4_0 : FSc 2 4 0 0 := ⟨by decide +kernel, by decide +kernel, by decide +kernel⟩
theorem fs_2_4_1 : FSc 2 4 1 1 := ⟨by decide +kernel, by decide +kernel, by decide +kernel⟩
theorem fs_2_4_2 : FSc 2 4 2 2 := ⟨by decide +kernel, by decide +kernel, by decide +kernel⟩
theorem fs_2_8_0 : FSc 2 8 0 0 := ⟨by decide +kernel, by decide +kernel, by decide +kernel⟩
theorem fs_2_8_1 : FSc 2 8 1 1 := ⟨by decide +kernel, by decide +kernel, by decide +kernel⟩
theorem fs_2_8_2 : FSc 2 8 2 2 := ⟨by decide +kernel, by decide +kernel, by decide +kernel⟩
theorem fs_2_8_3 : FSc 2 8 3 9 := ⟨by decide +kernel, by decide +kernel, by decide +kernel⟩
theorem fs_3_2_0 : FSc 3 2 0 0 := ⟨by decide +kernel, by decide +kernel, by decide +kernel⟩
theorem fs_3_4_0 : FSc 3 4 0 0 := ⟨by decide +kernel, by decide +kernel, by decide +kernel⟩
theorem fs_3_4_1 : FSc 3 4 1 5 := ⟨by decide +kernel, by decide +kernel, by decide +kernel⟩
theorem fs_3_8_0 : FSc 3 8 0 0 := ⟨by decide +kernel, by decide +kernel, by decide +kernel⟩
theorem fs_3_8_1 : FSc 3 8 1 5 := ⟨by decide +kernel, by decide +kernel, by decide +kernel⟩
theorem fs_3_8_2 : FSc 3 8 2 302 := ⟨by decide +kernel, by decide +kernel, by decide +kernel⟩
theorem fs_4_2_0 : FSc 4 2 0 0 := ⟨by decide +kernel, by decide +kernel, by decide +kernel⟩
theorem fs_4_4_0 : FSc 4 4 0 0 := ⟨by decide +kernel, by decide +kernel, by decide +kernel⟩
theorem fs_4_4_1 : FSc 4 4 1 27 := ⟨by decide +kernel, by decide +kernel, by decide +kernel⟩
theorem fs_4_8_0 : FSc 4 8 0 0 := ⟨by decide +kernel, by decide +kernel, by decide +kernel⟩
theorem fs_4_8_1 : FSc 4 8 1 27 := ⟨by decide +kernel, by decide +kernel, by decide +kernel⟩
theorem fs_4_8_2 : FSc 4 8 2 7140 := ⟨by decide +kernel, by decide +kernel, by decide +kernel⟩
