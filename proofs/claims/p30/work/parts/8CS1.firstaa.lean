/-! make's first CODE -/
/-- the first row in the class's order that is LASTING t at least -/
noncomputable def srF (k N t f : Nat) (r p : List Nat) : List Nat := Nat.rec (motive := fun _ => List Nat → List Nat → List Nat) (fun _ _ => []) (fun _ ih r p => frc (DL k r) (fun d => cond (Nat.ble t d) r (frc (nxA k r p (N - 1)) (fun q => cond (Nat.beq q 0) [] (frcL (mkL (nxR r q) N []) (fun r' => frcL (mkL (nxP r p q) N []) (fun p' => ih r' p'))))))) f r p
theorem srF_s (k N t f : Nat) (r p : List Nat) : srF k N t (f + 1) r p = if t ≤ DL k r then r else if nxA k r p (N - 1) = 0 then [] else srF k N t f (mkL (nxR r (nxA k r p (N - 1))) N []) (mkL (nxP r p (nxA k r p (N - 1))) N []) := by
  show frc (DL k r) (fun d => cond (Nat.ble t d) r (frc (nxA k r p (N - 1)) (fun q => cond (Nat.beq q 0) [] (frcL (mkL (nxR r q) N []) (fun r' => frcL (mkL (nxP r p q) N []) (fun p' => srF k N t f r' p')))))) = _
  rw [frc_e, ble_if, frc_e, beq_if, frcL_e, frcL_e]
