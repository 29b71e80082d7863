def mnn (a b : Nat) : Nat := cond (Nat.ble a b) a b
def mxx (a b : Nat) : Nat := cond (Nat.ble a b) b a
theorem mnn_e (a b : Nat) : mnn a b = min a b := by
  unfold mnn
  cases h : Nat.ble a b with
  | true => have := Nat.le_of_ble_eq_true h; show a = _; omega
  | false =>
    have : ¬ a ≤ b := fun h1 => by rw [Nat.ble_eq.mpr h1] at h; cases h
    show b = _
    omega
theorem mxx_e (a b : Nat) : mxx a b = max a b := by
  unfold mxx
  cases h : Nat.ble a b with
  | true => have := Nat.le_of_ble_eq_true h; show b = _; omega
  | false =>
    have : ¬ a ≤ b := fun h1 => by rw [Nat.ble_eq.mpr h1] at h; cases h
    show a = _
    omega
theorem blt_if {α : Type} (a b : Nat) (x y : α) : cond (Nat.ble (Nat.succ a) b) x y = if a < b then x else y := by
  by_cases h : a < b
  · rw [if_pos h, Nat.ble_eq.mpr (show Nat.succ a ≤ b from h)]; rfl
  · rw [if_neg h]
    cases hq : Nat.ble (Nat.succ a) b with
    | true => exact absurd (Nat.le_of_ble_eq_true hq) h
    | false => rfl
/-- the place at which a row turns on; 0, if it was the last -/
noncomputable def nxA (k : Nat) (r p : List Nat) (a : Nat) : Nat := Nat.rec (motive := fun _ => Nat) 0 (fun a ih => cond (Nat.beq (gd r (Nat.succ a)) (mnn (k - 1) (Nat.succ (gd p a)))) ih (Nat.succ a)) a
theorem nxA_c (k : Nat) (r p : List Nat) (a : Nat) : nxA k r p (a + 1) = if gd r (a + 1) = min (k - 1) (gd p a + 1) then nxA k r p a else a + 1 := by
  show cond (Nat.beq (gd r (a + 1)) (mnn (k - 1) (gd p a + 1))) (nxA k r p a) (a + 1) = _
  rw [beq_if, mnn_e]
theorem nxA_at (k : Nat) (r p : List Nat) {q : Nat} (h0 : q = 0 ∨ ¬ gd r q = min (k - 1) (gd p (q - 1) + 1)) : ∀ a, q ≤ a → (∀ j, q < j → j ≤ a → gd r j = min (k - 1) (gd p (j - 1) + 1)) → nxA k r p a = q := by
  intro a
  induction a with
  | zero => intro h1 _; show 0 = q; omega
  | succ a ih =>
    intro h1 h2
    rw [nxA_c]
    by_cases h3 : q = a + 1
    · rw [if_neg]
      · exact h3.symm
      · rcases h0 with h0 | h0
        · omega
        · rw [h3] at h0
          exact h0
    · have h9 := h2 (a + 1) (by omega) (by omega)
      rw [Nat.add_sub_cancel] at h9
      rw [if_pos h9]
      exact ih (by omega) (fun j h4 h5 => h2 j h4 (by omega))
noncomputable def mkL (f : Nat → Nat) (m : Nat) (acc : List Nat) : List Nat := Nat.rec (motive := fun _ => List Nat → List Nat) (fun acc => acc) (fun m ih acc => frc (f m) (fun v => ih (v :: acc))) m acc
theorem mkL_s (f : Nat → Nat) (m : Nat) (acc : List Nat) : mkL f (m + 1) acc = mkL f m (f m :: acc) := by
  show frc (f m) (fun v => mkL f m (v :: acc)) = _
  rw [frc_e]
theorem mkL_v (f : Nat → Nat) : ∀ (m : Nat) (acc : List Nat), (mkL f m acc).length = m + acc.length ∧ (∀ j, j < m → gd (mkL f m acc) j = f j) ∧ (∀ j, gd (mkL f m acc) (m + j) = gd acc j) := by
  intro m
  induction m with
  | zero => intro acc; exact ⟨by show acc.length = _; omega, fun j hj => absurd hj (by omega), fun j => by show gd acc (0 + j) = _; rw [Nat.zero_add]⟩
  | succ m ih =>
    intro acc
    obtain ⟨h1, h2, h3⟩ := ih (f m :: acc)
    rw [mkL_s]
    refine ⟨by rw [h1]; simp; omega, fun j hj => ?_, fun j => ?_⟩
    · by_cases e : j = m
      · have := h3 0
        rw [Nat.add_zero, gd_0] at this
        rw [e, this]
      · exact h2 j (by omega)
    · rw [show m + 1 + j = m + (j + 1) by omega, h3, gd_s]
noncomputable def nxR (r : List Nat) (q j : Nat) : Nat := cond (Nat.ble (Nat.succ j) q) (gd r j) (cond (Nat.beq j q) (Nat.succ (gd r q)) 0)
noncomputable def nxP (r p : List Nat) (q j : Nat) : Nat := cond (Nat.ble (Nat.succ j) q) (gd p j) (mxx (gd p (q - 1)) (Nat.succ (gd r q)))
def namN (k : Nat) : Nat → Nat
  | 0 => 1
  | u + 1 => namN k u * (k - u)
def pwC (d : Nat) : Nat := 1 + cond (Nat.ble 1 d) 16777216 0 + cond (Nat.ble 2 d) 281474976710656 0 + cond (Nat.ble 3 d) 4722366482869645213696 0
theorem pwC_e (d : Nat) : pwC d = 1 + (if 1 ≤ d then 16777216 else 0) + (if 2 ≤ d then 281474976710656 else 0) + (if 3 ≤ d then 4722366482869645213696 else 0) := by
  unfold pwC
  rw [ble_if, ble_if, ble_if]
noncomputable def srch (k N f : Nat) (r p : List Nat) (acc : Nat) : Nat := Nat.rec (motive := fun _ => List Nat → List Nat → Nat → Nat) (fun _ _ acc => acc) (fun _ ih r p acc => frc (DL k r) (fun d => frc (acc + namN k (gd p (N - 1) + 1) * pwC d) (fun a => frc (nxA k r p (N - 1)) (fun q => cond (Nat.beq q 0) a (frcL (mkL (nxR r q) N []) (fun r' => frcL (mkL (nxP r p q) N []) (fun p' => ih r' p' a))))))) f r p acc
theorem srch_s (k N f : Nat) (r p : List Nat) (acc : Nat) : srch k N (f + 1) r p acc = if nxA k r p (N - 1) = 0 then acc + namN k (gd p (N - 1) + 1) * pwC (DL k r) else srch k N f (mkL (nxR r (nxA k r p (N - 1))) N []) (mkL (nxP r p (nxA k r p (N - 1))) N []) (acc + namN k (gd p (N - 1) + 1) * pwC (DL k r)) := by
  show frc (DL k r) (fun d => frc (acc + namN k (gd p (N - 1) + 1) * pwC d) (fun a => frc (nxA k r p (N - 1)) (fun q => cond (Nat.beq q 0) a (frcL (mkL (nxR r q) N []) (fun r' => frcL (mkL (nxP r p q) N []) (fun p' => srch k N f r' p' a)))))) = _
  rw [frc_e, frc_e, frc_e, beq_if, frcL_e, frcL_e]
def zrs : Nat → List Nat
  | 0 => []
  | m + 1 => 0 :: zrs m
theorem zrs_v : ∀ m, (zrs m).length = m ∧ ∀ j, gd (zrs m) j = 0
  | 0 => ⟨rfl, fun _ => rfl⟩
  | m + 1 => ⟨by show (zrs m).length + 1 = m + 1; rw [(zrs_v m).1], fun j => by
    cases j with
    | zero => rfl
    | succ j => show gd (zrs m) j = 0; exact (zrs_v m).2 j⟩
/-- all CODES by N STATES and k NEWS that are LASTING 0, 1, 2, 3, as the class finds them -/
noncomputable def TOTc (k N : Nat) : Nat := srch k N 65536 (zrs N) (zrs N) 0
