/-! class and reference find the same first CODE -/
theorem cN_mn {k N t : Nat} : ∀ (c d : Nat), c ≤ d → cN k N t c ≤ cN k N t d
  | c, 0, h => by
    have e : c = 0 := by omega
    rw [e]
    exact Nat.le_refl _
  | c, d + 1, h => by
    by_cases e : c = d + 1
    · rw [e]
      exact Nat.le_refl _
    · have h1 := cN_mn (k := k) (N := N) (t := t) c d (by omega)
      show _ ≤ cN k N t d + (if t ≤ DL k (dgs k N d) then 1 else 0)
      omega
theorem cN_un {k N t c d : Nat} (h1 : cN k N t c = 0) (h2 : t ≤ DL k (dgs k N d)) : c ≤ d := by
  by_cases h : c ≤ d
  · exact h
  · exfalso
    have h3 := cN_mn (k := k) (N := N) (t := t) (d + 1) c (by omega)
    have h4 : cN k N t (d + 1) = cN k N t d + (if t ≤ DL k (dgs k N d) then 1 else 0) := rfl
    rw [if_pos h2] at h4
    omega
theorem fsx_2_2 {t : Nat} (h3 : t ≤ 3) (ht : ¬ TOTc 2 2 / 16777216 ^ t % 16777216 = 0) : ∃ c0, FSc 2 2 t c0 := by
  rcases (show t = 0 ∨ t = 1 ∨ t = 2 ∨ t = 3 by omega) with rfl | rfl | rfl | rfl
  · exact ⟨_, fs_2_2_0⟩
  · exact ⟨_, fs_2_2_1⟩
  · exact absurd ((congrArg (fun z => z / 16777216 ^ 2 % 16777216) tot_2_2).trans (by decide)) ht
  · exact absurd ((congrArg (fun z => z / 16777216 ^ 3 % 16777216) tot_2_2).trans (by decide)) ht
theorem fsx_2_4 {t : Nat} (h3 : t ≤ 3) (ht : ¬ TOTc 2 4 / 16777216 ^ t % 16777216 = 0) : ∃ c0, FSc 2 4 t c0 := by
  rcases (show t = 0 ∨ t = 1 ∨ t = 2 ∨ t = 3 by omega) with rfl | rfl | rfl | rfl
  · exact ⟨_, fs_2_4_0⟩
  · exact ⟨_, fs_2_4_1⟩
  · exact ⟨_, fs_2_4_2⟩
  · exact absurd ((congrArg (fun z => z / 16777216 ^ 3 % 16777216) tot_2_4).trans (by decide)) ht
theorem fsx_2_8 {t : Nat} (h3 : t ≤ 3) (ht : ¬ TOTc 2 8 / 16777216 ^ t % 16777216 = 0) : ∃ c0, FSc 2 8 t c0 := by
  rcases (show t = 0 ∨ t = 1 ∨ t = 2 ∨ t = 3 by omega) with rfl | rfl | rfl | rfl
  · exact ⟨_, fs_2_8_0⟩
  · exact ⟨_, fs_2_8_1⟩
  · exact ⟨_, fs_2_8_2⟩
  · exact ⟨_, fs_2_8_3⟩
theorem fsx_3_2 {t : Nat} (h3 : t ≤ 3) (ht : ¬ TOTc 3 2 / 16777216 ^ t % 16777216 = 0) : ∃ c0, FSc 3 2 t c0 := by
  rcases (show t = 0 ∨ t = 1 ∨ t = 2 ∨ t = 3 by omega) with rfl | rfl | rfl | rfl
  · exact ⟨_, fs_3_2_0⟩
  · exact absurd ((congrArg (fun z => z / 16777216 ^ 1 % 16777216) tot_3_2).trans (by decide)) ht
  · exact absurd ((congrArg (fun z => z / 16777216 ^ 2 % 16777216) tot_3_2).trans (by decide)) ht
  · exact absurd ((congrArg (fun z => z / 16777216 ^ 3 % 16777216) tot_3_2).trans (by decide)) ht
theorem fsx_3_4 {t : Nat} (h3 : t ≤ 3) (ht : ¬ TOTc 3 4 / 16777216 ^ t % 16777216 = 0) : ∃ c0, FSc 3 4 t c0 := by
  rcases (show t = 0 ∨ t = 1 ∨ t = 2 ∨ t = 3 by omega) with rfl | rfl | rfl | rfl
  · exact ⟨_, fs_3_4_0⟩
  · exact ⟨_, fs_3_4_1⟩
  · exact absurd ((congrArg (fun z => z / 16777216 ^ 2 % 16777216) tot_3_4).trans (by decide)) ht
  · exact absurd ((congrArg (fun z => z / 16777216 ^ 3 % 16777216) tot_3_4).trans (by decide)) ht
theorem fsx_3_8 {t : Nat} (h3 : t ≤ 3) (ht : ¬ TOTc 3 8 / 16777216 ^ t % 16777216 = 0) : ∃ c0, FSc 3 8 t c0 := by
  rcases (show t = 0 ∨ t = 1 ∨ t = 2 ∨ t = 3 by omega) with rfl | rfl | rfl | rfl
  · exact ⟨_, fs_3_8_0⟩
  · exact ⟨_, fs_3_8_1⟩
  · exact ⟨_, fs_3_8_2⟩
  · exact absurd ((congrArg (fun z => z / 16777216 ^ 3 % 16777216) tot_3_8).trans (by decide)) ht
theorem fsx_4_2 {t : Nat} (h3 : t ≤ 3) (ht : ¬ TOTc 4 2 / 16777216 ^ t % 16777216 = 0) : ∃ c0, FSc 4 2 t c0 := by
  rcases (show t = 0 ∨ t = 1 ∨ t = 2 ∨ t = 3 by omega) with rfl | rfl | rfl | rfl
  · exact ⟨_, fs_4_2_0⟩
  · exact absurd ((congrArg (fun z => z / 16777216 ^ 1 % 16777216) tot_4_2).trans (by decide)) ht
  · exact absurd ((congrArg (fun z => z / 16777216 ^ 2 % 16777216) tot_4_2).trans (by decide)) ht
  · exact absurd ((congrArg (fun z => z / 16777216 ^ 3 % 16777216) tot_4_2).trans (by decide)) ht
theorem fsx_4_4 {t : Nat} (h3 : t ≤ 3) (ht : ¬ TOTc 4 4 / 16777216 ^ t % 16777216 = 0) : ∃ c0, FSc 4 4 t c0 := by
  rcases (show t = 0 ∨ t = 1 ∨ t = 2 ∨ t = 3 by omega) with rfl | rfl | rfl | rfl
  · exact ⟨_, fs_4_4_0⟩
  · exact ⟨_, fs_4_4_1⟩
  · exact absurd ((congrArg (fun z => z / 16777216 ^ 2 % 16777216) tot_4_4).trans (by decide)) ht
  · exact absurd ((congrArg (fun z => z / 16777216 ^ 3 % 16777216) tot_4_4).trans (by decide)) ht
theorem fsx_4_8 {t : Nat} (h3 : t ≤ 3) (ht : ¬ TOTc 4 8 / 16777216 ^ t % 16777216 = 0) : ∃ c0, FSc 4 8 t c0 := by
  rcases (show t = 0 ∨ t = 1 ∨ t = 2 ∨ t = 3 by omega) with rfl | rfl | rfl | rfl
  · exact ⟨_, fs_4_8_0⟩
  · exact ⟨_, fs_4_8_1⟩
  · exact ⟨_, fs_4_8_2⟩
  · exact absurd ((congrArg (fun z => z / 16777216 ^ 3 % 16777216) tot_4_8).trans (by decide)) ht
theorem first_eq {n k t : Int} (n0 : 1 ≤ n) (n1 : n ≤ 3) (k0 : 2 ≤ k) (k1 : k ≤ 4) (t0 : 0 ≤ t) (hT : ¬ TBX n k t = 0) {c : Nat} (h1 : cN k.toNat (2 ^ n.toNat) t.toNat c = 0) (h2 : t.toNat ≤ DL k.toNat (dgs k.toNat (2 ^ n.toNat) c)) : S0 k.toNat (2 ^ n.toNat) t.toNat = dgs k.toNat (2 ^ n.toNat) c := by
  have key : ∀ (kk N : Nat), (∃ c0, FSc kk N t.toNat c0) → cN kk N t.toNat c = 0 → t.toNat ≤ DL kk (dgs kk N c) → S0 kk N t.toNat = dgs kk N c := fun kk N hf g1 g2 => by
    obtain ⟨c0, f1, f2, f3⟩ := hf
    have e1 := cN_un (lwF_0 _ _ _ _ f2) g2
    have e2 := cN_un g1 f3
    obtain rfl : c = c0 := by omega
    exact f1
  have h3 : t ≤ 3 := by
    by_cases g : t ≤ 3
    · exact g
    · exact absurd (if_neg g) hT
  have hT2 : ¬ TBt k.toNat (2 ^ n.toNat) t.toNat = 0 := by
    unfold TBX at hT
    rw [if_pos h3] at hT
    exact hT
  have hT3 : ¬ TOTc k.toNat (2 ^ n.toNat) / 16777216 ^ t.toNat % 16777216 = 0 := fun g => hT2 (by
    unfold TBt
    rw [g]
    rfl)
  rcases (show n = 1 ∨ n = 2 ∨ n = 3 by omega) with rfl | rfl | rfl
  · rcases (show k = 2 ∨ k = 3 ∨ k = 4 by omega) with rfl | rfl | rfl
    · exact key 2 2 (fsx_2_2 (by omega) hT3) h1 h2
    · exact key 3 2 (fsx_3_2 (by omega) hT3) h1 h2
    · exact key 4 2 (fsx_4_2 (by omega) hT3) h1 h2
  · rcases (show k = 2 ∨ k = 3 ∨ k = 4 by omega) with rfl | rfl | rfl
    · exact key 2 4 (fsx_2_4 (by omega) hT3) h1 h2
    · exact key 3 4 (fsx_3_4 (by omega) hT3) h1 h2
    · exact key 4 4 (fsx_4_4 (by omega) hT3) h1 h2
  · rcases (show k = 2 ∨ k = 3 ∨ k = 4 by omega) with rfl | rfl | rfl
    · exact key 2 8 (fsx_2_8 (by omega) hT3) h1 h2
    · exact key 3 8 (fsx_3_8 (by omega) hT3) h1 h2
    · exact key 4 8 (fsx_4_8 (by omega) hT3) h1 h2
