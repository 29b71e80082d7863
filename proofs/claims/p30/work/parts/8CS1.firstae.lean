theorem lwF_B {k N t : Nat} : ∀ c, (∀ i, i < c → DL k (dgs k N i) < t) → lwF k N t c = true
  | 0, _ => rfl
  | c + 1, h => by
    rw [lwF_s, if_neg (by have := h c (by omega); omega)]
    exact lwF_B c (fun i hi => h i (by omega))
theorem lwF_A {k N t c : Nat} (hk : 0 < k) (hc : c ≤ k ^ N) (h : allB k t N c [] [] = true) : lwF k N t c = true :=
  lwF_B c (fun i hi => by rw [DL_dr]; exact allB_e hk N c [] [] hc h i hi)
/-- c is the number of the first CODE that is LASTING t, and it is the class's first -/
def FSc (k N t c : Nat) : Prop := srF k N t 65536 (zrs N) (zrs N) = dgs k N c ∧ lwF k N t c = true ∧ t ≤ DL k (dgs k N c)
theorem fs_2_2_0 : FSc 2 2 0 0 := ⟨by decide +kernel, by decide +kernel, by decide +kernel⟩
theorem fs_2_2_1 : FSc 2 2 1 1 := ⟨by decide +kernel, by decide +kernel, by decide +kernel⟩
