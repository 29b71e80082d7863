theorem NO5 {c : Nat → Int} {I5 I6 : aI1} {x : Int} (ht : TK x c 5 I5 I6) (h8 : I6 49 18 = I5 49 18) : x = 0 → NOP c 5 I6 := fun hx g => by
  obtain ⟨e1, e2⟩ := TK_0 ht hx
  rw [e1]
  exact e2 (by omega)
def F5 (x : Int) (c : Nat → Int) (I : aI1) : Prop := x = 0 → NOP c 5 I
theorem PI_mk {I5 I : aI1} (h : (0 ≤ I5 49 15 ∧ I5 49 15 ≤ 400) ∧ RG (I5 57) (I5 49 15 + 1) ∧ RG (I5 59) (I5 49 15 + 1) ∧ I5 57 (I5 49 15).toNat = 0) (e57 : I 57 = I5 57) (e59 : I 59 = I5 59) (e15 : I 49 15 = I5 49 15) (e16 : I 49 16 = 0) (e18 : I 49 18 = -1) : PI I := by
  unfold PI
  rw [e57, e59, e15, e16, e18]
  exact ⟨h.1, ⟨by omega, by omega⟩, ⟨by omega, by omega⟩, h.2⟩
