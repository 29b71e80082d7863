/-- what was found among the first cc CODES -/
def zFd (k N t cc : Nat) (F : Nat → Int) : Prop := cN k N t cc ≠ 0 → ∃ c0, cN k N t c0 = 0 ∧ t ≤ DL k (dgs k N c0) ∧ ∀ s : Nat, s < N → F s = ((gd (dgs k N c0) s : Nat) : Int)
theorem zFd_0 {k N t : Nat} {F : Nat → Int} : zFd k N t 0 F := fun h => absurd rfl h
theorem zFd_sk {k N t cc : Nat} {F G : Nat → Int} (h : zFd k N t cc F) (e : cN k N t (cc + 1) = cN k N t cc) (hG : G = F) : zFd k N t (cc + 1) G := by
  intro h1
  rw [hG]
  exact h (by rw [← e]; exact h1)
theorem zFd_old {k N t cc : Nat} {F G : Nat → Int} (h : zFd k N t cc F) (h0 : cN k N t cc ≠ 0) (hG : G = F) : zFd k N t (cc + 1) G := by
  intro _
  rw [hG]
  exact h h0
theorem zFd_new {k N t cc : Nat} {G : Nat → Int} (h0 : cN k N t cc = 0) (hd : t ≤ DL k (dgs k N cc)) (hG : ∀ s : Nat, s < N → G s = ((gd (dgs k N cc) s : Nat) : Int)) : zFd k N t (cc + 1) G := fun _ => ⟨cc, h0, hd, hG⟩
theorem zFd_at {k N t c c' : Nat} {F G : Nat → Int} (h : zFd k N t c F) (e : c = c') (hG : G = F) : zFd k N t c' G := by rw [← e, hG]; exact h
