/-- CPI, and the class's Errand is right where it is fresh -/
def CPJ (I J : aI1) (R : aR1) (S : aS1) (v : Int) : Prop := CPH I R S ∧ (FRk I J ∧ QF I J v) ∧ OK8 I ∧ (SA8 I ∧ TL8 I) ∧ IM8 I R ∧ DR8 I ∧ EK I
theorem CPJ.i {I J : aI1} {R : aR1} {S : aS1} {v : Int} (h : CPJ I J R S v) : CPI I J R S v := ⟨h.1, h.2.1, h.2.2.1, h.2.2.2.1, h.2.2.2.2.1, h.2.2.2.2.2.1⟩
theorem CPJ.e {I J : aI1} {R : aR1} {S : aS1} {v : Int} (h : CPJ I J R S v) : EK I := h.2.2.2.2.2.2
