theorem aLe_0 {b : List (Option aV)} : aLe [] b := trivial
theorem aLe_s {a b : List (Option aV)} {v : aV} (h : aLe a b) : aLe (some v :: a) (some v :: b) := ⟨rfl, h⟩
theorem aLe_n {a b : List (Option aV)} {w : Option aV} (h : aLe a b) : aLe (none :: a) (w :: b) := h
theorem pn_X0 : plainName yX0_ask.cls = true := by decide +kernel
theorem pn_X1 : plainName yX1_full.cls = true := by decide +kernel
theorem pn_X2 : plainName yX2_note.cls = true := by decide +kernel
theorem pn_X3 : plainName yX3_solve.cls = true := by decide +kernel
theorem pn_X4 : plainName yX4_prepare.cls = true := by decide +kernel
theorem pn_X5 : plainName yX5_fill.cls = true := by decide +kernel
theorem pn_X6 : plainName yX6_init.cls = true := by decide +kernel
theorem pn_X7 : plainName yX7_fail.cls = true := by decide +kernel
theorem pn_X8 : plainName yX8_spread.cls = true := by decide +kernel
theorem pn_X9 : plainName yX9_put.cls = true := by decide +kernel
theorem pn_X10 : plainName yX10_lamps.cls = true := by decide +kernel
theorem pn_X11 : plainName yX11_lamps.cls = true := by decide +kernel
theorem pn_J6 : plainName yJ6_bitCount_0f7a4.cls = true := by decide +kernel
theorem pn_J7 : plainName yJ7_fill_53178.cls = true := by decide +kernel
/-- only cells from a on, below b, may differ -/
def Kp (a b : Nat) (I I' : aI1) : Prop := ∀ k, (k < a ∨ b ≤ k) → I' k = I k
theorem Kp_rf {a b : Nat} {I : aI1} : Kp a b I I := fun _ _ => rfl
theorem Kp_tr {a b : Nat} {I I1 I2 : aI1} (h : Kp a b I I1) (h2 : Kp a b I1 I2) : Kp a b I I2 := fun k hk => (h2 k hk).trans (h k hk)
theorem Kp_up {a b : Nat} {I I1 : aI1} (h : Kp a b I I1) {k : Nat} (j : Nat) (v : Int) (hk : a ≤ k ∧ k < b) : Kp a b I (up2 I1 k j v) := fun q hq => by
  rw [up2_off _ _ _ (by omega)]
  exact h q hq
theorem Kp_upR {a b : Nat} {I I1 : aI1} (h : Kp a b I I1) {k : Nat} (f : Nat → Int) (hk : a ≤ k ∧ k < b) : Kp a b I (upR I1 k f) := fun q hq => by
  rw [upR_n _ _ (by omega)]
  exact h q hq
theorem Kp_wd {a b a' b' : Nat} {I I1 : aI1} (h : Kp a b I I1) (h1 : a' ≤ a) (h2 : b ≤ b') : Kp a' b' I I1 := fun q hq => h q (by omega)
theorem Kp_at {a b : Nat} {I I1 : aI1} (h : Kp a b I I1) (k j : Nat) (hk : k < a ∨ b ≤ k) : I1 k j = I k j := by rw [h k hk]
section WLS
variable {l0 : Launch} {X : aX} {cc : ByteArray} {nL : Nat} {rt : Option FieldType} {d mc ms : Nat} {pc : Nat} {lv : List (Option aV)} {st : List aV} {I J : aI1} {R : aR1} {S : aS1} {uc us : Nat}
theorem ww_ldcS (hX : aK l0 X cc nL RX7 rt d mc ms) {n idx : Nat} {tx : String} (hd : decode cc pc = .ok (.ldc idx, 2)) (ht : strTab[n]? = some (n, idx, tx)) (k : WW X (pc + 2) lv (kS n :: st) I J R S uc us) : WW X pc lv st I J R S uc us := by
  obtain ⟨p, l, e, Rm, s, m, args, below, meth, c, Q, E⟩ := X
  obtain ⟨hl0, hx, hb, hr, hml, hown, hts, hlocks, hK, hz0, hR, hStr⟩ := hX
  intro H locs ls hP hS hz hl
  exact va_ldcS hx hb hown (hStr.1 _ (List.mem_of_getElem? ht)) hd (k H locs ls hP hS hz hl)
end WLS
/-- what holds of the class's own state: numbers in their ranges -/
def XI (I : aI1) : Prop := (1 ≤ I 1 5 ∧ I 1 5 ≤ 8) ∧ (2 ≤ I 1 6 ∧ I 1 6 ≤ 8) ∧ (0 ≤ I 1 8 ∧ I 1 8 ≤ FU (I 1 5)) ∧ (0 ≤ I 1 9 ∧ I 1 9 ≤ 6) ∧ (0 ≤ I 1 10 ∧ I 1 10 ≤ 24) ∧ (0 ≤ I 1 11 ∧ I 1 11 ≤ 16) ∧ (0 ≤ I 8 1 ∧ I 8 1 ≤ 400) ∧ (0 ≤ I 0 12 ∧ I 0 12 ≤ 30) ∧ (0 ≤ I 0 13 ∧ I 0 13 ≤ 24) ∧ (∀ s, s < 256 → -1 ≤ I 3 s ∧ I 3 s ≤ 7) ∧ (∀ j, j < 400 → 0 ≤ I 9 j ∧ I 9 j ≤ 255)
theorem XI_kp {I I' : aI1} {a b : Nat} (h : XI I) (hk : Kp a b I I') (ha : 10 ≤ a) : XI I' := by
  unfold XI at h ⊢
  rw [hk 1 (by omega), hk 3 (by omega), hk 8 (by omega), hk 9 (by omega), hk 0 (by omega)]
  exact h
theorem XI.fu {I : aI1} (h : XI I) : 1 ≤ FU (I 1 5) ∧ FU (I 1 5) ≤ 255 := by
  have := FU_r h.1.1 h.1.2
  omega
