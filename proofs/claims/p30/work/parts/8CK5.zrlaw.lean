/-- a told law as the reference keeps it -/
def zKe (f : Nat → Int) (N : Nat) (k : Nat → Int) (t : Nat) : Prop := k (311 + t) = (zTk f N 0).length ∧ ∀ j, j < (zTk f N 0).length → k (317 + 400 * t + j) = zCd f (zTk f N 0) j ∧ k (2717 + 400 * t + j) = zVl f (zTk f N 0) j
def zRW (f : Nat → Int) (N : Nat) (x : Int) (I I' : aI1) : Prop := (∀ fp, zTx f N = .inl fp → x = -6 ∧ I' 51 = I 51 ∧ I' 49 11 = zPc N (zTk f N 0) fp) ∧ (∀ qs, zTx f N = .inr qs → x = I 51 310 ∧ I' 49 11 = -1 ∧ I' 51 310 = I 51 310 + 1 ∧ zKe f N (I' 51) (I 51 310).toNat ∧ (∀ j : Nat, ((j : Int) ≠ 310 ∧ (j : Int) ≠ 311 + I 51 310 ∧ ¬ (317 + 400 * I 51 310 ≤ j ∧ (j : Int) < 717 + 400 * I 51 310) ∧ ¬ (2717 + 400 * I 51 310 ≤ j ∧ (j : Int) < 3117 + 400 * I 51 310)) → I' 51 j = I 51 j))
set_option maxHeartbeats 4000000 in
set_option maxRecDepth 20000 in
theorem c6_X11_fault (l0 : Launch) {Ia Ja : aI1} {Ra : aR1} {Sa : aS1} (hL : LY Ra Sa) (hQ : RX Ia)  : CT l0 0 0 0 mX11_fault [kR (some 49)] Ia Ja Ra Sa (cI (fun x I' J' => Ia = I' ∧ Ja = J' ∧ x = Ia 49 11) Ra Sa) := by
  refine ct_in pn_X11 (Nat.le_of_ble_eq_true rfl) (fun X hX hT hIn => ?_)
  have hX : aK l0 X cX11_fault 1 RX11 (some .int) 0 0 0 := hX
  change WW X 0 [some (kR (some 49))] [] Ia Ja Ra Sa 0 0
  have qIa := RX_o hQ
  refine ww_aload_n hX (pc := 0) dX11_fault_0 rfl ?_
  refine ww_getI hX (pc := 1) fX11_40 (by decide) (xs_49 hL) dX11_fault_1 ?_
  refine rI hX (pc := 4) hT (Nat.le_refl 0) (Nat.le_refl 0) dX11_fault_4 ?_
  exact ⟨rfl, rfl, rfl⟩
