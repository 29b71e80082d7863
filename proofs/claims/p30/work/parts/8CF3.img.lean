theorem imgR_at {I : aI1} {a : Int} (h0 : 0 ≤ a) {j : Nat} (hj : j < 5117) : imgR I a 5117 52 (5117 * a.toNat + j) = I 51 j := by
  unfold imgR
  rw [upR_s]
  show (if 5117 * a ≤ ((5117 * a.toNat + j : Nat) : Int) ∧ ((5117 * a.toNat + j : Nat) : Int) < 5117 * a + 5117 then I 51 (((5117 * a.toNat + j : Nat) : Int) - 5117 * a).toNat else I 52 (5117 * a.toNat + j)) = I 51 j
  rw [if_pos (by omega)]
  exact congrArg _ (by omega)
theorem imgR_of {I : aI1} {a : Int} (h0 : 0 ≤ a) {b : Nat} (hb : b < 5117 * a.toNat ∨ 5117 * a.toNat + 5117 ≤ b) : imgR I a 5117 52 b = I 52 b := by
  unfold imgR
  rw [upR_s]
  show (if 5117 * a ≤ (b : Int) ∧ (b : Int) < 5117 * a + 5117 then I 51 ((b : Int) - 5117 * a).toNat else I 52 b) = I 52 b
  rw [if_neg (by omega)]
theorem backR_at {I : aI1} {a : Int} (h0 : 0 ≤ a) {j : Nat} (hj : j < 5117) : backR I a 5117 51 j = I 52 (5117 * a.toNat + j) := by
  unfold backR
  rw [upR_s]
  show (if (j : Int) < 5117 then I 52 (5117 * a + j).toNat else I 51 j) = I 52 (5117 * a.toNat + j)
  rw [if_pos (by omega)]
  exact congrArg _ (by omega)
set_option maxHeartbeats 4000000 in
set_option maxRecDepth 20000 in
theorem c2_X11_torn (l0 : Launch) {Ia Ja : aI1} {Ra : aR1} {Sa : aS1} (hL : LY Ra Sa) (hQ : RX Ia)  : CT l0 0 0 0 mX11_torn [kR (some 49)] Ia Ja Ra Sa (cI (fun x I' J' => Ia = I' ∧ Ja = J' ∧ x = Ia 49 6) Ra Sa) := by
  refine ct_in pn_X11 (Nat.le_of_ble_eq_true rfl) (fun X hX hT hIn => ?_)
  have hX : aK l0 X cX11_torn 1 RX11 (some .int) 0 0 0 := hX
  change WW X 0 [some (kR (some 49))] [] Ia Ja Ra Sa 0 0
  have qIa := RX_o hQ
  refine ww_aload_n hX (pc := 0) dX11_torn_0 rfl ?_
  refine ww_getI hX (pc := 1) fX11_136 (by decide) (xs_49 hL) dX11_torn_1 ?_
  refine rI hX (pc := 4) hT (Nat.le_refl 0) (Nat.le_refl 0) dX11_torn_4 ?_
  exact ⟨rfl, rfl, rfl⟩
