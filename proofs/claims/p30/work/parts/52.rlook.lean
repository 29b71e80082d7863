section WR
variable {X : aX} {pc : Nat} {lv : List (Option aV)} {st : List aV} {I J : aI1} {R : aR1} {S : aS1} {uc us : Nat}
theorem ww_wI {a : Int} (k : WW X pc lv (kI (w32 a) :: st) I J R S uc us) : WW X pc lv (kI a :: st) I J R S uc us := by
  obtain ⟨p, l, e, Rm, s, m, args, below, meth, c, Q, E⟩ := X
  intro H locs ls hP hS hz hl
  have k := k H locs ls hP hS hz hl
  simp only [List.map_cons, aC_I, w32, n_of] at k
  exact k
end WR
theorem pow_7 {b : Int} {n : Nat} (h1 : 1 ≤ b) (h2 : b ≤ 7) (hn : n ≤ 8) : 1 ≤ b ^ n ∧ b ^ n ≤ 5764801 := by
  have h : ∀ n : Nat, n < 9 → 1 ≤ b ^ n ∧ b ^ n ≤ 5764801 := by
    rcases (show b = 1 ∨ b = 2 ∨ b = 3 ∨ b = 4 ∨ b = 5 ∨ b = 6 ∨ b = 7 by omega) with rfl | rfl | rfl | rfl | rfl | rfl | rfl <;> decide
  exact h n (by omega)
set_option maxHeartbeats 4000000 in
set_option maxRecDepth 20000 in
theorem c_X11_power (l0 : Launch) {Ia Ja : aI1} {Ra : aR1} {Sa : aS1} (hL : LY Ra Sa) (hQ : RX Ia) {a : Int} (ha0 : -2147483648 ≤ a) (ha1 : a < 2147483648)  : CT l0 0 0 0 mX11_power [kR (some 49), kI a] Ia Ja Ra Sa (cJ (fun x I' J' => Ia = I' ∧ Ja = J' ∧ x = (Ia 51 305 - 1) ^ a.toNat) Ra Sa) := by
  refine ct_in pn_X11 (Nat.le_of_ble_eq_true rfl) (fun X hX hT hIn => ?_)
  have hX : aK l0 X cX11_power 5 RX11 (some .long) 0 0 0 := hX
  change WW X 0 [some (kR (some 49)), some (kI a), none, none, none] [] Ia Ja Ra Sa 0 0
  have qIa := RX_o hQ
  refine ww_lconst hX (pc := 0) (x := 1) dX11_power_0 (by decide) ?_
  refine ww_lstore_n hX (pc := 1) (lv' := [some (kR (some 49)), some (kI a), some (kL 1), none, none]) dX11_power_1 (by decide) rfl rfl ?_
  refine ww_iconst hX (pc := 2) (x := 0) dX11_power_2 rfl ?_
  refine ww_istore hX (pc := 3) (lv' := [some (kR (some 49)), some (kI a), some (kL 1), none, some (kI 0)]) dX11_power_3 (by decide) rfl rfl ?_
  have hl_5 : ∀ (n_5 : Nat) (w : Int) (i : Int), (a - i).toNat = n_5 → ((0 ≤ i ∧ (i ≤ a ∨ i = 0) ∧ w = (Ia 51 305 - 1) ^ i.toNat)) → WW X 5 [some (kR (some 49)), some (kI a), some (kL w), none, some (kI i)] [] Ia Ja Ra Sa 0 0 := by
    intro n_5
    induction n_5 using Nat.strongRecOn with
    | ind n_5 ih_5 =>
      intro w i hm_5 hv_5
      have hq_5 := Sh0_i hm_5
      clear hm_5
      have hv := hv_5
      refine ww_iload hX (pc := 5) dX11_power_5 rfl ?_
      refine ww_iload_n hX (pc := 7) dX11_power_7 rfl ?_
      refine ww_icmp_ge hX (pc := 8) (tgt := 31) dX11_power_8 (by decide) (fun h_8 => ?_) (fun h_8 => ?_)
      · simp only [w32_mod] at h_8
        refine ww_lload_n hX (pc := 31) dX11_power_31 rfl ?_
        refine rJ hX (pc := 32) hT (Nat.le_refl 0) (Nat.le_refl 0) dX11_power_32 ?_
        exact ⟨rfl, rfl, by rw [hv.2.2]; exact congrArg _ (show i.toNat = a.toNat by omega)⟩
      · simp only [w32_mod] at h_8
        refine ww_lload_n hX (pc := 11) dX11_power_11 rfl ?_
        refine ww_aload_n hX (pc := 12) dX11_power_12 rfl ?_
        refine ww_getR hX (pc := 13) fX11_20 (by decide) (xs_49 hL) (xr_49_3 hL) dX11_power_13 ?_
        refine ww_sipush hX (pc := 16) (x := 305) dX11_power_16 (by decide) ?_
        refine ww_iald hX (pc := 19) (xs_51 hL) (by decide) (by omega) (by omega) dX11_power_19 ?_
        refine ww_toI (b := Ia 51 305) rfl ?_
        refine ww_iconst hX (pc := 20) (x := 1) dX11_power_20 rfl ?_
        refine ww_isub hX (pc := 21) dX11_power_21 ?_
        refine ww_i2l hX (pc := 22) dX11_power_22 ?_
        refine ww_lmul hX (pc := 23) dX11_power_23 ?_
        refine ww_nmL (fun v_24 hv_24 => ?_)
        refine ww_lstore_n hX (pc := 24) (lv' := [some (kR (some 49)), some (kI a), some (kL v_24), none, some (kI i)]) dX11_power_24 (by decide) rfl rfl ?_
        have hpw : v_24 = (Ia 51 305 - 1) ^ (i + 1).toNat := by
          rw [hv_24, w32_id (by omega) (by omega), hv.2.2, show (i + 1).toNat = i.toNat + 1 by omega, Int.pow_succ]
        refine ww_iinc hX (pc := 25) (lv' := [some (kR (some 49)), some (kI a), some (kL v_24), none, some (kI (i + 1))]) dX11_power_25 rfl (by decide) rfl rfl ?_
        refine ww_goto hX (pc := 28) (tgt := 5) dX11_power_28 (by decide) ?_
        exact ih_5 _ (by have hm9 := Sh0_e hq_5; omega) v_24 (i + 1) rfl (by omega)
  exact hl_5 _ 1 0 rfl (⟨by omega, by omega, (Int.pow_zero _).symm⟩)
