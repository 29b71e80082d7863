section
section WR
variable {X : aX} {pc : Nat} {lv : List (Option aV)} {st : List aV} {I J : aI1} {R : aR1} {S : aS1} {uc us : Nat}
theorem ww_wI {a : Int} (k : WW X pc lv (kI (w32 a) :: st) I J R S uc us) : WW X pc lv (kI a :: st) I J R S uc us := by
  obtain ⟨p, l, e, Rm, s, m, args, below, meth, c, Q, E⟩ := X
  intro H locs ls hP hS hz hl
  have k := k H locs ls hP hS hz hl
  simp only [List.map_cons, aC_I, w32, n_of] at k
  exact k
end WR
theorem l_rem_b (a : Int) {b : Int} (hb : 0 < w64 b) : -(w64 b) < l_rem a b ∧ l_rem a b < w64 b := by
  have ha := w64_r a
  have hbr := w64_r b
  have e1 : (Int64.ofInt a).toInt = w64 a := rfl
  have e2 : (Int64.ofInt b).toInt = w64 b := rfl
  generalize w64 a = x at ha e1
  generalize w64 b = y at hb hbr e2 ⊢
  have hq : x = y * x.tdiv y + x.tmod y := (Int.mul_tdiv_add_tmod x y).symm
  have hm : -y < x.tmod y ∧ x.tmod y < y ∧ (0 ≤ x → 0 ≤ x.tmod y) ∧ (x ≤ 0 → x.tmod y ≤ 0) := by
    by_cases h : 0 ≤ x
    · rw [Int.tmod_eq_emod_of_nonneg h]
      have h1 := Int.emod_nonneg x (show y ≠ 0 by omega)
      have h2 := Int.emod_lt_of_pos x hb
      refine ⟨by omega, h2, fun _ => h1, fun h3 => ?_⟩
      have : x = 0 := by omega
      subst this
      simp
    · obtain ⟨m, rfl⟩ : ∃ m, x = -m := ⟨-x, by omega⟩
      rw [Int.neg_tmod, Int.tmod_eq_emod_of_nonneg (show 0 ≤ m by omega)]
      have h1 := Int.emod_nonneg m (show y ≠ 0 by omega)
      have h2 := Int.emod_lt_of_pos m hb
      exact ⟨by omega, by omega, fun h3 => by omega, fun _ => by omega⟩
  have hd : -9223372036854775808 ≤ x.tdiv y ∧ x.tdiv y ≤ 9223372036854775807 := by
    by_cases h : 0 ≤ x
    · rw [Int.tdiv_eq_ediv_of_nonneg h]
      have h1 := Int.ediv_nonneg h (show 0 ≤ y by omega)
      have h2 := Int.ediv_le_self y h
      omega
    · obtain ⟨m, rfl⟩ : ∃ m, x = -m := ⟨-x, by omega⟩
      rw [Int.neg_tdiv, Int.tdiv_eq_ediv_of_nonneg (show 0 ≤ m by omega)]
      have h1 := Int.ediv_nonneg (show 0 ≤ m by omega) (show 0 ≤ y by omega)
      have h2 := Int.ediv_le_self y (show 0 ≤ m by omega)
      omega
  unfold l_rem
  rw [Int64.toInt_sub, Int64.toInt_mul, Int64.toInt_div, e1, e2]
  rw [show (x.tdiv y).bmod (2 ^ 64) = x.tdiv y from Int.bmod_eq_of_le (by omega) (by omega), Int.mul_comm]
  generalize x.tmod y = r at hq hm
  generalize y * x.tdiv y = q at hq ⊢
  rw [show q.bmod (2 ^ 64) = q from Int.bmod_eq_of_le (by omega) (by omega)]
  rw [show x - q = r by omega, show r.bmod (2 ^ 64) = r from Int.bmod_eq_of_le (by omega) (by omega)]
  omega
theorem pow_7 {b : Int} {n : Nat} (h1 : 1 ≤ b) (h2 : b ≤ 7) (hn : n ≤ 8) : 1 ≤ b ^ n ∧ b ^ n ≤ 5764801 := by
  have h : ∀ n : Nat, n < 9 → 1 ≤ b ^ n ∧ b ^ n ≤ 5764801 := by
    rcases (show b = 1 ∨ b = 2 ∨ b = 3 ∨ b = 4 ∨ b = 5 ∨ b = 6 ∨ b = 7 by omega) with rfl | rfl | rfl | rfl | rfl | rfl | rfl <;> decide
  exact h n (by omega)
set_option maxHeartbeats 4000000 in
set_option maxRecDepth 20000 in
theorem c_X11_power (l0 : Launch) {Ia Ja : aI1} {Ra : aR1} {Sa : aS1} (hL : LY Ra Sa) (hQ : RX Ia) {a : Int} (ha0 : -2147483648 ≤ a) (ha1 : a < 2147483648)  : CT l0 0 0 0 mX11_power [kR (some 49), kI a] Ia Ja Ra Sa (cJ (fun x I' J' => Ia = I' ∧ Ja = J' ∧ x = (Ia 51 305 - 1) ^ a.toNat) Ra Sa) := by
  refine ct_in pn_X11 (Nat.le_of_ble_eq_true rfl) (fun X hX hT hIn => ?_)
  have hX : aK l0 X cX11_power 5 RX11 (some .long) 0 0 0 := hX
  change WW X 0 [some (kR (some 49)), some (kI a), none, none, none] [] Ia Ja Ra Sa 0 0
  have qIa := RX_o hQ
  refine ww_lconst hX (pc := 0) (x := 1) dX11_power_0 (by decide) ?_
  refine ww_lstore_n hX (pc := 1) (lv' := [some (kR (some 49)), some (kI a), some (kL 1), none, none]) dX11_power_1 (by decide) rfl rfl ?_
  refine ww_iconst hX (pc := 2) (x := 0) dX11_power_2 rfl ?_
  refine ww_istore hX (pc := 3) (lv' := [some (kR (some 49)), some (kI a), some (kL 1), none, some (kI 0)]) dX11_power_3 (by decide) rfl rfl ?_
  have hl_5 : ∀ (n_5 : Nat) (w : Int) (i : Int), (a - i).toNat = n_5 → ((0 ≤ i ∧ (i ≤ a ∨ i = 0) ∧ w = (Ia 51 305 - 1) ^ i.toNat)) → WW X 5 [some (kR (some 49)), some (kI a), some (kL w), none, some (kI i)] [] Ia Ja Ra Sa 0 0 := by
    intro n_5
    induction n_5 using Nat.strongRecOn with
    | ind n_5 ih_5 =>
      intro w i hm_5 hv_5
      have hq_5 := Sh0_i hm_5
      clear hm_5
      have hv := hv_5
      refine ww_iload hX (pc := 5) dX11_power_5 rfl ?_
      refine ww_iload_n hX (pc := 7) dX11_power_7 rfl ?_
      refine ww_icmp_ge hX (pc := 8) (tgt := 31) dX11_power_8 (by decide) (fun h_8 => ?_) (fun h_8 => ?_)
      · simp only [w32_mod] at h_8
        refine ww_lload_n hX (pc := 31) dX11_power_31 rfl ?_
        refine rJ hX (pc := 32) hT (Nat.le_refl 0) (Nat.le_refl 0) dX11_power_32 ?_
        exact ⟨rfl, rfl, by rw [hv.2.2]; exact congrArg _ (show i.toNat = a.toNat by omega)⟩
      · simp only [w32_mod] at h_8
        refine ww_lload_n hX (pc := 11) dX11_power_11 rfl ?_
        refine ww_aload_n hX (pc := 12) dX11_power_12 rfl ?_
        refine ww_getR hX (pc := 13) fX11_20 (by decide) (xs_49 hL) (xr_49_3 hL) dX11_power_13 ?_
        refine ww_sipush hX (pc := 16) (x := 305) dX11_power_16 (by decide) ?_
        refine ww_iald hX (pc := 19) (xs_51 hL) (by decide) (by omega) (by omega) dX11_power_19 ?_
        refine ww_toI (b := Ia 51 305) rfl ?_
        refine ww_iconst hX (pc := 20) (x := 1) dX11_power_20 rfl ?_
        refine ww_isub hX (pc := 21) dX11_power_21 ?_
        refine ww_i2l hX (pc := 22) dX11_power_22 ?_
        refine ww_lmul hX (pc := 23) dX11_power_23 ?_
        refine ww_nmL (fun v_24 hv_24 => ?_)
        refine ww_lstore_n hX (pc := 24) (lv' := [some (kR (some 49)), some (kI a), some (kL v_24), none, some (kI i)]) dX11_power_24 (by decide) rfl rfl ?_
        have hpw : v_24 = (Ia 51 305 - 1) ^ (i + 1).toNat := by
          rw [hv_24, w32_id (by omega) (by omega), hv.2.2, show (i + 1).toNat = i.toNat + 1 by omega, Int.pow_succ]
        refine ww_iinc hX (pc := 25) (lv' := [some (kR (some 49)), some (kI a), some (kL v_24), none, some (kI (i + 1))]) dX11_power_25 rfl (by decide) rfl rfl ?_
        refine ww_goto hX (pc := 28) (tgt := 5) dX11_power_28 (by decide) ?_
        exact ih_5 _ (by have hm9 := Sh0_e hq_5; omega) v_24 (i + 1) rfl (by omega)
  exact hl_5 _ 1 0 rfl (⟨by omega, by omega, (Int.pow_zero _).symm⟩)
set_option maxHeartbeats 4000000 in
set_option maxRecDepth 20000 in
theorem c_X11_meanIn (l0 : Launch) {Ia Ja : aI1} {Ra : aR1} {Sa : aS1} (hL : LY Ra Sa) (hQ : RX Ia) {a b : Int} (ha0 : 0 ≤ a) (ha1 : a ≤ 255) (hb0 : -1000 ≤ b) (hb1 : b ≤ 1000)  : CT l0 2 0 0 mX11_meanIn [kR (some 49), kI a, kI b] Ia Ja Ra Sa (cJ (fun x I' J' => Ia = I' ∧ Ja = J' ∧ True) Ra Sa) := by
  refine ct_in pn_X11 (Nat.le_of_ble_eq_true rfl) (fun X hX hT hIn => ?_)
  have hX : aK l0 X cX11_meanIn 3 RX11 (some .long) 2 0 0 := hX
  change WW X 0 [some (kR (some 49)), some (kI a), some (kI b)] [] Ia Ja Ra Sa 0 0
  have qIa := RX_o hQ
  refine ww_aload_n hX (pc := 0) dX11_meanIn_0 rfl ?_
  refine ww_getR hX (pc := 1) fX11_58 (by decide) (xs_49 hL) (xr_49_24 hL) dX11_meanIn_1 ?_
  refine ww_iload_n hX (pc := 4) dX11_meanIn_4 rfl ?_
  refine ww_lald hX (pc := 5) (xs_62 hL) (by decide) (by omega) (by omega) dX11_meanIn_5 ?_
  refine ww_aload_n hX (pc := 6) dX11_meanIn_6 rfl ?_
  refine ww_iload_n hX (pc := 7) dX11_meanIn_7 rfl ?_
  refine ww_aload_n hX (pc := 8) dX11_meanIn_8 rfl ?_
  refine ww_iload_n hX (pc := 9) dX11_meanIn_9 rfl ?_
  refine vI1 hX (pc := 10) sX11_274 (xs_49 hL) (c_X11_dark l0 hL hQ ) (by decide) (Nat.le_refl 0) (Nat.le_refl 0) (Nat.le_of_ble_eq_true rfl) dX11_meanIn_10 (fun x_10 I_10 J_10 h_10 => ?_)
  obtain ⟨rfl, rfl, h_10⟩ := h_10
  refine ww_isub hX (pc := 13) dX11_meanIn_13 ?_
  refine ww_iconst hX (pc := 14) (x := 1) dX11_meanIn_14 rfl ?_
  refine ww_isub hX (pc := 15) dX11_meanIn_15 ?_
  refine vJ1 hX (pc := 16) sX11_277 (xs_49 hL) (c_X11_power l0 hL hQ (by omega) (by omega)) (by decide) (Nat.le_refl 0) (Nat.le_refl 0) (Nat.le_of_ble_eq_true rfl) dX11_meanIn_16 (fun x_16 I_16 J_16 h_16 => ?_)
  obtain ⟨rfl, rfl, h_16⟩ := h_16
  refine ww_lmul hX (pc := 19) dX11_meanIn_19 ?_
  refine rJ hX (pc := 20) hT (Nat.le_refl 0) (Nat.le_refl 0) dX11_meanIn_20 ?_
  exact ⟨rfl, rfl, trivial⟩
set_option maxHeartbeats 4000000 in
set_option maxRecDepth 20000 in
theorem c_X11_lastingOf (l0 : Launch) {Ia Ja : aI1} {Ra : aR1} {Sa : aS1} (hL : LY Ra Sa) (hQ : RX Ia) {a b : Int} (ha0 : 0 ≤ a) (ha1 : a ≤ 255)  : CT l0 1 0 0 mX11_lastingOf [kR (some 49), kI a, kI b] Ia Ja Ra Sa (cI (fun x I' J' => Ia = I' ∧ Ja = J' ∧ 0 ≤ x ∧ x ≤ 256 - a) Ra Sa) := by
  refine ct_in pn_X11 (Nat.le_of_ble_eq_true rfl) (fun X hX hT hIn => ?_)
  have hX : aK l0 X cX11_lastingOf 7 RX11 (some .int) 1 0 0 := hX
  change WW X 0 [some (kR (some 49)), some (kI a), some (kI b), none, none, none, none] [] Ia Ja Ra Sa 0 0
  have qIa := RX_o hQ
  refine ww_ldcw hX (pc := 0) (x := 1000000000) dX11_lastingOf_0 tb_1457 ?_
  refine ww_istore_n hX (pc := 3) (lv' := [some (kR (some 49)), some (kI a), some (kI b), some (kI 1000000000), none, none, none]) dX11_lastingOf_3 (by decide) rfl rfl ?_
  refine ww_iconst hX (pc := 4) (x := 0) dX11_lastingOf_4 rfl ?_
  refine ww_istore hX (pc := 5) (lv' := [some (kR (some 49)), some (kI a), some (kI b), some (kI 1000000000), some (kI 0), none, none]) dX11_lastingOf_5 (by decide) rfl rfl ?_
  have hl_7 : ∀ (n_7 : Nat) (le : Int) (i : Int), (Ia 51 305 - i).toNat = n_7 → ((0 ≤ i ∧ i ≤ Ia 51 305 ∧ (le = 1000000000 ∨ (0 ≤ le ∧ le ≤ 256 - a)) ∧ (le = 1000000000 → i = 0 ∨ (i = 1 ∧ (Ia 51 a.toNat + 2147483648) % 4294967296 = 2147483648)))) → WW X 7 [some (kR (some 49)), some (kI a), some (kI b), some (kI le), some (kI i), none, none] [] Ia Ja Ra Sa 0 0 := by
    intro n_7
    induction n_7 using Nat.strongRecOn with
    | ind n_7 ih_7 =>
      intro le i hm_7 hv_7
      have hq_7 := Sh0_i hm_7
      clear hm_7
      have hv := hv_7
      refine ww_iload hX (pc := 7) dX11_lastingOf_7 rfl ?_
      refine ww_aload_n hX (pc := 9) dX11_lastingOf_9 rfl ?_
      refine ww_getR hX (pc := 10) fX11_20 (by decide) (xs_49 hL) (xr_49_3 hL) dX11_lastingOf_10 ?_
      refine ww_sipush hX (pc := 13) (x := 305) dX11_lastingOf_13 (by decide) ?_
      refine ww_iald hX (pc := 16) (xs_51 hL) (by decide) (by omega) (by omega) dX11_lastingOf_16 ?_
      refine ww_toI (b := Ia 51 305) rfl ?_
      refine ww_icmp_ge hX (pc := 17) (tgt := 113) dX11_lastingOf_17 (by decide) (fun h_17 => ?_) (fun h_17 => ?_)
      · simp only [w32_mod] at h_17
        refine ww_iload_n hX (pc := 113) dX11_lastingOf_113 rfl ?_
        refine rI hX (pc := 114) hT (Nat.le_refl 0) (Nat.le_refl 0) dX11_lastingOf_114 ?_
        exact ⟨rfl, rfl, by omega⟩
      · simp only [w32_mod] at h_17
        refine ww_iload hX (pc := 20) dX11_lastingOf_20 rfl ?_
        refine ww_aload_n hX (pc := 22) dX11_lastingOf_22 rfl ?_
        refine ww_iload_n hX (pc := 23) dX11_lastingOf_23 rfl ?_
        refine vI1 hX (pc := 24) sX11_126 (xs_49 hL) (c_X11_readOf l0 hL hQ (by omega) (by omega)) (by decide) (Nat.le_refl 0) (Nat.le_refl 0) (Nat.le_of_ble_eq_true rfl) dX11_lastingOf_24 (fun x_24 I_24 J_24 h_24 => ?_)
        obtain ⟨rfl, rfl, h_24⟩ := h_24
        refine ww_icmp_ne hX (pc := 27) (tgt := 33) dX11_lastingOf_27 (by decide) (fun h_27 => ?_) (fun h_27 => ?_)
        · simp only [w32_mod] at h_27
          refine ww_iconst hX (pc := 33) (x := 0) dX11_lastingOf_33 rfl ?_
          refine ww_istore hX (pc := 34) (lv' := [some (kR (some 49)), some (kI a), some (kI b), some (kI le), some (kI i), some (kI 0), none]) dX11_lastingOf_34 (by decide) rfl rfl ?_
          refine ww_iload_n hX (pc := 36) dX11_lastingOf_36 rfl ?_
          refine ww_iconst hX (pc := 37) (x := 1) dX11_lastingOf_37 rfl ?_
          refine ww_iadd hX (pc := 38) dX11_lastingOf_38 ?_
          refine ww_nmI (fun v_39 hv_39 => ?_)
          refine ww_istore hX (pc := 39) (lv' := [some (kR (some 49)), some (kI a), some (kI b), some (kI le), some (kI i), some (kI 0), some (kI v_39)]) dX11_lastingOf_39 (by decide) rfl rfl ?_
          have hl_41 : ∀ (n_41 : Nat) (bs : Int) (t : Int), (256 - t).toNat = n_41 → ((a + 1 ≤ t ∧ t ≤ 256 ∧ 0 ≤ bs ∧ bs ≤ 256 - a)) → WW X 41 [some (kR (some 49)), some (kI a), some (kI b), some (kI le), some (kI i), some (kI bs), some (kI t)] [] Ia Ja Ra Sa 0 0 := by
            intro n_41
            induction n_41 using Nat.strongRecOn with
            | ind n_41 ih_41 =>
              intro bs t hm_41 hv_41
              have hq_41 := Sh0_i hm_41
              clear hm_41
              have hu := hv_41
              refine ww_iload hX (pc := 41) dX11_lastingOf_41 rfl ?_
              refine ww_aload_n hX (pc := 43) dX11_lastingOf_43 rfl ?_
              refine vI0 hX (pc := 44) sX11_112 (xs_49 hL) (c_X11_states l0 hL hQ ) (by decide) (Nat.le_refl 0) (Nat.le_refl 0) (Nat.le_of_ble_eq_true rfl) dX11_lastingOf_44 (fun x_44 I_44 J_44 h_44 => ?_)
              obtain ⟨rfl, rfl, h_44⟩ := h_44
              refine ww_icmp_ge hX (pc := 47) (tgt := 94) dX11_lastingOf_47 (by decide) (fun h_47 => ?_) (fun h_47 => ?_)
              · simp only [w32_mod] at h_47
                refine ww_iload hX (pc := 94) dX11_lastingOf_94 rfl ?_
                refine ww_iload_n hX (pc := 96) dX11_lastingOf_96 rfl ?_
                refine ww_icmp_ge hX (pc := 97) (tgt := 105) dX11_lastingOf_97 (by decide) (fun h_97 => ?_) (fun h_97 => ?_)
                · simp only [w32_mod] at h_97
                  refine ww_iload_n hX (pc := 105) dX11_lastingOf_105 rfl ?_
                  refine ww_istore_n hX (pc := 106) (lv' := [some (kR (some 49)), some (kI a), some (kI b), some (kI le), some (kI i), some (kI bs), some (kI t)]) dX11_lastingOf_106 (by decide) rfl rfl ?_
                  refine ww_iinc hX (pc := 107) (lv' := [some (kR (some 49)), some (kI a), some (kI b), some (kI le), some (kI (i + 1)), some (kI bs), some (kI t)]) dX11_lastingOf_107 rfl (by decide) rfl rfl ?_
                  refine ww_goto hX (pc := 110) (tgt := 7) dX11_lastingOf_110 (by decide) ?_
                  refine ww_sub [some (kR (some 49)), some (kI a), some (kI b), some (kI le), some (kI (i + 1)), none, none] (aLe_s (aLe_s (aLe_s (aLe_s (aLe_s (aLe_n (aLe_n aLe_0))))))) ?_
                  exact ih_7 _ (by have hm9 := Sh0_e hq_7; omega) le (i + 1) rfl (by omega)
                · simp only [w32_mod] at h_97
                  refine ww_iload hX (pc := 100) dX11_lastingOf_100 rfl ?_
                  refine ww_goto hX (pc := 102) (tgt := 106) dX11_lastingOf_102 (by decide) ?_
                  refine ww_istore_n hX (pc := 106) (lv' := [some (kR (some 49)), some (kI a), some (kI b), some (kI bs), some (kI i), some (kI bs), some (kI t)]) dX11_lastingOf_106 (by decide) rfl rfl ?_
                  refine ww_iinc hX (pc := 107) (lv' := [some (kR (some 49)), some (kI a), some (kI b), some (kI bs), some (kI (i + 1)), some (kI bs), some (kI t)]) dX11_lastingOf_107 rfl (by decide) rfl rfl ?_
                  refine ww_goto hX (pc := 110) (tgt := 7) dX11_lastingOf_110 (by decide) ?_
                  refine ww_sub [some (kR (some 49)), some (kI a), some (kI b), some (kI bs), some (kI (i + 1)), none, none] (aLe_s (aLe_s (aLe_s (aLe_s (aLe_s (aLe_n (aLe_n aLe_0))))))) ?_
                  exact ih_7 _ (by have hm9 := Sh0_e hq_7; omega) bs (i + 1) rfl (by omega)
              · simp only [w32_mod] at h_47
                refine ww_aload_n hX (pc := 50) dX11_lastingOf_50 rfl ?_
                refine ww_iload hX (pc := 51) dX11_lastingOf_51 rfl ?_
                refine vI1 hX (pc := 53) sX11_126 (xs_49 hL) (c_X11_readOf l0 hL hQ (by omega) (by omega)) (by decide) (Nat.le_refl 0) (Nat.le_refl 0) (Nat.le_of_ble_eq_true rfl) dX11_lastingOf_53 (fun x_53 I_53 J_53 h_53 => ?_)
                obtain ⟨rfl, rfl, h_53⟩ := h_53
                refine ww_iload hX (pc := 56) dX11_lastingOf_56 rfl ?_
                refine ww_icmp_ne hX (pc := 58) (tgt := 88) dX11_lastingOf_58 (by decide) (fun h_58 => ?_) (fun h_58 => ?_)
                · simp only [w32_mod] at h_58
                  refine ww_iinc hX (pc := 88) (lv' := [some (kR (some 49)), some (kI a), some (kI b), some (kI le), some (kI i), some (kI bs), some (kI (t + 1))]) dX11_lastingOf_88 rfl (by decide) rfl rfl ?_
                  refine ww_goto hX (pc := 91) (tgt := 41) dX11_lastingOf_91 (by decide) ?_
                  exact ih_41 _ (by have hm9 := Sh0_e hq_41; omega) bs (t + 1) rfl (by omega)
                · simp only [w32_mod] at h_58
                  refine ww_aload_n hX (pc := 61) dX11_lastingOf_61 rfl ?_
                  refine ww_iload_n hX (pc := 62) dX11_lastingOf_62 rfl ?_
                  refine ww_iload hX (pc := 63) dX11_lastingOf_63 rfl ?_
                  refine ww_iload_n hX (pc := 65) dX11_lastingOf_65 rfl ?_
                  refine vI3 hX (pc := 66) sX11_271 (xs_49 hL) (c_X11_canCome l0 hL hQ ) (by decide) (Nat.le_refl 0) (Nat.le_refl 0) (Nat.le_of_ble_eq_true rfl) dX11_lastingOf_66 (fun x_66 I_66 J_66 h_66 => ?_)
                  obtain ⟨rfl, rfl, h_66⟩ := h_66
                  refine ww_if_eq hX (pc := 69) (tgt := 88) dX11_lastingOf_69 (by decide) (fun h_69 => ?_) (fun h_69 => ?_)
                  · simp only [w32_mod] at h_69
                    refine ww_iinc hX (pc := 88) (lv' := [some (kR (some 49)), some (kI a), some (kI b), some (kI le), some (kI i), some (kI bs), some (kI (t + 1))]) dX11_lastingOf_88 rfl (by decide) rfl rfl ?_
                    refine ww_goto hX (pc := 91) (tgt := 41) dX11_lastingOf_91 (by decide) ?_
                    exact ih_41 _ (by have hm9 := Sh0_e hq_41; omega) bs (t + 1) rfl (by omega)
                  · simp only [w32_mod] at h_69
                    have k_66 := h_66.2.mp (by omega)
                    clear h_66
                    refine ww_iload hX (pc := 72) dX11_lastingOf_72 rfl ?_
                    refine ww_iconst hX (pc := 74) (x := 1) dX11_lastingOf_74 rfl ?_
                    refine ww_aload_n hX (pc := 75) dX11_lastingOf_75 rfl ?_
                    refine ww_getR hX (pc := 76) fX11_55 (by decide) (xs_49 hL) (xr_49_23 hL) dX11_lastingOf_76 ?_
                    refine ww_iload hX (pc := 79) dX11_lastingOf_79 rfl ?_
                    refine ww_iald hX (pc := 81) (xs_61 hL) (by decide) (by omega) (by omega) dX11_lastingOf_81 ?_
                    have hlb := hQ.2.2.1 t.toNat (by omega)
                    refine ww_iadd hX (pc := 82) dX11_lastingOf_82 ?_
                    refine sI2 hX (pc := 83) sX11_132 (c_X11_greater l0 (by omega) (by omega) (by omega) (by omega)) (by decide) (Nat.le_refl 0) (Nat.le_refl 0) (Nat.le_of_ble_eq_true rfl) dX11_lastingOf_83 (fun x_83 I_83 J_83 h_83 => ?_)
                    obtain ⟨rfl, rfl, h_83⟩ := h_83
                    refine ww_istore hX (pc := 86) (lv' := [some (kR (some 49)), some (kI a), some (kI b), some (kI le), some (kI i), some (kI x_83), some (kI t)]) dX11_lastingOf_86 (by decide) rfl rfl ?_
                    refine ww_iinc hX (pc := 88) (lv' := [some (kR (some 49)), some (kI a), some (kI b), some (kI le), some (kI i), some (kI x_83), some (kI (t + 1))]) dX11_lastingOf_88 rfl (by decide) rfl rfl ?_
                    refine ww_goto hX (pc := 91) (tgt := 41) dX11_lastingOf_91 (by decide) ?_
                    exact ih_41 _ (by have hm9 := Sh0_e hq_41; omega) x_83 (t + 1) rfl (by omega)
          exact hl_41 _ 0 v_39 rfl (by omega)
        · simp only [w32_mod] at h_27
          refine ww_goto hX (pc := 30) (tgt := 107) dX11_lastingOf_30 (by decide) ?_
          refine ww_iinc hX (pc := 107) (lv' := [some (kR (some 49)), some (kI a), some (kI b), some (kI le), some (kI (i + 1)), none, none]) dX11_lastingOf_107 rfl (by decide) rfl rfl ?_
          refine ww_goto hX (pc := 110) (tgt := 7) dX11_lastingOf_110 (by decide) ?_
          exact ih_7 _ (by have hm9 := Sh0_e hq_7; omega) le (i + 1) rfl (by omega)
  exact hl_7 _ 1000000000 0 rfl (by omega)
set_option maxHeartbeats 4000000 in
set_option maxRecDepth 20000 in
theorem c_X11_lasts0 (l0 : Launch) {Ia Ja : aI1} {Ra : aR1} {Sa : aS1} (hL : LY Ra Sa) (hQ : RX Ia) {a : Int}  : CT l0 2 0 0 mX11_lasts0 [kR (some 49), kI a] Ia Ja Ra Sa (cV (fun I' J' => Ch [61] [] Ia I' ∧ Kp 49 73 Ja J' ∧ RX I' ∧ I' 51 = Ia 51) Ra Sa) := by
  refine ct_in pn_X11 (Nat.le_of_ble_eq_true rfl) (fun X hX hT hIn => ?_)
  have hX : aK l0 X cX11_lasts0 3 RX11 none 2 0 0 := hX
  change WW X 0 [some (kR (some 49)), some (kI a), none] [] Ia Ja Ra Sa 0 0
  have qIa := RX_o hQ
  refine ww_aload_n hX (pc := 0) dX11_lasts0_0 rfl ?_
  refine vI0 hX (pc := 1) sX11_112 (xs_49 hL) (c_X11_states l0 hL hQ ) (by decide) (Nat.le_refl 0) (Nat.le_refl 0) (Nat.le_of_ble_eq_true rfl) dX11_lasts0_1 (fun x_1 I_1 J_1 h_1 => ?_)
  obtain ⟨rfl, rfl, h_1⟩ := h_1
  refine ww_iconst hX (pc := 4) (x := 1) dX11_lasts0_4 rfl ?_
  refine ww_isub hX (pc := 5) dX11_lasts0_5 ?_
  refine ww_nmI (fun v_6 hv_6 => ?_)
  refine ww_istore_n hX (pc := 6) (lv' := [some (kR (some 49)), some (kI a), some (kI v_6)]) dX11_lasts0_6 (by decide) rfl rfl ?_
  have hl_7 : ∀ (n_7 : Nat) (i : Int) (I7 : aI1) (J7 : aI1), (i + 1).toNat = n_7 → (Ch [61] [] Ia I7 ∧ RX I7 ∧ Kp 49 73 Ja J7 ∧ I7 51 304 = Ia 51 304 ∧ I7 51 305 = Ia 51 305 ∧ (-1 ≤ i ∧ i ≤ 255)) → WW X 7 [some (kR (some 49)), some (kI a), some (kI i)] [] I7 J7 Ra Sa 0 0 := by
    intro n_7
    induction n_7 using Nat.strongRecOn with
    | ind n_7 ih_7 =>
      intro i I7 J7 hm_7 hv_7
      have hq_7 := Sh0_i hm_7
      clear hm_7
      obtain ⟨kI7, cI7, kJ7, r304_I7, r305_I7, hv⟩ := hv_7
      have qI7 := RX_o cI7
      have rf_I7 : FU (I7 51 304) = FU (Ia 51 304) := by rw [r304_I7]
      refine ww_iload_n hX (pc := 7) dX11_lasts0_7 rfl ?_
      refine ww_if_lt hX (pc := 8) (tgt := 29) dX11_lasts0_8 (by decide) (fun h_8 => ?_) (fun h_8 => ?_)
      · simp only [w32_mod] at h_8
        refine rV hX (pc := 29) hT (Nat.le_refl 0) (Nat.le_refl 0) dX11_lasts0_29 ?_
        exact ⟨kI7, kJ7, cI7, kI7.1 51 (by decide) (by decide)⟩
      · simp only [w32_mod] at h_8
        refine ww_aload_n hX (pc := 11) dX11_lasts0_11 rfl ?_
        refine ww_getR hX (pc := 12) fX11_55 (by decide) (xs_49 hL) (xr_49_23 hL) dX11_lasts0_12 ?_
        refine ww_iload_n hX (pc := 15) dX11_lasts0_15 rfl ?_
        refine ww_aload_n hX (pc := 16) dX11_lasts0_16 rfl ?_
        refine ww_iload_n hX (pc := 17) dX11_lasts0_17 rfl ?_
        refine ww_iload_n hX (pc := 18) dX11_lasts0_18 rfl ?_
        refine vI2 hX (pc := 19) sX11_291 (xs_49 hL) (c_X11_lastingOf l0 hL cI7 (by omega) (by omega)) (by decide) (Nat.le_refl 0) (Nat.le_refl 0) (Nat.le_of_ble_eq_true rfl) dX11_lasts0_19 (fun x_19 I_19 J_19 h_19 => ?_)
        obtain ⟨rfl, rfl, h_19⟩ := h_19
        refine ww_iast hX (pc := 22) (xs_61 hL) (by decide) (by omega) (by omega) dX11_lasts0_22 ?_
        refine ww_nmH (fun I_22 eI_22 => ?_)
        have kI_22 : Ch [61] [] Ia I_22 := by rw [eI_22]; exact Ch_r kI7 (by decide) (by decide)
        have cI_22 : RX I_22 := by rw [eI_22]; exact RX_61 cI7 (by omega) (by omega)
        have qI_22 := RX_o cI_22
        have r304_I_22 : I_22 51 304 = I7 51 304 := by rw [eI_22, up2_off _ _ _ (by decide)]
        have r305_I_22 : I_22 51 305 = I7 51 305 := by rw [eI_22, up2_off _ _ _ (by decide)]
        have rf_I_22 : FU (I_22 51 304) = FU (I7 51 304) := by rw [r304_I_22]
        refine ww_iinc hX (pc := 23) (lv' := [some (kR (some 49)), some (kI a), some (kI (i + (-1)))]) dX11_lasts0_23 rfl (by decide) rfl rfl ?_
        refine ww_goto hX (pc := 26) (tgt := 7) dX11_lasts0_26 (by decide) ?_
        exact ih_7 _ (by have hm9 := Sh0_e hq_7; omega) (i + (-1)) I_22 J7 rfl ⟨kI_22, cI_22, kJ7, by omega, by omega, by omega⟩
  exact hl_7 _ v_6 Ia Ja rfl ⟨Ch_rf, hQ, (Kp_rf (a := 49) (b := 73)), rfl, rfl, by omega⟩
set_option maxHeartbeats 4000000 in
set_option maxRecDepth 20000 in
theorem c_X11_meanOf (l0 : Launch) {Ia Ja : aI1} {Ra : aR1} {Sa : aS1} (hL : LY Ra Sa) (hQ : RX Ia) {a : Int} (ha0 : 0 ≤ a) (ha1 : a ≤ 255)  : CT l0 3 0 0 mX11_meanOf [kR (some 49), kI a] Ia Ja Ra Sa (cJ (fun x I' J' => Ia = I' ∧ Ja = J' ∧ True) Ra Sa) := by
  refine ct_in pn_X11 (Nat.le_of_ble_eq_true rfl) (fun X hX hT hIn => ?_)
  have hX : aK l0 X cX11_meanOf 9 RX11 (some .long) 3 0 0 := hX
  change WW X 0 [some (kR (some 49)), some (kI a), none, none, none, none, none, none, none] [] Ia Ja Ra Sa 0 0
  have qIa := RX_o hQ
  refine ww_aload_n hX (pc := 0) dX11_meanOf_0 rfl ?_
  refine ww_iload_n hX (pc := 1) dX11_meanOf_1 rfl ?_
  refine vI1 hX (pc := 2) sX11_274 (xs_49 hL) (c_X11_dark l0 hL hQ ) (by decide) (Nat.le_refl 0) (Nat.le_refl 0) (Nat.le_of_ble_eq_true rfl) dX11_meanOf_2 (fun x_2 I_2 J_2 h_2 => ?_)
  obtain ⟨rfl, rfl, h_2⟩ := h_2
  refine ww_istore_n hX (pc := 5) (lv' := [some (kR (some 49)), some (kI a), some (kI x_2), none, none, none, none, none, none]) dX11_meanOf_5 (by decide) rfl rfl ?_
  refine ww_aload_n hX (pc := 6) dX11_meanOf_6 rfl ?_
  refine ww_iload_n hX (pc := 7) dX11_meanOf_7 rfl ?_
  refine vI1 hX (pc := 8) sX11_126 (xs_49 hL) (c_X11_readOf l0 hL hQ (by omega) (by omega)) (by decide) (Nat.le_refl 0) (Nat.le_refl 0) (Nat.le_of_ble_eq_true rfl) dX11_meanOf_8 (fun x_8 I_8 J_8 h_8 => ?_)
  obtain ⟨rfl, rfl, h_8⟩ := h_8
  refine ww_iconst hX (pc := 11) (x := (-1)) dX11_meanOf_11 rfl ?_
  refine ww_icmp_ne hX (pc := 12) (tgt := 19) dX11_meanOf_12 (by decide) (fun h_12 => ?_) (fun h_12 => ?_)
  · simp only [w32_mod] at h_12
    refine ww_aload_n hX (pc := 19) dX11_meanOf_19 rfl ?_
    refine ww_iload_n hX (pc := 20) dX11_meanOf_20 rfl ?_
    refine vJ1 hX (pc := 21) sX11_277 (xs_49 hL) (c_X11_power l0 hL hQ (by omega) (by omega)) (by decide) (Nat.le_refl 0) (Nat.le_refl 0) (Nat.le_of_ble_eq_true rfl) dX11_meanOf_21 (fun x_21 I_21 J_21 h_21 => ?_)
    obtain ⟨rfl, rfl, h_21⟩ := h_21
    refine ww_lstore_n hX (pc := 24) (lv' := [some (kR (some 49)), some (kI a), some (kI x_2), some (kL x_21), none, none, none, none, none]) dX11_meanOf_24 (by decide) rfl rfl ?_
    refine ww_iconst hX (pc := 25) (x := 0) dX11_meanOf_25 rfl ?_
    refine ww_istore hX (pc := 26) (lv' := [some (kR (some 49)), some (kI a), some (kI x_2), some (kL x_21), none, some (kI 0), none, none, none]) dX11_meanOf_26 (by decide) rfl rfl ?_
    have hl_28 : ∀ (n_28 : Nat) (sm : Int) (i : Int), (Ia 51 305 - i).toNat = n_28 → ((0 ≤ i ∧ i ≤ Ia 51 305)) → WW X 28 [some (kR (some 49)), some (kI a), some (kI x_2), some (kL sm), none, some (kI i), none, none, none] [] Ia Ja Ra Sa 0 0 := by
      intro n_28
      induction n_28 using Nat.strongRecOn with
      | ind n_28 ih_28 =>
        intro sm i hm_28 hv_28
        have hq_28 := Sh0_i hm_28
        clear hm_28
        have hv := hv_28
        refine ww_iload hX (pc := 28) dX11_meanOf_28 rfl ?_
        refine ww_aload_n hX (pc := 30) dX11_meanOf_30 rfl ?_
        refine ww_getR hX (pc := 31) fX11_20 (by decide) (xs_49 hL) (xr_49_3 hL) dX11_meanOf_31 ?_
        refine ww_sipush hX (pc := 34) (x := 305) dX11_meanOf_34 (by decide) ?_
        refine ww_iald hX (pc := 37) (xs_51 hL) (by decide) (by omega) (by omega) dX11_meanOf_37 ?_
        refine ww_toI (b := Ia 51 305) rfl ?_
        refine ww_icmp_ge hX (pc := 38) (tgt := 156) dX11_meanOf_38 (by decide) (fun h_38 => ?_) (fun h_38 => ?_)
        · simp only [w32_mod] at h_38
          refine ww_lload_n hX (pc := 156) dX11_meanOf_156 rfl ?_
          refine rJ hX (pc := 157) hT (Nat.le_refl 0) (Nat.le_refl 0) dX11_meanOf_157 ?_
          exact ⟨rfl, rfl, trivial⟩
        · simp only [w32_mod] at h_38
          refine ww_iload hX (pc := 41) dX11_meanOf_41 rfl ?_
          refine ww_aload_n hX (pc := 43) dX11_meanOf_43 rfl ?_
          refine ww_iload_n hX (pc := 44) dX11_meanOf_44 rfl ?_
          refine vI1 hX (pc := 45) sX11_126 (xs_49 hL) (c_X11_readOf l0 hL hQ (by omega) (by omega)) (by decide) (Nat.le_refl 0) (Nat.le_refl 0) (Nat.le_of_ble_eq_true rfl) dX11_meanOf_45 (fun x_45 I_45 J_45 h_45 => ?_)
          obtain ⟨rfl, rfl, h_45⟩ := h_45
          refine ww_icmp_ne hX (pc := 48) (tgt := 54) dX11_meanOf_48 (by decide) (fun h_48 => ?_) (fun h_48 => ?_)
          · simp only [w32_mod] at h_48
            refine ww_ldc2 hX (pc := 54) (x := (-1)) dX11_meanOf_54 tb_1398 ?_
            refine ww_lstore hX (pc := 57) (lv' := [some (kR (some 49)), some (kI a), some (kI x_2), some (kL sm), none, some (kI i), some (kL (-1)), none, none]) dX11_meanOf_57 (by decide) rfl rfl ?_
            refine ww_iload_n hX (pc := 59) dX11_meanOf_59 rfl ?_
            refine ww_iconst hX (pc := 60) (x := 1) dX11_meanOf_60 rfl ?_
            refine ww_iadd hX (pc := 61) dX11_meanOf_61 ?_
            refine ww_nmI (fun v_62 hv_62 => ?_)
            refine ww_istore hX (pc := 62) (lv' := [some (kR (some 49)), some (kI a), some (kI x_2), some (kL sm), none, some (kI i), some (kL (-1)), none, some (kI v_62)]) dX11_meanOf_62 (by decide) rfl rfl ?_
            have hl_64 : ∀ (n_64 : Nat) (bs : Int) (t : Int), (256 - t).toNat = n_64 → ((a + 1 ≤ t ∧ t ≤ 256)) → WW X 64 [some (kR (some 49)), some (kI a), some (kI x_2), some (kL sm), none, some (kI i), some (kL bs), none, some (kI t)] [] Ia Ja Ra Sa 0 0 := by
              intro n_64
              induction n_64 using Nat.strongRecOn with
              | ind n_64 ih_64 =>
                intro bs t hm_64 hv_64
                have hq_64 := Sh0_i hm_64
                clear hm_64
                have hu := hv_64
                refine ww_iload hX (pc := 64) dX11_meanOf_64 rfl ?_
                refine ww_aload_n hX (pc := 66) dX11_meanOf_66 rfl ?_
                refine vI0 hX (pc := 67) sX11_112 (xs_49 hL) (c_X11_states l0 hL hQ ) (by decide) (Nat.le_refl 0) (Nat.le_refl 0) (Nat.le_of_ble_eq_true rfl) dX11_meanOf_67 (fun x_67 I_67 J_67 h_67 => ?_)
                obtain ⟨rfl, rfl, h_67⟩ := h_67
                refine ww_icmp_ge hX (pc := 70) (tgt := 130) dX11_meanOf_70 (by decide) (fun h_70 => ?_) (fun h_70 => ?_)
                · simp only [w32_mod] at h_70
                  refine ww_lload hX (pc := 130) dX11_meanOf_130 rfl ?_
                  refine ww_ldc2 hX (pc := 132) (x := (-1)) dX11_meanOf_132 tb_1398 ?_
                  refine ww_lcmp hX (pc := 135) dX11_meanOf_135 ?_
                  refine ww_if_eq hX (pc := 136) (tgt := 150) dX11_meanOf_136 (by decide) (fun h_136 => ?_) (fun h_136 => ?_)
                  · simp only [w32_mod] at h_136
                    refine ww_iinc hX (pc := 150) (lv' := [some (kR (some 49)), some (kI a), some (kI x_2), some (kL sm), none, some (kI (i + 1)), some (kL bs), none, some (kI t)]) dX11_meanOf_150 rfl (by decide) rfl rfl ?_
                    refine ww_goto hX (pc := 153) (tgt := 28) dX11_meanOf_153 (by decide) ?_
                    refine ww_sub [some (kR (some 49)), some (kI a), some (kI x_2), some (kL sm), none, some (kI (i + 1)), none, none, none] (aLe_s (aLe_s (aLe_s (aLe_s (aLe_n (aLe_s (aLe_n (aLe_n (aLe_n aLe_0))))))))) ?_
                    exact ih_28 _ (by have hm9 := Sh0_e hq_28; omega) sm (i + 1) rfl (by omega)
                  · simp only [w32_mod] at h_136
                    refine ww_lload_n hX (pc := 139) dX11_meanOf_139 rfl ?_
                    refine ww_aload_n hX (pc := 140) dX11_meanOf_140 rfl ?_
                    refine ww_iload_n hX (pc := 141) dX11_meanOf_141 rfl ?_
                    refine vJ1 hX (pc := 142) sX11_277 (xs_49 hL) (c_X11_power l0 hL hQ (by omega) (by omega)) (by decide) (Nat.le_refl 0) (Nat.le_refl 0) (Nat.le_of_ble_eq_true rfl) dX11_meanOf_142 (fun x_142 I_142 J_142 h_142 => ?_)
                    obtain ⟨rfl, rfl, h_142⟩ := h_142
                    refine ww_lload hX (pc := 145) dX11_meanOf_145 rfl ?_
                    refine ww_ladd hX (pc := 147) dX11_meanOf_147 ?_
                    refine ww_ladd hX (pc := 148) dX11_meanOf_148 ?_
                    refine ww_nmL (fun v_149 hv_149 => ?_)
                    refine ww_lstore_n hX (pc := 149) (lv' := [some (kR (some 49)), some (kI a), some (kI x_2), some (kL v_149), none, some (kI i), some (kL bs), none, some (kI t)]) dX11_meanOf_149 (by decide) rfl rfl ?_
                    refine ww_iinc hX (pc := 150) (lv' := [some (kR (some 49)), some (kI a), some (kI x_2), some (kL v_149), none, some (kI (i + 1)), some (kL bs), none, some (kI t)]) dX11_meanOf_150 rfl (by decide) rfl rfl ?_
                    refine ww_goto hX (pc := 153) (tgt := 28) dX11_meanOf_153 (by decide) ?_
                    refine ww_sub [some (kR (some 49)), some (kI a), some (kI x_2), some (kL v_149), none, some (kI (i + 1)), none, none, none] (aLe_s (aLe_s (aLe_s (aLe_s (aLe_n (aLe_s (aLe_n (aLe_n (aLe_n aLe_0))))))))) ?_
                    exact ih_28 _ (by have hm9 := Sh0_e hq_28; omega) v_149 (i + 1) rfl (by omega)
                · simp only [w32_mod] at h_70
                  refine ww_aload_n hX (pc := 73) dX11_meanOf_73 rfl ?_
                  refine ww_iload hX (pc := 74) dX11_meanOf_74 rfl ?_
                  refine vI1 hX (pc := 76) sX11_126 (xs_49 hL) (c_X11_readOf l0 hL hQ (by omega) (by omega)) (by decide) (Nat.le_refl 0) (Nat.le_refl 0) (Nat.le_of_ble_eq_true rfl) dX11_meanOf_76 (fun x_76 I_76 J_76 h_76 => ?_)
                  obtain ⟨rfl, rfl, h_76⟩ := h_76
                  refine ww_iload hX (pc := 79) dX11_meanOf_79 rfl ?_
                  refine ww_icmp_ne hX (pc := 81) (tgt := 124) dX11_meanOf_81 (by decide) (fun h_81 => ?_) (fun h_81 => ?_)
                  · simp only [w32_mod] at h_81
                    refine ww_iinc hX (pc := 124) (lv' := [some (kR (some 49)), some (kI a), some (kI x_2), some (kL sm), none, some (kI i), some (kL bs), none, some (kI (t + 1))]) dX11_meanOf_124 rfl (by decide) rfl rfl ?_
                    refine ww_goto hX (pc := 127) (tgt := 64) dX11_meanOf_127 (by decide) ?_
                    exact ih_64 _ (by have hm9 := Sh0_e hq_64; omega) bs (t + 1) rfl (by omega)
                  · simp only [w32_mod] at h_81
                    refine ww_aload_n hX (pc := 84) dX11_meanOf_84 rfl ?_
                    refine ww_iload_n hX (pc := 85) dX11_meanOf_85 rfl ?_
                    refine ww_iload hX (pc := 86) dX11_meanOf_86 rfl ?_
                    refine ww_aload_n hX (pc := 88) dX11_meanOf_88 rfl ?_
                    refine ww_getR hX (pc := 89) fX11_20 (by decide) (xs_49 hL) (xr_49_3 hL) dX11_meanOf_89 ?_
                    refine ww_sipush hX (pc := 92) (x := 306) dX11_meanOf_92 (by decide) ?_
                    refine ww_iald hX (pc := 95) (xs_51 hL) (by decide) (by omega) (by omega) dX11_meanOf_95 ?_
                    refine ww_toI (b := Ia 51 306) rfl ?_
                    refine vI3 hX (pc := 96) sX11_271 (xs_49 hL) (c_X11_canCome l0 hL hQ ) (by decide) (Nat.le_refl 0) (Nat.le_refl 0) (Nat.le_of_ble_eq_true rfl) dX11_meanOf_96 (fun x_96 I_96 J_96 h_96 => ?_)
                    obtain ⟨rfl, rfl, h_96⟩ := h_96
                    refine ww_if_eq hX (pc := 99) (tgt := 124) dX11_meanOf_99 (by decide) (fun h_99 => ?_) (fun h_99 => ?_)
                    · simp only [w32_mod] at h_99
                      refine ww_iinc hX (pc := 124) (lv' := [some (kR (some 49)), some (kI a), some (kI x_2), some (kL sm), none, some (kI i), some (kL bs), none, some (kI (t + 1))]) dX11_meanOf_124 rfl (by decide) rfl rfl ?_
                      refine ww_goto hX (pc := 127) (tgt := 64) dX11_meanOf_127 (by decide) ?_
                      exact ih_64 _ (by have hm9 := Sh0_e hq_64; omega) bs (t + 1) rfl (by omega)
                    · simp only [w32_mod] at h_99
                      have k_96 := h_96.2.mp (by omega)
                      clear h_96
                      refine ww_aload_n hX (pc := 102) dX11_meanOf_102 rfl ?_
                      refine ww_iload hX (pc := 103) dX11_meanOf_103 rfl ?_
                      refine ww_iload_n hX (pc := 105) dX11_meanOf_105 rfl ?_
                      refine vJ2 hX (pc := 106) sX11_281 (xs_49 hL) (c_X11_meanIn l0 hL hQ (by omega) (by omega) (by omega) (by omega)) (by decide) (Nat.le_refl 0) (Nat.le_refl 0) (Nat.le_of_ble_eq_true rfl) dX11_meanOf_106 (fun x_106 I_106 J_106 h_106 => ?_)
                      obtain ⟨rfl, rfl, h_106⟩ := h_106
                      refine ww_lload hX (pc := 109) dX11_meanOf_109 rfl ?_
                      refine ww_lcmp hX (pc := 111) dX11_meanOf_111 ?_
                      refine ww_if_le hX (pc := 112) (tgt := 124) dX11_meanOf_112 (by decide) (fun h_112 => ?_) (fun h_112 => ?_)
                      · simp only [w32_mod] at h_112
                        refine ww_iinc hX (pc := 124) (lv' := [some (kR (some 49)), some (kI a), some (kI x_2), some (kL sm), none, some (kI i), some (kL bs), none, some (kI (t + 1))]) dX11_meanOf_124 rfl (by decide) rfl rfl ?_
                        refine ww_goto hX (pc := 127) (tgt := 64) dX11_meanOf_127 (by decide) ?_
                        exact ih_64 _ (by have hm9 := Sh0_e hq_64; omega) bs (t + 1) rfl (by omega)
                      · simp only [w32_mod] at h_112
                        refine ww_aload_n hX (pc := 115) dX11_meanOf_115 rfl ?_
                        refine ww_iload hX (pc := 116) dX11_meanOf_116 rfl ?_
                        refine ww_iload_n hX (pc := 118) dX11_meanOf_118 rfl ?_
                        refine vJ2 hX (pc := 119) sX11_281 (xs_49 hL) (c_X11_meanIn l0 hL hQ (by omega) (by omega) (by omega) (by omega)) (by decide) (Nat.le_refl 0) (Nat.le_refl 0) (Nat.le_of_ble_eq_true rfl) dX11_meanOf_119 (fun x_119 I_119 J_119 h_119 => ?_)
                        obtain ⟨rfl, rfl, h_119⟩ := h_119
                        refine ww_lstore hX (pc := 122) (lv' := [some (kR (some 49)), some (kI a), some (kI x_2), some (kL sm), none, some (kI i), some (kL x_119), none, some (kI t)]) dX11_meanOf_122 (by decide) rfl rfl ?_
                        refine ww_iinc hX (pc := 124) (lv' := [some (kR (some 49)), some (kI a), some (kI x_2), some (kL sm), none, some (kI i), some (kL x_119), none, some (kI (t + 1))]) dX11_meanOf_124 rfl (by decide) rfl rfl ?_
                        refine ww_goto hX (pc := 127) (tgt := 64) dX11_meanOf_127 (by decide) ?_
                        exact ih_64 _ (by have hm9 := Sh0_e hq_64; omega) x_119 (t + 1) rfl (by omega)
            exact hl_64 _ (-1) v_62 rfl (by omega)
          · simp only [w32_mod] at h_48
            refine ww_goto hX (pc := 51) (tgt := 150) dX11_meanOf_51 (by decide) ?_
            refine ww_iinc hX (pc := 150) (lv' := [some (kR (some 49)), some (kI a), some (kI x_2), some (kL sm), none, some (kI (i + 1)), none, none, none]) dX11_meanOf_150 rfl (by decide) rfl rfl ?_
            refine ww_goto hX (pc := 153) (tgt := 28) dX11_meanOf_153 (by decide) ?_
            exact ih_28 _ (by have hm9 := Sh0_e hq_28; omega) sm (i + 1) rfl (by omega)
    exact hl_28 _ x_21 0 rfl (by omega)
  · simp only [w32_mod] at h_12
    refine ww_lconst hX (pc := 15) (x := 0) dX11_meanOf_15 (by decide) ?_
    refine ww_goto hX (pc := 16) (tgt := 24) dX11_meanOf_16 (by decide) ?_
    refine ww_lstore_n hX (pc := 24) (lv' := [some (kR (some 49)), some (kI a), some (kI x_2), some (kL 0), none, none, none, none, none]) dX11_meanOf_24 (by decide) rfl rfl ?_
    refine ww_iconst hX (pc := 25) (x := 0) dX11_meanOf_25 rfl ?_
    refine ww_istore hX (pc := 26) (lv' := [some (kR (some 49)), some (kI a), some (kI x_2), some (kL 0), none, some (kI 0), none, none, none]) dX11_meanOf_26 (by decide) rfl rfl ?_
    have hl_28 : ∀ (n_28 : Nat) (sm : Int) (i : Int), (Ia 51 305 - i).toNat = n_28 → ((0 ≤ i ∧ i ≤ Ia 51 305)) → WW X 28 [some (kR (some 49)), some (kI a), some (kI x_2), some (kL sm), none, some (kI i), none, none, none] [] Ia Ja Ra Sa 0 0 := by
      intro n_28
      induction n_28 using Nat.strongRecOn with
      | ind n_28 ih_28 =>
        intro sm i hm_28 hv_28
        have hq_28 := Sh0_i hm_28
        clear hm_28
        have hv := hv_28
        refine ww_iload hX (pc := 28) dX11_meanOf_28 rfl ?_
        refine ww_aload_n hX (pc := 30) dX11_meanOf_30 rfl ?_
        refine ww_getR hX (pc := 31) fX11_20 (by decide) (xs_49 hL) (xr_49_3 hL) dX11_meanOf_31 ?_
        refine ww_sipush hX (pc := 34) (x := 305) dX11_meanOf_34 (by decide) ?_
        refine ww_iald hX (pc := 37) (xs_51 hL) (by decide) (by omega) (by omega) dX11_meanOf_37 ?_
        refine ww_toI (b := Ia 51 305) rfl ?_
        refine ww_icmp_ge hX (pc := 38) (tgt := 156) dX11_meanOf_38 (by decide) (fun h_38 => ?_) (fun h_38 => ?_)
        · simp only [w32_mod] at h_38
          refine ww_lload_n hX (pc := 156) dX11_meanOf_156 rfl ?_
          refine rJ hX (pc := 157) hT (Nat.le_refl 0) (Nat.le_refl 0) dX11_meanOf_157 ?_
          exact ⟨rfl, rfl, trivial⟩
        · simp only [w32_mod] at h_38
          refine ww_iload hX (pc := 41) dX11_meanOf_41 rfl ?_
          refine ww_aload_n hX (pc := 43) dX11_meanOf_43 rfl ?_
          refine ww_iload_n hX (pc := 44) dX11_meanOf_44 rfl ?_
          refine vI1 hX (pc := 45) sX11_126 (xs_49 hL) (c_X11_readOf l0 hL hQ (by omega) (by omega)) (by decide) (Nat.le_refl 0) (Nat.le_refl 0) (Nat.le_of_ble_eq_true rfl) dX11_meanOf_45 (fun x_45 I_45 J_45 h_45 => ?_)
          obtain ⟨rfl, rfl, h_45⟩ := h_45
          refine ww_icmp_ne hX (pc := 48) (tgt := 54) dX11_meanOf_48 (by decide) (fun h_48 => ?_) (fun h_48 => ?_)
          · simp only [w32_mod] at h_48
            refine ww_ldc2 hX (pc := 54) (x := (-1)) dX11_meanOf_54 tb_1398 ?_
            refine ww_lstore hX (pc := 57) (lv' := [some (kR (some 49)), some (kI a), some (kI x_2), some (kL sm), none, some (kI i), some (kL (-1)), none, none]) dX11_meanOf_57 (by decide) rfl rfl ?_
            refine ww_iload_n hX (pc := 59) dX11_meanOf_59 rfl ?_
            refine ww_iconst hX (pc := 60) (x := 1) dX11_meanOf_60 rfl ?_
            refine ww_iadd hX (pc := 61) dX11_meanOf_61 ?_
            refine ww_nmI (fun v_62 hv_62 => ?_)
            refine ww_istore hX (pc := 62) (lv' := [some (kR (some 49)), some (kI a), some (kI x_2), some (kL sm), none, some (kI i), some (kL (-1)), none, some (kI v_62)]) dX11_meanOf_62 (by decide) rfl rfl ?_
            have hl_64 : ∀ (n_64 : Nat) (bs : Int) (t : Int), (256 - t).toNat = n_64 → ((a + 1 ≤ t ∧ t ≤ 256)) → WW X 64 [some (kR (some 49)), some (kI a), some (kI x_2), some (kL sm), none, some (kI i), some (kL bs), none, some (kI t)] [] Ia Ja Ra Sa 0 0 := by
              intro n_64
              induction n_64 using Nat.strongRecOn with
              | ind n_64 ih_64 =>
                intro bs t hm_64 hv_64
                have hq_64 := Sh0_i hm_64
                clear hm_64
                have hu := hv_64
                refine ww_iload hX (pc := 64) dX11_meanOf_64 rfl ?_
                refine ww_aload_n hX (pc := 66) dX11_meanOf_66 rfl ?_
                refine vI0 hX (pc := 67) sX11_112 (xs_49 hL) (c_X11_states l0 hL hQ ) (by decide) (Nat.le_refl 0) (Nat.le_refl 0) (Nat.le_of_ble_eq_true rfl) dX11_meanOf_67 (fun x_67 I_67 J_67 h_67 => ?_)
                obtain ⟨rfl, rfl, h_67⟩ := h_67
                refine ww_icmp_ge hX (pc := 70) (tgt := 130) dX11_meanOf_70 (by decide) (fun h_70 => ?_) (fun h_70 => ?_)
                · simp only [w32_mod] at h_70
                  refine ww_lload hX (pc := 130) dX11_meanOf_130 rfl ?_
                  refine ww_ldc2 hX (pc := 132) (x := (-1)) dX11_meanOf_132 tb_1398 ?_
                  refine ww_lcmp hX (pc := 135) dX11_meanOf_135 ?_
                  refine ww_if_eq hX (pc := 136) (tgt := 150) dX11_meanOf_136 (by decide) (fun h_136 => ?_) (fun h_136 => ?_)
                  · simp only [w32_mod] at h_136
                    refine ww_iinc hX (pc := 150) (lv' := [some (kR (some 49)), some (kI a), some (kI x_2), some (kL sm), none, some (kI (i + 1)), some (kL bs), none, some (kI t)]) dX11_meanOf_150 rfl (by decide) rfl rfl ?_
                    refine ww_goto hX (pc := 153) (tgt := 28) dX11_meanOf_153 (by decide) ?_
                    refine ww_sub [some (kR (some 49)), some (kI a), some (kI x_2), some (kL sm), none, some (kI (i + 1)), none, none, none] (aLe_s (aLe_s (aLe_s (aLe_s (aLe_n (aLe_s (aLe_n (aLe_n (aLe_n aLe_0))))))))) ?_
                    exact ih_28 _ (by have hm9 := Sh0_e hq_28; omega) sm (i + 1) rfl (by omega)
                  · simp only [w32_mod] at h_136
                    refine ww_lload_n hX (pc := 139) dX11_meanOf_139 rfl ?_
                    refine ww_aload_n hX (pc := 140) dX11_meanOf_140 rfl ?_
                    refine ww_iload_n hX (pc := 141) dX11_meanOf_141 rfl ?_
                    refine vJ1 hX (pc := 142) sX11_277 (xs_49 hL) (c_X11_power l0 hL hQ (by omega) (by omega)) (by decide) (Nat.le_refl 0) (Nat.le_refl 0) (Nat.le_of_ble_eq_true rfl) dX11_meanOf_142 (fun x_142 I_142 J_142 h_142 => ?_)
                    obtain ⟨rfl, rfl, h_142⟩ := h_142
                    refine ww_lload hX (pc := 145) dX11_meanOf_145 rfl ?_
                    refine ww_ladd hX (pc := 147) dX11_meanOf_147 ?_
                    refine ww_ladd hX (pc := 148) dX11_meanOf_148 ?_
                    refine ww_nmL (fun v_149 hv_149 => ?_)
                    refine ww_lstore_n hX (pc := 149) (lv' := [some (kR (some 49)), some (kI a), some (kI x_2), some (kL v_149), none, some (kI i), some (kL bs), none, some (kI t)]) dX11_meanOf_149 (by decide) rfl rfl ?_
                    refine ww_iinc hX (pc := 150) (lv' := [some (kR (some 49)), some (kI a), some (kI x_2), some (kL v_149), none, some (kI (i + 1)), some (kL bs), none, some (kI t)]) dX11_meanOf_150 rfl (by decide) rfl rfl ?_
                    refine ww_goto hX (pc := 153) (tgt := 28) dX11_meanOf_153 (by decide) ?_
                    refine ww_sub [some (kR (some 49)), some (kI a), some (kI x_2), some (kL v_149), none, some (kI (i + 1)), none, none, none] (aLe_s (aLe_s (aLe_s (aLe_s (aLe_n (aLe_s (aLe_n (aLe_n (aLe_n aLe_0))))))))) ?_
                    exact ih_28 _ (by have hm9 := Sh0_e hq_28; omega) v_149 (i + 1) rfl (by omega)
                · simp only [w32_mod] at h_70
                  refine ww_aload_n hX (pc := 73) dX11_meanOf_73 rfl ?_
                  refine ww_iload hX (pc := 74) dX11_meanOf_74 rfl ?_
                  refine vI1 hX (pc := 76) sX11_126 (xs_49 hL) (c_X11_readOf l0 hL hQ (by omega) (by omega)) (by decide) (Nat.le_refl 0) (Nat.le_refl 0) (Nat.le_of_ble_eq_true rfl) dX11_meanOf_76 (fun x_76 I_76 J_76 h_76 => ?_)
                  obtain ⟨rfl, rfl, h_76⟩ := h_76
                  refine ww_iload hX (pc := 79) dX11_meanOf_79 rfl ?_
                  refine ww_icmp_ne hX (pc := 81) (tgt := 124) dX11_meanOf_81 (by decide) (fun h_81 => ?_) (fun h_81 => ?_)
                  · simp only [w32_mod] at h_81
                    refine ww_iinc hX (pc := 124) (lv' := [some (kR (some 49)), some (kI a), some (kI x_2), some (kL sm), none, some (kI i), some (kL bs), none, some (kI (t + 1))]) dX11_meanOf_124 rfl (by decide) rfl rfl ?_
                    refine ww_goto hX (pc := 127) (tgt := 64) dX11_meanOf_127 (by decide) ?_
                    exact ih_64 _ (by have hm9 := Sh0_e hq_64; omega) bs (t + 1) rfl (by omega)
                  · simp only [w32_mod] at h_81
                    refine ww_aload_n hX (pc := 84) dX11_meanOf_84 rfl ?_
                    refine ww_iload_n hX (pc := 85) dX11_meanOf_85 rfl ?_
                    refine ww_iload hX (pc := 86) dX11_meanOf_86 rfl ?_
                    refine ww_aload_n hX (pc := 88) dX11_meanOf_88 rfl ?_
                    refine ww_getR hX (pc := 89) fX11_20 (by decide) (xs_49 hL) (xr_49_3 hL) dX11_meanOf_89 ?_
                    refine ww_sipush hX (pc := 92) (x := 306) dX11_meanOf_92 (by decide) ?_
                    refine ww_iald hX (pc := 95) (xs_51 hL) (by decide) (by omega) (by omega) dX11_meanOf_95 ?_
                    refine ww_toI (b := Ia 51 306) rfl ?_
                    refine vI3 hX (pc := 96) sX11_271 (xs_49 hL) (c_X11_canCome l0 hL hQ ) (by decide) (Nat.le_refl 0) (Nat.le_refl 0) (Nat.le_of_ble_eq_true rfl) dX11_meanOf_96 (fun x_96 I_96 J_96 h_96 => ?_)
                    obtain ⟨rfl, rfl, h_96⟩ := h_96
                    refine ww_if_eq hX (pc := 99) (tgt := 124) dX11_meanOf_99 (by decide) (fun h_99 => ?_) (fun h_99 => ?_)
                    · simp only [w32_mod] at h_99
                      refine ww_iinc hX (pc := 124) (lv' := [some (kR (some 49)), some (kI a), some (kI x_2), some (kL sm), none, some (kI i), some (kL bs), none, some (kI (t + 1))]) dX11_meanOf_124 rfl (by decide) rfl rfl ?_
                      refine ww_goto hX (pc := 127) (tgt := 64) dX11_meanOf_127 (by decide) ?_
                      exact ih_64 _ (by have hm9 := Sh0_e hq_64; omega) bs (t + 1) rfl (by omega)
                    · simp only [w32_mod] at h_99
                      have k_96 := h_96.2.mp (by omega)
                      clear h_96
                      refine ww_aload_n hX (pc := 102) dX11_meanOf_102 rfl ?_
                      refine ww_iload hX (pc := 103) dX11_meanOf_103 rfl ?_
                      refine ww_iload_n hX (pc := 105) dX11_meanOf_105 rfl ?_
                      refine vJ2 hX (pc := 106) sX11_281 (xs_49 hL) (c_X11_meanIn l0 hL hQ (by omega) (by omega) (by omega) (by omega)) (by decide) (Nat.le_refl 0) (Nat.le_refl 0) (Nat.le_of_ble_eq_true rfl) dX11_meanOf_106 (fun x_106 I_106 J_106 h_106 => ?_)
                      obtain ⟨rfl, rfl, h_106⟩ := h_106
                      refine ww_lload hX (pc := 109) dX11_meanOf_109 rfl ?_
                      refine ww_lcmp hX (pc := 111) dX11_meanOf_111 ?_
                      refine ww_if_le hX (pc := 112) (tgt := 124) dX11_meanOf_112 (by decide) (fun h_112 => ?_) (fun h_112 => ?_)
                      · simp only [w32_mod] at h_112
                        refine ww_iinc hX (pc := 124) (lv' := [some (kR (some 49)), some (kI a), some (kI x_2), some (kL sm), none, some (kI i), some (kL bs), none, some (kI (t + 1))]) dX11_meanOf_124 rfl (by decide) rfl rfl ?_
                        refine ww_goto hX (pc := 127) (tgt := 64) dX11_meanOf_127 (by decide) ?_
                        exact ih_64 _ (by have hm9 := Sh0_e hq_64; omega) bs (t + 1) rfl (by omega)
                      · simp only [w32_mod] at h_112
                        refine ww_aload_n hX (pc := 115) dX11_meanOf_115 rfl ?_
                        refine ww_iload hX (pc := 116) dX11_meanOf_116 rfl ?_
                        refine ww_iload_n hX (pc := 118) dX11_meanOf_118 rfl ?_
                        refine vJ2 hX (pc := 119) sX11_281 (xs_49 hL) (c_X11_meanIn l0 hL hQ (by omega) (by omega) (by omega) (by omega)) (by decide) (Nat.le_refl 0) (Nat.le_refl 0) (Nat.le_of_ble_eq_true rfl) dX11_meanOf_119 (fun x_119 I_119 J_119 h_119 => ?_)
                        obtain ⟨rfl, rfl, h_119⟩ := h_119
                        refine ww_lstore hX (pc := 122) (lv' := [some (kR (some 49)), some (kI a), some (kI x_2), some (kL sm), none, some (kI i), some (kL x_119), none, some (kI t)]) dX11_meanOf_122 (by decide) rfl rfl ?_
                        refine ww_iinc hX (pc := 124) (lv' := [some (kR (some 49)), some (kI a), some (kI x_2), some (kL sm), none, some (kI i), some (kL x_119), none, some (kI (t + 1))]) dX11_meanOf_124 rfl (by decide) rfl rfl ?_
                        refine ww_goto hX (pc := 127) (tgt := 64) dX11_meanOf_127 (by decide) ?_
                        exact ih_64 _ (by have hm9 := Sh0_e hq_64; omega) x_119 (t + 1) rfl (by omega)
            exact hl_64 _ (-1) v_62 rfl (by omega)
          · simp only [w32_mod] at h_48
            refine ww_goto hX (pc := 51) (tgt := 150) dX11_meanOf_51 (by decide) ?_
            refine ww_iinc hX (pc := 150) (lv' := [some (kR (some 49)), some (kI a), some (kI x_2), some (kL sm), none, some (kI (i + 1)), none, none, none]) dX11_meanOf_150 rfl (by decide) rfl rfl ?_
            refine ww_goto hX (pc := 153) (tgt := 28) dX11_meanOf_153 (by decide) ?_
            exact ih_28 _ (by have hm9 := Sh0_e hq_28; omega) sm (i + 1) rfl (by omega)
    exact hl_28 _ 0 0 rfl (by omega)
set_option maxHeartbeats 4000000 in
set_option maxRecDepth 20000 in
theorem c_X11_looks (l0 : Launch) {Ia Ja : aI1} {Ra : aR1} {Sa : aS1} (hL : LY Ra Sa) (hQ : RX Ia)  : CT l0 4 0 0 mX11_looks [kR (some 49)] Ia Ja Ra Sa (cV (fun I' J' => Ch [61] [25] Ia I' ∧ Kp 49 73 Ja J' ∧ RX I' ∧ I' 51 = Ia 51) Ra Sa) := by
  refine ct_in pn_X11 (Nat.le_of_ble_eq_true rfl) (fun X hX hT hIn => ?_)
  have hX : aK l0 X cX11_looks 2 RX11 none 4 0 0 := hX
  change WW X 0 [some (kR (some 49)), none] [] Ia Ja Ra Sa 0 0
  have qIa := RX_o hQ
  refine ww_aload_n hX (pc := 0) dX11_looks_0 rfl ?_
  refine ww_getI hX (pc := 1) fX11_62 (by decide) (xs_49 hL) dX11_looks_1 ?_
  refine ww_aload_n hX (pc := 4) dX11_looks_4 rfl ?_
  refine ww_getI hX (pc := 5) fX11_11 (by decide) (xs_49 hL) dX11_looks_5 ?_
  refine ww_icmp_ne hX (pc := 8) (tgt := 12) dX11_looks_8 (by decide) (fun h_8 => ?_) (fun h_8 => ?_)
  · simp only [w32_mod] at h_8
    refine ww_aload_n hX (pc := 12) dX11_looks_12 rfl ?_
    refine ww_aload_n hX (pc := 13) dX11_looks_13 rfl ?_
    refine ww_getI hX (pc := 14) fX11_11 (by decide) (xs_49 hL) dX11_looks_14 ?_
    refine ww_putI hX (pc := 17) (fun h9 => absurd h9 (by decide)) gX11_62 rfl (xs_49 hL) dX11_looks_17 ?_
    refine ww_nmH (fun I_17 eI_17 => ?_)
    have kI_17 : Ch [61] [25] Ia I_17 := by rw [eI_17]; exact Ch_f Ch_rf (by decide)
    have cI_17 : RX I_17 := by rw [eI_17]; exact RX_f hQ (by decide)
    have qI_17 := RX_o cI_17
    have r304_I_17 : I_17 51 304 = Ia 51 304 := by rw [eI_17, up2_off _ _ _ (by decide)]
    have r305_I_17 : I_17 51 305 = Ia 51 305 := by rw [eI_17, up2_off _ _ _ (by decide)]
    have rf_I_17 : FU (I_17 51 304) = FU (Ia 51 304) := by rw [r304_I_17]
    refine ww_aload_n hX (pc := 20) dX11_looks_20 rfl ?_
    refine ww_aload_n hX (pc := 21) dX11_looks_21 rfl ?_
    refine ww_getR hX (pc := 22) fX11_20 (by decide) (xs_49 hL) (xr_49_3 hL) dX11_looks_22 ?_
    refine ww_sipush hX (pc := 25) (x := 306) dX11_looks_25 (by decide) ?_
    refine ww_iald hX (pc := 28) (xs_51 hL) (by decide) (by omega) (by omega) dX11_looks_28 ?_
    refine ww_toI (b := I_17 51 306) rfl ?_
    refine vV1 hX (pc := 29) sX11_285 (xs_49 hL) (c_X11_lasts0 l0 hL cI_17 ) (by decide) (Nat.le_refl 0) (Nat.le_refl 0) (Nat.le_of_ble_eq_true rfl) dX11_looks_29 (fun I_29 J_29 h_29 => ?_)
    have kJ_29 : Kp 49 73 Ja J_29 := Kp_tr (Kp_rf (a := 49) (b := 73)) h_29.2.1
    have kI_29 : Ch [61] [25] Ia I_29 := Ch_tr kI_17 (Ch_wd h_29.1 (by decide) (by decide))
    have cI_29 : RX I_29 := h_29.2.2.1
    have qI_29 := RX_o cI_29
    have r304_I_29 : I_29 51 304 = I_17 51 304 := by rw [h_29.1.1 51 (by decide) (by decide)]
    have r305_I_29 : I_29 51 305 = I_17 51 305 := by rw [h_29.1.1 51 (by decide) (by decide)]
    have rf_I_29 : FU (I_29 51 304) = FU (I_17 51 304) := by rw [r304_I_29]
    refine ww_aload_n hX (pc := 32) dX11_looks_32 rfl ?_
    refine vI0 hX (pc := 33) sX11_112 (xs_49 hL) (c_X11_states l0 hL cI_29 ) (by decide) (Nat.le_refl 0) (Nat.le_refl 0) (Nat.le_of_ble_eq_true rfl) dX11_looks_33 (fun x_33 I_33 J_33 h_33 => ?_)
    obtain ⟨rfl, rfl, h_33⟩ := h_33
    refine ww_iconst hX (pc := 36) (x := 1) dX11_looks_36 rfl ?_
    refine ww_isub hX (pc := 37) dX11_looks_37 ?_
    refine ww_nmI (fun v_38 hv_38 => ?_)
    refine ww_istore_n hX (pc := 38) (lv' := [some (kR (some 49)), some (kI v_38)]) dX11_looks_38 (by decide) rfl rfl ?_
    have hl_39 : ∀ (n_39 : Nat) (i : Int) (I39 : aI1) (J39 : aI1), (i + 1).toNat = n_39 → (Ch [61] [25] Ia I39 ∧ RX I39 ∧ Kp 49 73 Ja J39 ∧ I39 51 304 = I_29 51 304 ∧ I39 51 305 = I_29 51 305 ∧ (-1 ≤ i ∧ i ≤ 255)) → WW X 39 [some (kR (some 49)), some (kI i)] [] I39 J39 Ra Sa 0 0 := by
      intro n_39
      induction n_39 using Nat.strongRecOn with
      | ind n_39 ih_39 =>
        intro i I39 J39 hm_39 hv_39
        have hq_39 := Sh0_i hm_39
        clear hm_39
        obtain ⟨kI39, cI39, kJ39, r304_I39, r305_I39, hv⟩ := hv_39
        have qI39 := RX_o cI39
        have rf_I39 : FU (I39 51 304) = FU (I_29 51 304) := by rw [r304_I39]
        refine ww_iload_n hX (pc := 39) dX11_looks_39 rfl ?_
        refine ww_if_lt hX (pc := 40) (tgt := 60) dX11_looks_40 (by decide) (fun h_40 => ?_) (fun h_40 => ?_)
        · simp only [w32_mod] at h_40
          refine rV hX (pc := 60) hT (Nat.le_refl 0) (Nat.le_refl 0) dX11_looks_60 ?_
          exact ⟨kI39, kJ39, cI39, kI39.1 51 (by decide) (by decide)⟩
        · simp only [w32_mod] at h_40
          refine ww_aload_n hX (pc := 43) dX11_looks_43 rfl ?_
          refine ww_getR hX (pc := 44) fX11_58 (by decide) (xs_49 hL) (xr_49_24 hL) dX11_looks_44 ?_
          refine ww_iload_n hX (pc := 47) dX11_looks_47 rfl ?_
          refine ww_aload_n hX (pc := 48) dX11_looks_48 rfl ?_
          refine ww_iload_n hX (pc := 49) dX11_looks_49 rfl ?_
          refine vJ1 hX (pc := 50) sX11_288 (xs_49 hL) (c_X11_meanOf l0 hL cI39 (by omega) (by omega)) (by decide) (Nat.le_refl 0) (Nat.le_refl 0) (Nat.le_of_ble_eq_true rfl) dX11_looks_50 (fun x_50 I_50 J_50 h_50 => ?_)
          obtain ⟨rfl, rfl, h_50⟩ := h_50
          refine ww_last hX (pc := 53) (xs_62 hL) (by decide) (by omega) (by omega) dX11_looks_53 ?_
          refine ww_nmK (fun J_53 eJ_53 => ?_)
          have kJ_53 : Kp 49 73 Ja J_53 := by rw [eJ_53]; exact Kp_up kJ39 _ _ (by decide)
          refine ww_iinc hX (pc := 54) (lv' := [some (kR (some 49)), some (kI (i + (-1)))]) dX11_looks_54 rfl (by decide) rfl rfl ?_
          refine ww_goto hX (pc := 57) (tgt := 39) dX11_looks_57 (by decide) ?_
          exact ih_39 _ (by have hm9 := Sh0_e hq_39; omega) (i + (-1)) I39 J_53 rfl ⟨kI39, cI39, kJ_53, by omega, by omega, by omega⟩
    exact hl_39 _ v_38 I_29 J_29 rfl ⟨kI_29, cI_29, kJ_29, rfl, rfl, by omega⟩
  · simp only [w32_mod] at h_8
    refine rV hX (pc := 11) hT (Nat.le_refl 0) (Nat.le_refl 0) dX11_looks_11 ?_
    exact ⟨Ch_rf, (Kp_rf (a := 49) (b := 73)), hQ, rfl⟩
set_option maxHeartbeats 4000000 in
set_option maxRecDepth 20000 in
theorem c_X11_isBetter (l0 : Launch) {Ia Ja : aI1} {Ra : aR1} {Sa : aS1} (hL : LY Ra Sa) (hQ : RX Ia) {s t u m : Int} (ht0 : 0 ≤ t) (ht1 : t ≤ 255) (hu0 : 0 ≤ u) (hu1 : u ≤ 255)  : CT l0 2 0 0 mX11_isBetter [kR (some 49), kI s, kI t, kI u, kI m] Ia Ja Ra Sa (cI (fun x I' J' => Ia = I' ∧ Ja = J' ∧ (x = 0 ∨ x = 1)) Ra Sa) := by
  refine ct_in pn_X11 (Nat.le_of_ble_eq_true rfl) (fun X hX hT hIn => ?_)
  have hX : aK l0 X cX11_isBetter 7 RX11 (some .boolean) 2 0 0 := hX
  change WW X 0 [some (kR (some 49)), some (kI s), some (kI t), some (kI u), some (kI m), none, none] [] Ia Ja Ra Sa 0 0
  have qIa := RX_o hQ
  refine ww_iload_n hX (pc := 0) dX11_isBetter_0 rfl ?_
  refine ww_iload_n hX (pc := 1) dX11_isBetter_1 rfl ?_
  refine ww_iconst hX (pc := 2) (x := (-1)) dX11_isBetter_2 rfl ?_
  refine ww_ixor hX (pc := 3) dX11_isBetter_3 ?_
  refine ww_iand hX (pc := 4) dX11_isBetter_4 ?_
  refine sI1 hX (pc := 5) sX11_259 (c_X11_ones l0 ) (by decide) (Nat.le_refl 0) (Nat.le_refl 0) (Nat.le_of_ble_eq_true rfl) dX11_isBetter_5 (fun x_5 I_5 J_5 h_5 => ?_)
  obtain ⟨rfl, rfl, h_5⟩ := h_5
  refine ww_iload_n hX (pc := 8) dX11_isBetter_8 rfl ?_
  refine ww_iload_n hX (pc := 9) dX11_isBetter_9 rfl ?_
  refine ww_iconst hX (pc := 10) (x := (-1)) dX11_isBetter_10 rfl ?_
  refine ww_ixor hX (pc := 11) dX11_isBetter_11 ?_
  refine ww_iand hX (pc := 12) dX11_isBetter_12 ?_
  refine sI1 hX (pc := 13) sX11_259 (c_X11_ones l0 ) (by decide) (Nat.le_refl 0) (Nat.le_refl 0) (Nat.le_of_ble_eq_true rfl) dX11_isBetter_13 (fun x_13 I_13 J_13 h_13 => ?_)
  obtain ⟨rfl, rfl, h_13⟩ := h_13
  refine ww_isub hX (pc := 16) dX11_isBetter_16 ?_
  refine ww_nmI (fun v_17 hv_17 => ?_)
  refine ww_istore hX (pc := 17) (lv' := [some (kR (some 49)), some (kI s), some (kI t), some (kI u), some (kI m), some (kI v_17), none]) dX11_isBetter_17 (by decide) rfl rfl ?_
  refine ww_iload hX (pc := 19) dX11_isBetter_19 rfl ?_
  refine ww_if_ne hX (pc := 21) (tgt := 35) dX11_isBetter_21 (by decide) (fun h_21 => ?_) (fun h_21 => ?_)
  · simp only [w32_mod] at h_21
    refine ww_iload hX (pc := 35) dX11_isBetter_35 rfl ?_
    refine ww_iconst hX (pc := 37) (x := 1) dX11_isBetter_37 rfl ?_
    refine ww_icmp_ne hX (pc := 38) (tgt := 68) dX11_isBetter_38 (by decide) (fun h_38 => ?_) (fun h_38 => ?_)
    · simp only [w32_mod] at h_38
      refine ww_iload hX (pc := 68) dX11_isBetter_68 rfl ?_
      refine ww_iconst hX (pc := 70) (x := 2) dX11_isBetter_70 rfl ?_
      refine ww_icmp_ne hX (pc := 71) (tgt := 115) dX11_isBetter_71 (by decide) (fun h_71 => ?_) (fun h_71 => ?_)
      · simp only [w32_mod] at h_71
        refine ww_aload_n hX (pc := 115) dX11_isBetter_115 rfl ?_
        refine ww_iload_n hX (pc := 116) dX11_isBetter_116 rfl ?_
        refine vI1 hX (pc := 117) sX11_274 (xs_49 hL) (c_X11_dark l0 hL hQ ) (by decide) (Nat.le_refl 0) (Nat.le_refl 0) (Nat.le_of_ble_eq_true rfl) dX11_isBetter_117 (fun x_117 I_117 J_117 h_117 => ?_)
        obtain ⟨rfl, rfl, h_117⟩ := h_117
        refine ww_iconst hX (pc := 120) (x := 1) dX11_isBetter_120 rfl ?_
        refine ww_iadd hX (pc := 121) dX11_isBetter_121 ?_
        refine ww_nmI (fun v_122 hv_122 => ?_)
        refine ww_istore hX (pc := 122) (lv' := [some (kR (some 49)), some (kI s), some (kI t), some (kI u), some (kI m), some (kI v_17), some (kI v_122)]) dX11_isBetter_122 (by decide) rfl rfl ?_
        refine ww_aload_n hX (pc := 124) dX11_isBetter_124 rfl ?_
        refine ww_getR hX (pc := 125) fX11_58 (by decide) (xs_49 hL) (xr_49_24 hL) dX11_isBetter_125 ?_
        refine ww_iload_n hX (pc := 128) dX11_isBetter_128 rfl ?_
        refine ww_lald hX (pc := 129) (xs_62 hL) (by decide) (by omega) (by omega) dX11_isBetter_129 ?_
        refine ww_aload_n hX (pc := 130) dX11_isBetter_130 rfl ?_
        refine ww_iload hX (pc := 131) dX11_isBetter_131 rfl ?_
        refine ww_aload_n hX (pc := 133) dX11_isBetter_133 rfl ?_
        refine ww_iload_n hX (pc := 134) dX11_isBetter_134 rfl ?_
        refine vI1 hX (pc := 135) sX11_274 (xs_49 hL) (c_X11_dark l0 hL hQ ) (by decide) (Nat.le_refl 0) (Nat.le_refl 0) (Nat.le_of_ble_eq_true rfl) dX11_isBetter_135 (fun x_135 I_135 J_135 h_135 => ?_)
        obtain ⟨rfl, rfl, h_135⟩ := h_135
        refine ww_isub hX (pc := 138) dX11_isBetter_138 ?_
        refine vJ1 hX (pc := 139) sX11_277 (xs_49 hL) (c_X11_power l0 hL hQ (by omega) (by omega)) (by decide) (Nat.le_refl 0) (Nat.le_refl 0) (Nat.le_of_ble_eq_true rfl) dX11_isBetter_139 (fun x_139 I_139 J_139 h_139 => ?_)
        obtain ⟨rfl, rfl, h_139⟩ := h_139
        refine ww_lmul hX (pc := 142) dX11_isBetter_142 ?_
        refine ww_aload_n hX (pc := 143) dX11_isBetter_143 rfl ?_
        refine ww_getR hX (pc := 144) fX11_58 (by decide) (xs_49 hL) (xr_49_24 hL) dX11_isBetter_144 ?_
        refine ww_iload_n hX (pc := 147) dX11_isBetter_147 rfl ?_
        refine ww_lald hX (pc := 148) (xs_62 hL) (by decide) (by omega) (by omega) dX11_isBetter_148 ?_
        refine ww_aload_n hX (pc := 149) dX11_isBetter_149 rfl ?_
        refine ww_iload hX (pc := 150) dX11_isBetter_150 rfl ?_
        refine ww_aload_n hX (pc := 152) dX11_isBetter_152 rfl ?_
        refine ww_iload_n hX (pc := 153) dX11_isBetter_153 rfl ?_
        refine vI1 hX (pc := 154) sX11_274 (xs_49 hL) (c_X11_dark l0 hL hQ ) (by decide) (Nat.le_refl 0) (Nat.le_refl 0) (Nat.le_of_ble_eq_true rfl) dX11_isBetter_154 (fun x_154 I_154 J_154 h_154 => ?_)
        obtain ⟨rfl, rfl, h_154⟩ := h_154
        refine ww_isub hX (pc := 157) dX11_isBetter_157 ?_
        refine vJ1 hX (pc := 158) sX11_277 (xs_49 hL) (c_X11_power l0 hL hQ (by omega) (by omega)) (by decide) (Nat.le_refl 0) (Nat.le_refl 0) (Nat.le_of_ble_eq_true rfl) dX11_isBetter_158 (fun x_158 I_158 J_158 h_158 => ?_)
        obtain ⟨rfl, rfl, h_158⟩ := h_158
        refine ww_lmul hX (pc := 161) dX11_isBetter_161 ?_
        refine ww_lcmp hX (pc := 162) dX11_isBetter_162 ?_
        refine ww_if_le hX (pc := 163) (tgt := 170) dX11_isBetter_163 (by decide) (fun h_163 => ?_) (fun h_163 => ?_)
        · simp only [w32_mod] at h_163
          refine ww_iconst hX (pc := 170) (x := 0) dX11_isBetter_170 rfl ?_
          refine rZ hX (pc := 171) hT (Nat.le_refl 0) (Nat.le_refl 0) dX11_isBetter_171 (by decide) ?_
          exact ⟨rfl, rfl, by omega⟩
        · simp only [w32_mod] at h_163
          refine ww_iconst hX (pc := 166) (x := 1) dX11_isBetter_166 rfl ?_
          refine ww_goto hX (pc := 167) (tgt := 171) dX11_isBetter_167 (by decide) ?_
          refine rZ hX (pc := 171) hT (Nat.le_refl 0) (Nat.le_refl 0) dX11_isBetter_171 (by decide) ?_
          exact ⟨rfl, rfl, by omega⟩
      · simp only [w32_mod] at h_71
        refine ww_aload_n hX (pc := 74) dX11_isBetter_74 rfl ?_
        refine ww_getR hX (pc := 75) fX11_55 (by decide) (xs_49 hL) (xr_49_23 hL) dX11_isBetter_75 ?_
        refine ww_iload_n hX (pc := 78) dX11_isBetter_78 rfl ?_
        refine ww_iald hX (pc := 79) (xs_61 hL) (by decide) (by omega) (by omega) dX11_isBetter_79 ?_
        refine ww_aload_n hX (pc := 80) dX11_isBetter_80 rfl ?_
        refine ww_getR hX (pc := 81) fX11_55 (by decide) (xs_49 hL) (xr_49_23 hL) dX11_isBetter_81 ?_
        refine ww_iload_n hX (pc := 84) dX11_isBetter_84 rfl ?_
        refine ww_iald hX (pc := 85) (xs_61 hL) (by decide) (by omega) (by omega) dX11_isBetter_85 ?_
        refine ww_icmp_gt hX (pc := 86) (tgt := 109) dX11_isBetter_86 (by decide) (fun h_86 => ?_) (fun h_86 => ?_)
        · simp only [w32_mod] at h_86
          refine ww_iconst hX (pc := 109) (x := 1) dX11_isBetter_109 rfl ?_
          refine ww_goto hX (pc := 110) (tgt := 114) dX11_isBetter_110 (by decide) ?_
          refine rZ hX (pc := 114) hT (Nat.le_refl 0) (Nat.le_refl 0) dX11_isBetter_114 (by decide) ?_
          exact ⟨rfl, rfl, by omega⟩
        · simp only [w32_mod] at h_86
          refine ww_aload_n hX (pc := 89) dX11_isBetter_89 rfl ?_
          refine ww_getR hX (pc := 90) fX11_55 (by decide) (xs_49 hL) (xr_49_23 hL) dX11_isBetter_90 ?_
          refine ww_iload_n hX (pc := 93) dX11_isBetter_93 rfl ?_
          refine ww_iald hX (pc := 94) (xs_61 hL) (by decide) (by omega) (by omega) dX11_isBetter_94 ?_
          refine ww_aload_n hX (pc := 95) dX11_isBetter_95 rfl ?_
          refine ww_getR hX (pc := 96) fX11_55 (by decide) (xs_49 hL) (xr_49_23 hL) dX11_isBetter_96 ?_
          refine ww_iload_n hX (pc := 99) dX11_isBetter_99 rfl ?_
          refine ww_iald hX (pc := 100) (xs_61 hL) (by decide) (by omega) (by omega) dX11_isBetter_100 ?_
          refine ww_icmp_ne hX (pc := 101) (tgt := 113) dX11_isBetter_101 (by decide) (fun h_101 => ?_) (fun h_101 => ?_)
          · simp only [w32_mod] at h_101
            refine ww_iconst hX (pc := 113) (x := 0) dX11_isBetter_113 rfl ?_
            refine rZ hX (pc := 114) hT (Nat.le_refl 0) (Nat.le_refl 0) dX11_isBetter_114 (by decide) ?_
            exact ⟨rfl, rfl, by omega⟩
          · simp only [w32_mod] at h_101
            refine ww_iload hX (pc := 104) dX11_isBetter_104 rfl ?_
            refine ww_if_ge hX (pc := 106) (tgt := 113) dX11_isBetter_106 (by decide) (fun h_106 => ?_) (fun h_106 => ?_)
            · simp only [w32_mod] at h_106
              refine ww_iconst hX (pc := 113) (x := 0) dX11_isBetter_113 rfl ?_
              refine rZ hX (pc := 114) hT (Nat.le_refl 0) (Nat.le_refl 0) dX11_isBetter_114 (by decide) ?_
              exact ⟨rfl, rfl, by omega⟩
            · simp only [w32_mod] at h_106
              refine ww_iconst hX (pc := 109) (x := 1) dX11_isBetter_109 rfl ?_
              refine ww_goto hX (pc := 110) (tgt := 114) dX11_isBetter_110 (by decide) ?_
              refine rZ hX (pc := 114) hT (Nat.le_refl 0) (Nat.le_refl 0) dX11_isBetter_114 (by decide) ?_
              exact ⟨rfl, rfl, by omega⟩
    · simp only [w32_mod] at h_38
      refine ww_aload_n hX (pc := 41) dX11_isBetter_41 rfl ?_
      refine ww_iload_n hX (pc := 42) dX11_isBetter_42 rfl ?_
      refine ww_iload_n hX (pc := 43) dX11_isBetter_43 rfl ?_
      refine ww_iconst hX (pc := 44) (x := (-1)) dX11_isBetter_44 rfl ?_
      refine ww_ixor hX (pc := 45) dX11_isBetter_45 ?_
      refine ww_iand hX (pc := 46) dX11_isBetter_46 ?_
      refine vI1 hX (pc := 47) sX11_301 (xs_49 hL) (c_X11_oilOf l0 hL hQ ) (by decide) (Nat.le_refl 0) (Nat.le_refl 0) (Nat.le_of_ble_eq_true rfl) dX11_isBetter_47 (fun x_47 I_47 J_47 h_47 => ?_)
      obtain ⟨rfl, rfl, h_47⟩ := h_47
      refine ww_aload_n hX (pc := 50) dX11_isBetter_50 rfl ?_
      refine ww_iload_n hX (pc := 51) dX11_isBetter_51 rfl ?_
      refine ww_iload_n hX (pc := 52) dX11_isBetter_52 rfl ?_
      refine ww_iconst hX (pc := 53) (x := (-1)) dX11_isBetter_53 rfl ?_
      refine ww_ixor hX (pc := 54) dX11_isBetter_54 ?_
      refine ww_iand hX (pc := 55) dX11_isBetter_55 ?_
      refine vI1 hX (pc := 56) sX11_301 (xs_49 hL) (c_X11_oilOf l0 hL hQ ) (by decide) (Nat.le_refl 0) (Nat.le_refl 0) (Nat.le_of_ble_eq_true rfl) dX11_isBetter_56 (fun x_56 I_56 J_56 h_56 => ?_)
      obtain ⟨rfl, rfl, h_56⟩ := h_56
      refine ww_icmp_ge hX (pc := 59) (tgt := 66) dX11_isBetter_59 (by decide) (fun h_59 => ?_) (fun h_59 => ?_)
      · simp only [w32_mod] at h_59
        refine ww_iconst hX (pc := 66) (x := 0) dX11_isBetter_66 rfl ?_
        refine rZ hX (pc := 67) hT (Nat.le_refl 0) (Nat.le_refl 0) dX11_isBetter_67 (by decide) ?_
        exact ⟨rfl, rfl, by omega⟩
      · simp only [w32_mod] at h_59
        refine ww_iconst hX (pc := 62) (x := 1) dX11_isBetter_62 rfl ?_
        refine ww_goto hX (pc := 63) (tgt := 67) dX11_isBetter_63 (by decide) ?_
        refine rZ hX (pc := 67) hT (Nat.le_refl 0) (Nat.le_refl 0) dX11_isBetter_67 (by decide) ?_
        exact ⟨rfl, rfl, by omega⟩
  · simp only [w32_mod] at h_21
    refine ww_iload hX (pc := 24) dX11_isBetter_24 rfl ?_
    refine ww_if_ge hX (pc := 26) (tgt := 33) dX11_isBetter_26 (by decide) (fun h_26 => ?_) (fun h_26 => ?_)
    · simp only [w32_mod] at h_26
      refine ww_iconst hX (pc := 33) (x := 0) dX11_isBetter_33 rfl ?_
      refine rZ hX (pc := 34) hT (Nat.le_refl 0) (Nat.le_refl 0) dX11_isBetter_34 (by decide) ?_
      exact ⟨rfl, rfl, by omega⟩
    · simp only [w32_mod] at h_26
      refine ww_iconst hX (pc := 29) (x := 1) dX11_isBetter_29 rfl ?_
      refine ww_goto hX (pc := 30) (tgt := 34) dX11_isBetter_30 (by decide) ?_
      refine rZ hX (pc := 34) hT (Nat.le_refl 0) (Nat.le_refl 0) dX11_isBetter_34 (by decide) ?_
      exact ⟨rfl, rfl, by omega⟩
set_option maxHeartbeats 4000000 in
set_option maxRecDepth 20000 in
theorem c_X11_nextOf (l0 : Launch) {Ia Ja : aI1} {Ra : aR1} {Sa : aS1} (hL : LY Ra Sa) (hQ : RX Ia) {a b m : Int} (ha0 : 0 ≤ a) (ha1 : a ≤ 255)  : CT l0 3 0 0 mX11_nextOf [kR (some 49), kI a, kI b, kI m] Ia Ja Ra Sa (cI (fun x I' J' => Ia = I' ∧ Ja = J' ∧ (x = -1 ∨ (a ≤ x ∧ x ≤ FU (Ia 51 304) ∧ w32 (Ia 51 x.toNat) = w32 b ∧ canC a x (Ia 51 306)))) Ra Sa) := by
  refine ct_in pn_X11 (Nat.le_of_ble_eq_true rfl) (fun X hX hT hIn => ?_)
  have hX : aK l0 X cX11_nextOf 6 RX11 (some .int) 3 0 0 := hX
  change WW X 0 [some (kR (some 49)), some (kI a), some (kI b), some (kI m), none, none] [] Ia Ja Ra Sa 0 0
  have qIa := RX_o hQ
  refine ww_iconst hX (pc := 0) (x := (-1)) dX11_nextOf_0 rfl ?_
  refine ww_istore hX (pc := 1) (lv' := [some (kR (some 49)), some (kI a), some (kI b), some (kI m), some (kI (-1)), none]) dX11_nextOf_1 (by decide) rfl rfl ?_
  refine ww_iload_n hX (pc := 3) dX11_nextOf_3 rfl ?_
  refine ww_istore hX (pc := 4) (lv' := [some (kR (some 49)), some (kI a), some (kI b), some (kI m), some (kI (-1)), some (kI a)]) dX11_nextOf_4 (by decide) rfl rfl ?_
  have hl_6 : ∀ (n_6 : Nat) (bs : Int) (t : Int), (256 - t).toNat = n_6 → ((a ≤ t ∧ t ≤ 256 ∧ (bs = -1 ∨ (a ≤ bs ∧ bs ≤ FU (Ia 51 304) ∧ w32 (Ia 51 bs.toNat) = w32 b ∧ canC a bs (Ia 51 306))))) → WW X 6 [some (kR (some 49)), some (kI a), some (kI b), some (kI m), some (kI bs), some (kI t)] [] Ia Ja Ra Sa 0 0 := by
    intro n_6
    induction n_6 using Nat.strongRecOn with
    | ind n_6 ih_6 =>
      intro bs t hm_6 hv_6
      have hq_6 := Sh0_i hm_6
      clear hm_6
      have hv := hv_6
      refine ww_iload hX (pc := 6) dX11_nextOf_6 rfl ?_
      refine ww_aload_n hX (pc := 8) dX11_nextOf_8 rfl ?_
      refine vI0 hX (pc := 9) sX11_112 (xs_49 hL) (c_X11_states l0 hL hQ ) (by decide) (Nat.le_refl 0) (Nat.le_refl 0) (Nat.le_of_ble_eq_true rfl) dX11_nextOf_9 (fun x_9 I_9 J_9 h_9 => ?_)
      obtain ⟨rfl, rfl, h_9⟩ := h_9
      refine ww_icmp_ge hX (pc := 12) (tgt := 72) dX11_nextOf_12 (by decide) (fun h_12 => ?_) (fun h_12 => ?_)
      · simp only [w32_mod] at h_12
        refine ww_iload hX (pc := 72) dX11_nextOf_72 rfl ?_
        refine rI hX (pc := 74) hT (Nat.le_refl 0) (Nat.le_refl 0) dX11_nextOf_74 ?_
        exact ⟨rfl, rfl, hv.2.2⟩
      · simp only [w32_mod] at h_12
        refine ww_aload_n hX (pc := 15) dX11_nextOf_15 rfl ?_
        refine ww_iload hX (pc := 16) dX11_nextOf_16 rfl ?_
        refine vI1 hX (pc := 18) sX11_126 (xs_49 hL) (c_X11_readOf l0 hL hQ (by omega) (by omega)) (by decide) (Nat.le_refl 0) (Nat.le_refl 0) (Nat.le_of_ble_eq_true rfl) dX11_nextOf_18 (fun x_18 I_18 J_18 h_18 => ?_)
        obtain ⟨rfl, rfl, h_18⟩ := h_18
        refine ww_iload_n hX (pc := 21) dX11_nextOf_21 rfl ?_
        refine ww_icmp_ne hX (pc := 22) (tgt := 66) dX11_nextOf_22 (by decide) (fun h_22 => ?_) (fun h_22 => ?_)
        · simp only [w32_mod] at h_22
          refine ww_iinc hX (pc := 66) (lv' := [some (kR (some 49)), some (kI a), some (kI b), some (kI m), some (kI bs), some (kI (t + 1))]) dX11_nextOf_66 rfl (by decide) rfl rfl ?_
          refine ww_goto hX (pc := 69) (tgt := 6) dX11_nextOf_69 (by decide) ?_
          exact ih_6 _ (by have hm9 := Sh0_e hq_6; omega) bs (t + 1) rfl (⟨by omega, by omega, hv.2.2⟩)
        · simp only [w32_mod] at h_22
          have hrw : w32 (Ia 51 t.toNat) = w32 b := by simp only [w32_mod]; omega
          refine ww_aload_n hX (pc := 25) dX11_nextOf_25 rfl ?_
          refine ww_iload_n hX (pc := 26) dX11_nextOf_26 rfl ?_
          refine ww_iload hX (pc := 27) dX11_nextOf_27 rfl ?_
          refine ww_aload_n hX (pc := 29) dX11_nextOf_29 rfl ?_
          refine ww_getR hX (pc := 30) fX11_20 (by decide) (xs_49 hL) (xr_49_3 hL) dX11_nextOf_30 ?_
          refine ww_sipush hX (pc := 33) (x := 306) dX11_nextOf_33 (by decide) ?_
          refine ww_iald hX (pc := 36) (xs_51 hL) (by decide) (by omega) (by omega) dX11_nextOf_36 ?_
          refine ww_toI (b := Ia 51 306) rfl ?_
          refine vI3 hX (pc := 37) sX11_271 (xs_49 hL) (c_X11_canCome l0 hL hQ ) (by decide) (Nat.le_refl 0) (Nat.le_refl 0) (Nat.le_of_ble_eq_true rfl) dX11_nextOf_37 (fun x_37 I_37 J_37 h_37 => ?_)
          obtain ⟨rfl, rfl, h_37⟩ := h_37
          refine ww_if_eq hX (pc := 40) (tgt := 66) dX11_nextOf_40 (by decide) (fun h_40 => ?_) (fun h_40 => ?_)
          · simp only [w32_mod] at h_40
            refine ww_iinc hX (pc := 66) (lv' := [some (kR (some 49)), some (kI a), some (kI b), some (kI m), some (kI bs), some (kI (t + 1))]) dX11_nextOf_66 rfl (by decide) rfl rfl ?_
            refine ww_goto hX (pc := 69) (tgt := 6) dX11_nextOf_69 (by decide) ?_
            exact ih_6 _ (by have hm9 := Sh0_e hq_6; omega) bs (t + 1) rfl (⟨by omega, by omega, hv.2.2⟩)
          · simp only [w32_mod] at h_40
            have hcc : canC a t (Ia 51 306) := h_37.2.mp (by omega)
            refine ww_iload hX (pc := 43) dX11_nextOf_43 rfl ?_
            refine ww_iconst hX (pc := 45) (x := (-1)) dX11_nextOf_45 rfl ?_
            refine ww_icmp_eq hX (pc := 46) (tgt := 62) dX11_nextOf_46 (by decide) (fun h_46 => ?_) (fun h_46 => ?_)
            · simp only [w32_mod] at h_46
              refine ww_iload hX (pc := 62) dX11_nextOf_62 rfl ?_
              refine ww_istore hX (pc := 64) (lv' := [some (kR (some 49)), some (kI a), some (kI b), some (kI m), some (kI t), some (kI t)]) dX11_nextOf_64 (by decide) rfl rfl ?_
              refine ww_iinc hX (pc := 66) (lv' := [some (kR (some 49)), some (kI a), some (kI b), some (kI m), some (kI t), some (kI (t + 1))]) dX11_nextOf_66 rfl (by decide) rfl rfl ?_
              refine ww_goto hX (pc := 69) (tgt := 6) dX11_nextOf_69 (by decide) ?_
              exact ih_6 _ (by have hm9 := Sh0_e hq_6; omega) t (t + 1) rfl (⟨by omega, by omega, Or.inr ⟨by omega, by omega, hrw, hcc⟩⟩)
            · simp only [w32_mod] at h_46
              refine ww_aload_n hX (pc := 49) dX11_nextOf_49 rfl ?_
              refine ww_iload_n hX (pc := 50) dX11_nextOf_50 rfl ?_
              refine ww_iload hX (pc := 51) dX11_nextOf_51 rfl ?_
              refine ww_iload hX (pc := 53) dX11_nextOf_53 rfl ?_
              refine ww_iload_n hX (pc := 55) dX11_nextOf_55 rfl ?_
              refine vI4 hX (pc := 56) sX11_304 (xs_49 hL) (c_X11_isBetter l0 hL hQ (by omega) (by omega) (by omega) (by omega)) (by decide) (Nat.le_refl 0) (Nat.le_refl 0) (Nat.le_of_ble_eq_true rfl) dX11_nextOf_56 (fun x_56 I_56 J_56 h_56 => ?_)
              obtain ⟨rfl, rfl, h_56⟩ := h_56
              refine ww_if_eq hX (pc := 59) (tgt := 66) dX11_nextOf_59 (by decide) (fun h_59 => ?_) (fun h_59 => ?_)
              · simp only [w32_mod] at h_59
                refine ww_iinc hX (pc := 66) (lv' := [some (kR (some 49)), some (kI a), some (kI b), some (kI m), some (kI bs), some (kI (t + 1))]) dX11_nextOf_66 rfl (by decide) rfl rfl ?_
                refine ww_goto hX (pc := 69) (tgt := 6) dX11_nextOf_69 (by decide) ?_
                exact ih_6 _ (by have hm9 := Sh0_e hq_6; omega) bs (t + 1) rfl (⟨by omega, by omega, hv.2.2⟩)
              · simp only [w32_mod] at h_59
                refine ww_iload hX (pc := 62) dX11_nextOf_62 rfl ?_
                refine ww_istore hX (pc := 64) (lv' := [some (kR (some 49)), some (kI a), some (kI b), some (kI m), some (kI t), some (kI t)]) dX11_nextOf_64 (by decide) rfl rfl ?_
                refine ww_iinc hX (pc := 66) (lv' := [some (kR (some 49)), some (kI a), some (kI b), some (kI m), some (kI t), some (kI (t + 1))]) dX11_nextOf_66 rfl (by decide) rfl rfl ?_
                refine ww_goto hX (pc := 69) (tgt := 6) dX11_nextOf_69 (by decide) ?_
                exact ih_6 _ (by have hm9 := Sh0_e hq_6; omega) t (t + 1) rfl (⟨by omega, by omega, Or.inr ⟨by omega, by omega, hrw, hcc⟩⟩)
  exact hl_6 _ (-1) a rfl (⟨by omega, by omega, Or.inl rfl⟩)
set_option maxHeartbeats 4000000 in
set_option maxRecDepth 20000 in
theorem c_X11_gcd (l0 : Launch) {Ia Ja : aI1} {Ra : aR1} {Sa : aS1} {a b : Int}  : CT l0 0 0 0 mX11_gcd [kL a, kL b] Ia Ja Ra Sa (cJ (fun x I' J' => Ia = I' ∧ Ja = J' ∧ (¬ w64 a = 0 → ¬ w64 x = 0)) Ra Sa) := by
  refine ct_in pn_X11 (Nat.le_of_ble_eq_true rfl) (fun X hX hT hIn => ?_)
  have hX : aK l0 X cX11_gcd 10 RX11 (some .long) 0 0 0 := hX
  change WW X 0 [some (kL a), none, some (kL b), none, none, none, none, none, none, none] [] Ia Ja Ra Sa 0 0
  refine ww_lload_n hX (pc := 0) dX11_gcd_0 rfl ?_
  refine ww_lstore hX (pc := 1) (lv' := [some (kL a), none, some (kL b), none, some (kL a), none, none, none, none, none]) dX11_gcd_1 (by decide) rfl rfl ?_
  refine ww_lload_n hX (pc := 3) dX11_gcd_3 rfl ?_
  refine ww_lstore hX (pc := 4) (lv' := [some (kL a), none, some (kL b), none, some (kL a), none, some (kL b), none, none, none]) dX11_gcd_4 (by decide) rfl rfl ?_
  have hl_6 : ∀ (n_6 : Nat) (xx : Int) (yy : Int), (w64 yy).toNat = n_6 → ((¬ w64 a = 0 → ¬ w64 xx = 0)) → WW X 6 [some (kL a), none, some (kL b), none, some (kL xx), none, some (kL yy), none, none, none] [] Ia Ja Ra Sa 0 0 := by
    intro n_6
    induction n_6 using Nat.strongRecOn with
    | ind n_6 ih_6 =>
      intro xx yy hm_6 hv_6
      have hq_6 := Sh0_i hm_6
      clear hm_6
      have hv := hv_6
      refine ww_lload hX (pc := 6) dX11_gcd_6 rfl ?_
      refine ww_lconst hX (pc := 8) (x := 0) dX11_gcd_8 (by decide) ?_
      refine ww_lcmp hX (pc := 9) dX11_gcd_9 ?_
      refine ww_if_le hX (pc := 10) (tgt := 31) dX11_gcd_10 (by decide) (fun h_10 => ?_) (fun h_10 => ?_)
      · simp only [w32_mod] at h_10
        refine ww_lload hX (pc := 31) dX11_gcd_31 rfl ?_
        refine rJ hX (pc := 33) hT (Nat.le_refl 0) (Nat.le_refl 0) dX11_gcd_33 ?_
        exact ⟨rfl, rfl, hv⟩
      · simp only [w32_mod] at h_10
        have hyp : 0 < w64 yy := by have h9 := l_cmp_v yy 0; rw [show w64 0 = 0 from rfl] at h9; omega
        refine ww_lload hX (pc := 13) dX11_gcd_13 rfl ?_
        refine ww_lload hX (pc := 15) dX11_gcd_15 rfl ?_
        refine ww_lrem hX (pc := 17) dX11_gcd_17 (by omega) ?_
        refine ww_nmL (fun v_18 hv_18 => ?_)
        refine ww_lstore hX (pc := 18) (lv' := [some (kL a), none, some (kL b), none, some (kL xx), none, some (kL yy), none, some (kL v_18), none]) dX11_gcd_18 (by decide) rfl rfl ?_
        have hlr := l_rem_b xx hyp
        have hw : w64 v_18 = v_18 := by rw [hv_18]; exact w64_id (by have := w64_r yy; omega) (by have := w64_r yy; omega)
        refine ww_lload hX (pc := 20) dX11_gcd_20 rfl ?_
        refine ww_lstore hX (pc := 22) (lv' := [some (kL a), none, some (kL b), none, some (kL yy), none, some (kL yy), none, some (kL v_18), none]) dX11_gcd_22 (by decide) rfl rfl ?_
        refine ww_lload hX (pc := 24) dX11_gcd_24 rfl ?_
        refine ww_lstore hX (pc := 26) (lv' := [some (kL a), none, some (kL b), none, some (kL yy), none, some (kL v_18), none, some (kL v_18), none]) dX11_gcd_26 (by decide) rfl rfl ?_
        refine ww_goto hX (pc := 28) (tgt := 6) dX11_gcd_28 (by decide) ?_
        refine ww_sub [some (kL a), none, some (kL b), none, some (kL yy), none, some (kL v_18), none, none, none] (aLe_s (aLe_n (aLe_s (aLe_n (aLe_s (aLe_n (aLe_s (aLe_n (aLe_n (aLe_n aLe_0)))))))))) ?_
        exact ih_6 _ (by have hm9 := Sh0_e hq_6; omega) yy v_18 rfl (fun _ => by omega)
  exact hl_6 _ a b rfl (fun h => h)
end
section
theorem mul_small {p k : Int} (hp : 1 ≤ p ∧ p ≤ 5764801) (hk : 1 ≤ k ∧ k ≤ 8) : 1 ≤ p * k ∧ p * k ≤ 46118408 := by
  rcases (show k = 1 ∨ k = 2 ∨ k = 3 ∨ k = 4 ∨ k = 5 ∨ k = 6 ∨ k = 7 ∨ k = 8 by omega) with rfl | rfl | rfl | rfl | rfl | rfl | rfl | rfl <;> omega
theorem canC_bit {s t : Nat} {b : Int} (h : canC (s : Int) (t : Int) b) (i : Nat) (hi : i < 32) (hs : s.testBit i = true) : t.testBit i = true := by
  have h1 : Int32.ofInt (s : Int) &&& (Int32.ofInt (t : Int) ^^^ Int32.ofInt (-1)) = 0 := by
    have h2 := h.1
    unfold i_and i_xor w32 at h2
    rw [n_of, n_of] at h2
    exact Int32.toInt_inj.1 h2
  have h3 := congrArg Int32.toBitVec h1
  rw [o_nat, o_nat] at h3
  have h4 : BitVec.ofNat 32 s &&& (BitVec.ofNat 32 t ^^^ BitVec.allOnes 32) = 0#32 := h3
  have h5 := congrArg (fun v => v.getLsbD i) h4
  simp only [BitVec.getLsbD_and, BitVec.getLsbD_xor, BitVec.getLsbD_allOnes, BitVec.getLsbD_ofNat, BitVec.getLsbD_zero, hi, decide_true, hs, Bool.true_and, Bool.xor_true] at h5
  simpa using h5
/-- how many of the lowest eight bits are set -/
def pcN (n : Nat) : Nat := n % 2 + n / 2 % 2 + n / 4 % 2 + n / 8 % 2 + n / 16 % 2 + n / 32 % 2 + n / 64 % 2 + n / 128 % 2
def pc8 (x : Int) : Int := (pcN x.toNat : Nat)
theorem dec8 : ∀ n : Nat, n < 256 → n = n % 2 + 2 * (n / 2 % 2) + 4 * (n / 4 % 2) + 8 * (n / 8 % 2) + 16 * (n / 16 % 2) + 32 * (n / 32 % 2) + 64 * (n / 64 % 2) + 128 * (n / 128 % 2) := by decide +kernel
theorem bit_le {s t i : Nat} (h : s.testBit i = true → t.testBit i = true) : s / 2 ^ i % 2 ≤ t / 2 ^ i % 2 := by
  rw [Nat.testBit_eq_decide_div_mod_eq, Nat.testBit_eq_decide_div_mod_eq] at h
  simp only [decide_eq_true_eq] at h
  have := Nat.mod_lt (s / 2 ^ i) (show 0 < 2 by decide)
  by_cases g : s / 2 ^ i % 2 = 1
  · have := h g; omega
  · omega
theorem lin8 {a0 a1 a2 a3 a4 a5 a6 a7 b0 b1 b2 b3 b4 b5 b6 b7 n m : Nat} (h0 : a0 ≤ b0) (h1 : a1 ≤ b1) (h2 : a2 ≤ b2) (h3 : a3 ≤ b3) (h4 : a4 ≤ b4) (h5 : a5 ≤ b5) (h6 : a6 ≤ b6) (h7 : a7 ≤ b7)
    (hn : n = a0 + 2 * a1 + 4 * a2 + 8 * a3 + 16 * a4 + 32 * a5 + 64 * a6 + 128 * a7) (hm : m = b0 + 2 * b1 + 4 * b2 + 8 * b3 + 16 * b4 + 32 * b5 + 64 * b6 + 128 * b7) (hne : n ≠ m) : a0 + a1 + a2 + a3 + a4 + a5 + a6 + a7 + 1 ≤ b0 + b1 + b2 + b3 + b4 + b5 + b6 + b7 := by
  refine Nat.not_lt.mp (fun hc => hne ?_)
  obtain rfl : a0 = b0 := by omega
  obtain rfl : a1 = b1 := by omega
  obtain rfl : a2 = b2 := by omega
  obtain rfl : a3 = b3 := by omega
  obtain rfl : a4 = b4 := by omega
  obtain rfl : a5 = b5 := by omega
  obtain rfl : a6 = b6 := by omega
  obtain rfl : a7 = b7 := by omega
  rw [hn, hm]
theorem sup_pc {s t b : Int} (hs0 : 0 ≤ s) (hs1 : s ≤ 255) (ht0 : 0 ≤ t) (ht1 : t ≤ 255) (h : canC s t b) (hne : s ≠ t) : pc8 s + 1 ≤ pc8 t := by
  obtain ⟨n, rfl⟩ := Int.eq_ofNat_of_zero_le hs0
  obtain ⟨m, rfl⟩ := Int.eq_ofNat_of_zero_le ht0
  have g : ∀ i, i < 32 → n / 2 ^ i % 2 ≤ m / 2 ^ i % 2 := fun i hi => bit_le (canC_bit h i hi)
  have g0 := g 0 (by decide)
  rw [Nat.pow_zero, Nat.div_one, Nat.div_one] at g0
  have := lin8 g0 (g 1 (by decide)) (g 2 (by decide)) (g 3 (by decide)) (g 4 (by decide)) (g 5 (by decide)) (g 6 (by decide)) (g 7 (by decide)) (dec8 n (by omega)) (dec8 m (by omega)) (fun e => hne (by rw [e]))
  unfold pc8
  rw [Int.toNat_natCast, Int.toNat_natCast]
  have h2 : pcN n + 1 ≤ pcN m := this
  omega
theorem pcN_r (n : Nat) : pcN n ≤ 8 := by
  have g : ∀ q : Nat, q % 2 ≤ 1 := fun q => by omega
  have h0 := g n
  have h1 := g (n / 2)
  have h2 := g (n / 4)
  have h3 := g (n / 8)
  have h4 := g (n / 16)
  have h5 := g (n / 32)
  have h6 := g (n / 64)
  have h7 := g (n / 128)
  unfold pcN
  generalize n % 2 = a0 at *
  generalize n / 2 % 2 = a1 at *
  generalize n / 4 % 2 = a2 at *
  generalize n / 8 % 2 = a3 at *
  generalize n / 16 % 2 = a4 at *
  generalize n / 32 % 2 = a5 at *
  generalize n / 64 % 2 = a6 at *
  generalize n / 128 % 2 = a7 at *
  omega
theorem RX_s {I : aI1} (h : RX I) : (1 ≤ I 51 304 ∧ I 51 304 ≤ 8) ∧ (2 ≤ I 51 305 ∧ I 51 305 ≤ 8) ∧ (1 ≤ FU (I 51 304) ∧ FU (I 51 304) ≤ 255) := by
  have hf := FU_r h.1.1.1 h.1.1.2
  exact ⟨h.1.1, h.1.2.1, hf.1, hf.2.1⟩
theorem pc8_r {s : Int} : 0 ≤ pc8 s ∧ pc8 s ≤ 8 := by
  have := pcN_r s.toNat
  unfold pc8
  omega
end
