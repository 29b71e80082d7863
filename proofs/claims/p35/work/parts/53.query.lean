set_option maxHeartbeats 4000000 in
set_option maxRecDepth 20000 in
theorem c_X11_readMany (l0 : Launch) {Ia Ja : aI1} {Ra : aR1} {Sa : aS1} (hL : LY Ra Sa) (hQ : RX Ia)  : CT l0 1 0 0 mX11_readMany [kR (some 49)] Ia Ja Ra Sa (cI (fun x I' J' => Ia = I' ∧ Ja = J' ∧ True) Ra Sa) := by
  refine ct_in pn_X11 (Nat.le_of_ble_eq_true rfl) (fun X hX hT hIn => ?_)
  have hX : aK l0 X cX11_readMany 3 RX11 (some .int) 1 0 0 := hX
  change WW X 0 [some (kR (some 49)), none, none] [] Ia Ja Ra Sa 0 0
  have qIa := RX_o hQ
  refine ww_iconst hX (pc := 0) (x := 0) dX11_readMany_0 rfl ?_
  refine ww_istore_n hX (pc := 1) (lv' := [some (kR (some 49)), some (kI 0), none]) dX11_readMany_1 (by decide) rfl rfl ?_
  refine ww_iconst hX (pc := 2) (x := 0) dX11_readMany_2 rfl ?_
  refine ww_istore_n hX (pc := 3) (lv' := [some (kR (some 49)), some (kI 0), some (kI 0)]) dX11_readMany_3 (by decide) rfl rfl ?_
  have hl_4 : ∀ (n_4 : Nat) (n : Int) (i : Int), (256 - i).toNat = n_4 → ((0 ≤ i ∧ i ≤ 256)) → WW X 4 [some (kR (some 49)), some (kI n), some (kI i)] [] Ia Ja Ra Sa 0 0 := by
    intro n_4
    induction n_4 using Nat.strongRecOn with
    | ind n_4 ih_4 =>
      intro n i hm_4 hv_4
      have hq_4 := Sh0_i hm_4
      clear hm_4
      have hv := hv_4
      refine ww_iload_n hX (pc := 4) dX11_readMany_4 rfl ?_
      refine ww_aload_n hX (pc := 5) dX11_readMany_5 rfl ?_
      refine vI0 hX (pc := 6) sX11_112 (xs_49 hL) (c_X11_states l0 hL hQ ) (by decide) (Nat.le_refl 0) (Nat.le_refl 0) (Nat.le_of_ble_eq_true rfl) dX11_readMany_6 (fun x_6 I_6 J_6 h_6 => ?_)
      obtain ⟨rfl, rfl, h_6⟩ := h_6
      refine ww_icmp_ge hX (pc := 9) (tgt := 35) dX11_readMany_9 (by decide) (fun h_9 => ?_) (fun h_9 => ?_)
      · simp only [w32_mod] at h_9
        refine ww_iload_n hX (pc := 35) dX11_readMany_35 rfl ?_
        refine rI hX (pc := 36) hT (Nat.le_refl 0) (Nat.le_refl 0) dX11_readMany_36 ?_
        exact ⟨rfl, rfl, trivial⟩
      · simp only [w32_mod] at h_9
        refine ww_iload_n hX (pc := 12) dX11_readMany_12 rfl ?_
        refine ww_aload_n hX (pc := 13) dX11_readMany_13 rfl ?_
        refine ww_iload_n hX (pc := 14) dX11_readMany_14 rfl ?_
        refine vI1 hX (pc := 15) sX11_126 (xs_49 hL) (c_X11_readOf l0 hL hQ (by omega) (by omega)) (by decide) (Nat.le_refl 0) (Nat.le_refl 0) (Nat.le_of_ble_eq_true rfl) dX11_readMany_15 (fun x_15 I_15 J_15 h_15 => ?_)
        obtain ⟨rfl, rfl, h_15⟩ := h_15
        refine ww_iconst hX (pc := 18) (x := (-1)) dX11_readMany_18 rfl ?_
        refine ww_icmp_ne hX (pc := 19) (tgt := 26) dX11_readMany_19 (by decide) (fun h_19 => ?_) (fun h_19 => ?_)
        · simp only [w32_mod] at h_19
          refine ww_iconst hX (pc := 26) (x := 1) dX11_readMany_26 rfl ?_
          refine ww_iadd hX (pc := 27) dX11_readMany_27 ?_
          refine ww_nmI (fun v_28 hv_28 => ?_)
          refine ww_istore_n hX (pc := 28) (lv' := [some (kR (some 49)), some (kI v_28), some (kI i)]) dX11_readMany_28 (by decide) rfl rfl ?_
          refine ww_iinc hX (pc := 29) (lv' := [some (kR (some 49)), some (kI v_28), some (kI (i + 1))]) dX11_readMany_29 rfl (by decide) rfl rfl ?_
          refine ww_goto hX (pc := 32) (tgt := 4) dX11_readMany_32 (by decide) ?_
          exact ih_4 _ (by have hm9 := Sh0_e hq_4; omega) v_28 (i + 1) rfl (by omega)
        · simp only [w32_mod] at h_19
          refine ww_iconst hX (pc := 22) (x := 0) dX11_readMany_22 rfl ?_
          refine ww_goto hX (pc := 23) (tgt := 27) dX11_readMany_23 (by decide) ?_
          refine ww_iadd hX (pc := 27) dX11_readMany_27 ?_
          refine ww_nmI (fun v_28 hv_28 => ?_)
          refine ww_istore_n hX (pc := 28) (lv' := [some (kR (some 49)), some (kI v_28), some (kI i)]) dX11_readMany_28 (by decide) rfl rfl ?_
          refine ww_iinc hX (pc := 29) (lv' := [some (kR (some 49)), some (kI v_28), some (kI (i + 1))]) dX11_readMany_29 rfl (by decide) rfl rfl ?_
          refine ww_goto hX (pc := 32) (tgt := 4) dX11_readMany_32 (by decide) ?_
          exact ih_4 _ (by have hm9 := Sh0_e hq_4; omega) v_28 (i + 1) rfl (by omega)
  exact hl_4 _ 0 0 rfl (by omega)
set_option maxHeartbeats 4000000 in
set_option maxRecDepth 20000 in
theorem c_X11_of (l0 : Launch) {Ia Ja : aI1} {Ra : aR1} {Sa : aS1} (hL : LY Ra Sa) (hQ : RX Ia) {a : Int} (ha0 : -2147483648 ≤ a) (ha1 : a < 2147483648)  : CT l0 2 0 0 mX11_of [kR (some 49), kI a] Ia Ja Ra Sa (cI (fun x I' J' => Ia = I' ∧ Ja = J' ∧ True) Ra Sa) := by
  refine ct_in pn_X11 (Nat.le_of_ble_eq_true rfl) (fun X hX hT hIn => ?_)
  have hX : aK l0 X cX11_of 2 RX11 (some .int) 2 0 0 := hX
  change WW X 0 [some (kR (some 49)), some (kI a)] [] Ia Ja Ra Sa 0 0
  have qIa := RX_o hQ
  refine ww_aload_n hX (pc := 0) dX11_of_0 rfl ?_
  refine ww_iload_n hX (pc := 1) dX11_of_1 rfl ?_
  refine vI1 hX (pc := 2) sX11_120 (xs_49 hL) (c_X11_isState l0 hL hQ (by omega) (by omega)) (by decide) (Nat.le_refl 0) (Nat.le_refl 0) (Nat.le_of_ble_eq_true rfl) dX11_of_2 (fun x_2 I_2 J_2 h_2 => ?_)
  obtain ⟨rfl, rfl, h_2⟩ := h_2
  refine ww_if_eq hX (pc := 5) (tgt := 16) dX11_of_5 (by decide) (fun h_5 => ?_) (fun h_5 => ?_)
  · simp only [w32_mod] at h_5
    refine ww_iconst hX (pc := 16) (x := (-1)) dX11_of_16 rfl ?_
    refine rI hX (pc := 17) hT (Nat.le_refl 0) (Nat.le_refl 0) dX11_of_17 ?_
    exact ⟨rfl, rfl, trivial⟩
  · simp only [w32_mod] at h_5
    have k_2 := h_2.2.mp (by omega)
    clear h_2
    refine ww_aload_n hX (pc := 8) dX11_of_8 rfl ?_
    refine ww_iload_n hX (pc := 9) dX11_of_9 rfl ?_
    refine vI1 hX (pc := 10) sX11_126 (xs_49 hL) (c_X11_readOf l0 hL hQ (by omega) (by omega)) (by decide) (Nat.le_refl 0) (Nat.le_refl 0) (Nat.le_of_ble_eq_true rfl) dX11_of_10 (fun x_10 I_10 J_10 h_10 => ?_)
    obtain ⟨rfl, rfl, h_10⟩ := h_10
    refine ww_goto hX (pc := 13) (tgt := 17) dX11_of_13 (by decide) ?_
    refine rI hX (pc := 17) hT (Nat.le_refl 0) (Nat.le_refl 0) dX11_of_17 ?_
    exact ⟨rfl, rfl, trivial⟩
set_option maxHeartbeats 4000000 in
set_option maxRecDepth 20000 in
theorem c_X11_fault (l0 : Launch) {Ia Ja : aI1} {Ra : aR1} {Sa : aS1} (hL : LY Ra Sa) (hQ : RX Ia)  : CT l0 0 0 0 mX11_fault [kR (some 49)] Ia Ja Ra Sa (cI (fun x I' J' => Ia = I' ∧ Ja = J' ∧ True) Ra Sa) := by
  refine ct_in pn_X11 (Nat.le_of_ble_eq_true rfl) (fun X hX hT hIn => ?_)
  have hX : aK l0 X cX11_fault 1 RX11 (some .int) 0 0 0 := hX
  change WW X 0 [some (kR (some 49))] [] Ia Ja Ra Sa 0 0
  have qIa := RX_o hQ
  refine ww_aload_n hX (pc := 0) dX11_fault_0 rfl ?_
  refine ww_getI hX (pc := 1) fX11_40 (by decide) (xs_49 hL) dX11_fault_1 ?_
  refine rI hX (pc := 4) hT (Nat.le_refl 0) (Nat.le_refl 0) dX11_fault_4 ?_
  exact ⟨rfl, rfl, trivial⟩
set_option maxHeartbeats 4000000 in
set_option maxRecDepth 20000 in
theorem c_X11_status (l0 : Launch) {Ia Ja : aI1} {Ra : aR1} {Sa : aS1} (hL : LY Ra Sa) (hQ : RX Ia)  : CT l0 0 0 0 mX11_status [kR (some 49)] Ia Ja Ra Sa (cI (fun x I' J' => Ia = I' ∧ Ja = J' ∧ True) Ra Sa) := by
  refine ct_in pn_X11 (Nat.le_of_ble_eq_true rfl) (fun X hX hT hIn => ?_)
  have hX : aK l0 X cX11_status 1 RX11 (some .int) 0 0 0 := hX
  change WW X 0 [some (kR (some 49))] [] Ia Ja Ra Sa 0 0
  have qIa := RX_o hQ
  refine ww_aload_n hX (pc := 0) dX11_status_0 rfl ?_
  refine ww_getI hX (pc := 1) fX11_3 (by decide) (xs_49 hL) dX11_status_1 ?_
  refine rI hX (pc := 4) hT (Nat.le_refl 0) (Nat.le_refl 0) dX11_status_4 ?_
  exact ⟨rfl, rfl, trivial⟩
set_option maxHeartbeats 4000000 in
set_option maxRecDepth 20000 in
theorem c_X11_log (l0 : Launch) {Ia Ja : aI1} {Ra : aR1} {Sa : aS1} (hL : LY Ra Sa) (hQ : RX Ia) {a : Int} (ha0 : -2147483648 ≤ a) (ha1 : a < 2147483648)  : CT l0 1 0 0 mX11_log [kR (some 49), kI a] Ia Ja Ra Sa (cI (fun x I' J' => Ia = I' ∧ Ja = J' ∧ True) Ra Sa) := by
  refine ct_in pn_X11 (Nat.le_of_ble_eq_true rfl) (fun X hX hT hIn => ?_)
  have hX : aK l0 X cX11_log 2 RX11 (some .int) 1 0 0 := hX
  change WW X 0 [some (kR (some 49)), some (kI a)] [] Ia Ja Ra Sa 0 0
  have qIa := RX_o hQ
  refine ww_iload_n hX (pc := 0) dX11_log_0 rfl ?_
  refine ww_iconst hX (pc := 1) (x := (-1)) dX11_log_1 rfl ?_
  refine ww_icmp_ne hX (pc := 2) (tgt := 16) dX11_log_2 (by decide) (fun h_2 => ?_) (fun h_2 => ?_)
  · simp only [w32_mod] at h_2
    refine ww_iload_n hX (pc := 16) dX11_log_16 rfl ?_
    refine ww_iconst hX (pc := 17) (x := 0) dX11_log_17 rfl ?_
    refine ww_aload_n hX (pc := 18) dX11_log_18 rfl ?_
    refine ww_getR hX (pc := 19) fX11_20 (by decide) (xs_49 hL) (xr_49_3 hL) dX11_log_19 ?_
    refine ww_sipush hX (pc := 22) (x := 308) dX11_log_22 (by decide) ?_
    refine ww_iald hX (pc := 25) (xs_51 hL) (by decide) (by omega) (by omega) dX11_log_25 ?_
    refine ww_toI (b := Ia 51 308) rfl ?_
    refine ww_iconst hX (pc := 26) (x := 1) dX11_log_26 rfl ?_
    refine ww_isub hX (pc := 27) dX11_log_27 ?_
    refine sI3 hX (pc := 28) sX11_101 (c_X11_lies l0 (by omega) (by omega) (by omega) (by omega) (by omega) (by omega)) (by decide) (Nat.le_refl 0) (Nat.le_refl 0) (Nat.le_of_ble_eq_true rfl) dX11_log_28 (fun x_28 I_28 J_28 h_28 => ?_)
    obtain ⟨rfl, rfl, h_28⟩ := h_28
    refine ww_if_eq hX (pc := 31) (tgt := 47) dX11_log_31 (by decide) (fun h_31 => ?_) (fun h_31 => ?_)
    · simp only [w32_mod] at h_31
      refine ww_iconst hX (pc := 47) (x := (-1)) dX11_log_47 rfl ?_
      refine rI hX (pc := 48) hT (Nat.le_refl 0) (Nat.le_refl 0) dX11_log_48 ?_
      exact ⟨rfl, rfl, trivial⟩
    · simp only [w32_mod] at h_31
      have k_28 := h_28.2.mp (by omega)
      clear h_28
      refine ww_aload_n hX (pc := 34) dX11_log_34 rfl ?_
      refine ww_getR hX (pc := 35) fX11_20 (by decide) (xs_49 hL) (xr_49_3 hL) dX11_log_35 ?_
      refine ww_sipush hX (pc := 38) (x := 264) dX11_log_38 (by decide) ?_
      refine ww_iload_n hX (pc := 41) dX11_log_41 rfl ?_
      refine ww_iadd hX (pc := 42) dX11_log_42 ?_
      refine ww_iald hX (pc := 43) (xs_51 hL) (by decide) (by omega) (by omega) dX11_log_43 ?_
      refine ww_goto hX (pc := 44) (tgt := 48) dX11_log_44 (by decide) ?_
      refine rI hX (pc := 48) hT (Nat.le_refl 0) (Nat.le_refl 0) dX11_log_48 ?_
      exact ⟨rfl, rfl, trivial⟩
  · simp only [w32_mod] at h_2
    refine ww_aload_n hX (pc := 5) dX11_log_5 rfl ?_
    refine ww_getR hX (pc := 6) fX11_20 (by decide) (xs_49 hL) (xr_49_3 hL) dX11_log_6 ?_
    refine ww_sipush hX (pc := 9) (x := 307) dX11_log_9 (by decide) ?_
    refine ww_iald hX (pc := 12) (xs_51 hL) (by decide) (by omega) (by omega) dX11_log_12 ?_
    refine ww_toI (b := Ia 51 307) rfl ?_
    refine ww_goto hX (pc := 13) (tgt := 48) dX11_log_13 (by decide) ?_
    refine rI hX (pc := 48) hT (Nat.le_refl 0) (Nat.le_refl 0) dX11_log_48 ?_
    exact ⟨rfl, rfl, trivial⟩
set_option maxHeartbeats 4000000 in
set_option maxRecDepth 20000 in
theorem c_X11_burnt (l0 : Launch) {Ia Ja : aI1} {Ra : aR1} {Sa : aS1} (hL : LY Ra Sa) (hQ : RX Ia)  : CT l0 1 0 0 mX11_burnt [kR (some 49)] Ia Ja Ra Sa (cI (fun x I' J' => Ia = I' ∧ Ja = J' ∧ True) Ra Sa) := by
  refine ct_in pn_X11 (Nat.le_of_ble_eq_true rfl) (fun X hX hT hIn => ?_)
  have hX : aK l0 X cX11_burnt 1 RX11 (some .int) 1 0 0 := hX
  change WW X 0 [some (kR (some 49))] [] Ia Ja Ra Sa 0 0
  have qIa := RX_o hQ
  refine ww_aload_n hX (pc := 0) dX11_burnt_0 rfl ?_
  refine ww_aload_n hX (pc := 1) dX11_burnt_1 rfl ?_
  refine ww_getR hX (pc := 2) fX11_20 (by decide) (xs_49 hL) (xr_49_3 hL) dX11_burnt_2 ?_
  refine ww_sipush hX (pc := 5) (x := 307) dX11_burnt_5 (by decide) ?_
  refine ww_iald hX (pc := 8) (xs_51 hL) (by decide) (by omega) (by omega) dX11_burnt_8 ?_
  refine ww_toI (b := Ia 51 307) rfl ?_
  refine vI1 hX (pc := 9) sX11_301 (xs_49 hL) (c_X11_oilOf l0 hL hQ ) (by decide) (Nat.le_refl 0) (Nat.le_refl 0) (Nat.le_of_ble_eq_true rfl) dX11_burnt_9 (fun x_9 I_9 J_9 h_9 => ?_)
  obtain ⟨rfl, rfl, h_9⟩ := h_9
  refine rI hX (pc := 12) hT (Nat.le_refl 0) (Nat.le_refl 0) dX11_burnt_12 ?_
  exact ⟨rfl, rfl, trivial⟩
set_option maxHeartbeats 4000000 in
set_option maxRecDepth 20000 in
theorem c_X11_drawn (l0 : Launch) {Ia Ja : aI1} {Ra : aR1} {Sa : aS1} (hL : LY Ra Sa) (hQ : RX Ia) {a : Int} (ha0 : -2147483648 ≤ a) (ha1 : a < 2147483648)  : CT l0 1 0 0 mX11_drawn [kR (some 49), kI a] Ia Ja Ra Sa (cI (fun x I' J' => Ia = I' ∧ Ja = J' ∧ True) Ra Sa) := by
  refine ct_in pn_X11 (Nat.le_of_ble_eq_true rfl) (fun X hX hT hIn => ?_)
  have hX : aK l0 X cX11_drawn 2 RX11 (some .int) 1 0 0 := hX
  change WW X 0 [some (kR (some 49)), some (kI a)] [] Ia Ja Ra Sa 0 0
  have qIa := RX_o hQ
  refine ww_aload_n hX (pc := 0) dX11_drawn_0 rfl ?_
  refine ww_getI hX (pc := 1) fX11_95 (by decide) (xs_49 hL) dX11_drawn_1 ?_
  refine ww_iconst hX (pc := 4) (x := (-1)) dX11_drawn_4 rfl ?_
  refine ww_icmp_ne hX (pc := 5) (tgt := 12) dX11_drawn_5 (by decide) (fun h_5 => ?_) (fun h_5 => ?_)
  · simp only [w32_mod] at h_5
    refine ww_iload_n hX (pc := 12) dX11_drawn_12 rfl ?_
    refine ww_iconst hX (pc := 13) (x := (-1)) dX11_drawn_13 rfl ?_
    refine ww_icmp_ne hX (pc := 14) (tgt := 24) dX11_drawn_14 (by decide) (fun h_14 => ?_) (fun h_14 => ?_)
    · simp only [w32_mod] at h_14
      refine ww_iload_n hX (pc := 24) dX11_drawn_24 rfl ?_
      refine ww_iconst hX (pc := 25) (x := 0) dX11_drawn_25 rfl ?_
      refine ww_aload_n hX (pc := 26) dX11_drawn_26 rfl ?_
      refine ww_getI hX (pc := 27) fX11_95 (by decide) (xs_49 hL) dX11_drawn_27 ?_
      refine ww_iconst hX (pc := 30) (x := 1) dX11_drawn_30 rfl ?_
      refine ww_isub hX (pc := 31) dX11_drawn_31 ?_
      refine sI3 hX (pc := 32) sX11_101 (c_X11_lies l0 (by omega) (by omega) (by omega) (by omega) (by omega) (by omega)) (by decide) (Nat.le_refl 0) (Nat.le_refl 0) (Nat.le_of_ble_eq_true rfl) dX11_drawn_32 (fun x_32 I_32 J_32 h_32 => ?_)
      obtain ⟨rfl, rfl, h_32⟩ := h_32
      refine ww_if_eq hX (pc := 35) (tgt := 47) dX11_drawn_35 (by decide) (fun h_35 => ?_) (fun h_35 => ?_)
      · simp only [w32_mod] at h_35
        refine ww_iconst hX (pc := 47) (x := (-1)) dX11_drawn_47 rfl ?_
        refine rI hX (pc := 48) hT (Nat.le_refl 0) (Nat.le_refl 0) dX11_drawn_48 ?_
        exact ⟨rfl, rfl, trivial⟩
      · simp only [w32_mod] at h_35
        have k_32 := h_32.2.mp (by omega)
        clear h_32
        refine ww_aload_n hX (pc := 38) dX11_drawn_38 rfl ?_
        refine ww_getR hX (pc := 39) fX11_92 (by decide) (xs_49 hL) (xr_49_38 hL) dX11_drawn_39 ?_
        refine ww_iload_n hX (pc := 42) dX11_drawn_42 rfl ?_
        refine ww_iald hX (pc := 43) (xs_72 hL) (by decide) (by omega) (by omega) dX11_drawn_43 ?_
        refine ww_goto hX (pc := 44) (tgt := 48) dX11_drawn_44 (by decide) ?_
        refine rI hX (pc := 48) hT (Nat.le_refl 0) (Nat.le_refl 0) dX11_drawn_48 ?_
        exact ⟨rfl, rfl, trivial⟩
    · simp only [w32_mod] at h_14
      refine ww_aload_n hX (pc := 17) dX11_drawn_17 rfl ?_
      refine ww_getI hX (pc := 18) fX11_347 (by decide) (xs_49 hL) dX11_drawn_18 ?_
      refine ww_goto hX (pc := 21) (tgt := 48) dX11_drawn_21 (by decide) ?_
      refine rI hX (pc := 48) hT (Nat.le_refl 0) (Nat.le_refl 0) dX11_drawn_48 ?_
      exact ⟨rfl, rfl, trivial⟩
  · simp only [w32_mod] at h_5
    refine ww_iconst hX (pc := 8) (x := (-1)) dX11_drawn_8 rfl ?_
    refine ww_goto hX (pc := 9) (tgt := 48) dX11_drawn_9 (by decide) ?_
    refine rI hX (pc := 48) hT (Nat.le_refl 0) (Nat.le_refl 0) dX11_drawn_48 ?_
    exact ⟨rfl, rfl, trivial⟩
set_option maxHeartbeats 4000000 in
set_option maxRecDepth 20000 in
theorem c_X11_count (l0 : Launch) {Ia Ja : aI1} {Ra : aR1} {Sa : aS1} (hL : LY Ra Sa) (hQ : RX Ia) {a : Int} (ha0 : -2147483648 ≤ a) (ha1 : a < 2147483648)  : CT l0 2 0 0 mX11_count [kR (some 49), kI a] Ia Ja Ra Sa (cI (fun x I' J' => Ia = I' ∧ Ja = J' ∧ True) Ra Sa) := by
  refine ct_in pn_X11 (Nat.le_of_ble_eq_true rfl) (fun X hX hT hIn => ?_)
  have hX : aK l0 X cX11_count 2 RX11 (some .int) 2 0 0 := hX
  change WW X 0 [some (kR (some 49)), some (kI a)] [] Ia Ja Ra Sa 0 0
  have qIa := RX_o hQ
  refine ww_iload_n hX (pc := 0) dX11_count_0 rfl ?_
  refine ww_table hX (pc := 1) dX11_count_1 153 (by decide) (fun h_1 => ?_) (fun i_1 h_1 e_1 => ?_)
  · simp only [w32_mod] at h_1
    refine ww_iconst hX (pc := 153) (x := (-1)) dX11_count_153 rfl ?_
    refine rI hX (pc := 154) hT (Nat.le_refl 0) (Nat.le_refl 0) dX11_count_154 ?_
    exact ⟨rfl, rfl, trivial⟩
  · simp only [w32_mod] at e_1
    rcases (show i_1 = 0 ∨ i_1 = 1 ∨ i_1 = 2 ∨ i_1 = 3 ∨ i_1 = 4 ∨ i_1 = 5 ∨ i_1 = 6 ∨ i_1 = 7 ∨ i_1 = 8 ∨ i_1 = 9 ∨ i_1 = 10 ∨ i_1 = 11 ∨ i_1 = 12 by omega) with rfl | rfl | rfl | rfl | rfl | rfl | rfl | rfl | rfl | rfl | rfl | rfl | rfl
    · refine ⟨67, 68, rfl, by decide, ?_⟩
      refine ww_aload_n hX (pc := 68) dX11_count_68 rfl ?_
      refine ww_getR hX (pc := 69) fX11_20 (by decide) (xs_49 hL) (xr_49_3 hL) dX11_count_69 ?_
      refine ww_sipush hX (pc := 72) (x := 304) dX11_count_72 (by decide) ?_
      refine ww_iald hX (pc := 75) (xs_51 hL) (by decide) (by omega) (by omega) dX11_count_75 ?_
      refine ww_toI (b := Ia 51 304) rfl ?_
      refine rI hX (pc := 76) hT (Nat.le_refl 0) (Nat.le_refl 0) dX11_count_76 ?_
      exact ⟨rfl, rfl, trivial⟩
    · refine ⟨76, 77, rfl, by decide, ?_⟩
      refine ww_aload_n hX (pc := 77) dX11_count_77 rfl ?_
      refine ww_getR hX (pc := 78) fX11_20 (by decide) (xs_49 hL) (xr_49_3 hL) dX11_count_78 ?_
      refine ww_sipush hX (pc := 81) (x := 305) dX11_count_81 (by decide) ?_
      refine ww_iald hX (pc := 84) (xs_51 hL) (by decide) (by omega) (by omega) dX11_count_84 ?_
      refine ww_toI (b := Ia 51 305) rfl ?_
      refine rI hX (pc := 85) hT (Nat.le_refl 0) (Nat.le_refl 0) dX11_count_85 ?_
      exact ⟨rfl, rfl, trivial⟩
    · refine ⟨85, 86, rfl, by decide, ?_⟩
      refine ww_aload_n hX (pc := 86) dX11_count_86 rfl ?_
      refine ww_getR hX (pc := 87) fX11_20 (by decide) (xs_49 hL) (xr_49_3 hL) dX11_count_87 ?_
      refine ww_sipush hX (pc := 90) (x := 310) dX11_count_90 (by decide) ?_
      refine ww_iald hX (pc := 93) (xs_51 hL) (by decide) (by omega) (by omega) dX11_count_93 ?_
      refine ww_toI (b := Ia 51 310) rfl ?_
      refine rI hX (pc := 94) hT (Nat.le_refl 0) (Nat.le_refl 0) dX11_count_94 ?_
      exact ⟨rfl, rfl, trivial⟩
    · refine ⟨94, 95, rfl, by decide, ?_⟩
      refine ww_aload_n hX (pc := 95) dX11_count_95 rfl ?_
      refine vI0 hX (pc := 96) sX11_139 (xs_49 hL) (c_X11_readMany l0 hL hQ ) (by decide) (Nat.le_refl 0) (Nat.le_refl 0) (Nat.le_of_ble_eq_true rfl) dX11_count_96 (fun x_96 I_96 J_96 h_96 => ?_)
      obtain ⟨rfl, rfl, h_96⟩ := h_96
      refine rI hX (pc := 99) hT (Nat.le_refl 0) (Nat.le_refl 0) dX11_count_99 ?_
      exact ⟨rfl, rfl, trivial⟩
    · refine ⟨99, 100, rfl, by decide, ?_⟩
      refine ww_aload_n hX (pc := 100) dX11_count_100 rfl ?_
      refine ww_getR hX (pc := 101) fX11_20 (by decide) (xs_49 hL) (xr_49_3 hL) dX11_count_101 ?_
      refine ww_sipush hX (pc := 104) (x := 308) dX11_count_104 (by decide) ?_
      refine ww_iald hX (pc := 107) (xs_51 hL) (by decide) (by omega) (by omega) dX11_count_107 ?_
      refine ww_toI (b := Ia 51 308) rfl ?_
      refine rI hX (pc := 108) hT (Nat.le_refl 0) (Nat.le_refl 0) dX11_count_108 ?_
      exact ⟨rfl, rfl, trivial⟩
    · refine ⟨108, 109, rfl, by decide, ?_⟩
      refine ww_aload_n hX (pc := 109) dX11_count_109 rfl ?_
      refine ww_getR hX (pc := 110) fX11_20 (by decide) (xs_49 hL) (xr_49_3 hL) dX11_count_110 ?_
      refine ww_sipush hX (pc := 113) (x := 309) dX11_count_113 (by decide) ?_
      refine ww_iald hX (pc := 116) (xs_51 hL) (by decide) (by omega) (by omega) dX11_count_116 ?_
      refine ww_toI (b := Ia 51 309) rfl ?_
      refine rI hX (pc := 117) hT (Nat.le_refl 0) (Nat.le_refl 0) dX11_count_117 ?_
      exact ⟨rfl, rfl, trivial⟩
    · refine ⟨117, 118, rfl, by decide, ?_⟩
      refine ww_aload_n hX (pc := 118) dX11_count_118 rfl ?_
      refine ww_getI hX (pc := 119) fX11_129 (by decide) (xs_49 hL) dX11_count_119 ?_
      refine rI hX (pc := 122) hT (Nat.le_refl 0) (Nat.le_refl 0) dX11_count_122 ?_
      exact ⟨rfl, rfl, trivial⟩
    · refine ⟨122, 123, rfl, by decide, ?_⟩
      refine ww_aload_n hX (pc := 123) dX11_count_123 rfl ?_
      refine ww_getR hX (pc := 124) fX11_7 (by decide) (xs_49 hL) (xr_49_2 hL) dX11_count_124 ?_
      refine ww_iload_n hX (pc := 127) dX11_count_127 rfl ?_
      refine ww_bipush hX (pc := 128) (x := 6) dX11_count_128 (by decide) ?_
      refine ww_isub hX (pc := 130) dX11_count_130 ?_
      refine ww_iald hX (pc := 131) (xs_50 hL) (by decide) (by omega) (by omega) dX11_count_131 ?_
      refine rI hX (pc := 132) hT (Nat.le_refl 0) (Nat.le_refl 0) dX11_count_132 ?_
      exact ⟨rfl, rfl, trivial⟩
    · refine ⟨122, 123, rfl, by decide, ?_⟩
      refine ww_aload_n hX (pc := 123) dX11_count_123 rfl ?_
      refine ww_getR hX (pc := 124) fX11_7 (by decide) (xs_49 hL) (xr_49_2 hL) dX11_count_124 ?_
      refine ww_iload_n hX (pc := 127) dX11_count_127 rfl ?_
      refine ww_bipush hX (pc := 128) (x := 6) dX11_count_128 (by decide) ?_
      refine ww_isub hX (pc := 130) dX11_count_130 ?_
      refine ww_iald hX (pc := 131) (xs_50 hL) (by decide) (by omega) (by omega) dX11_count_131 ?_
      refine rI hX (pc := 132) hT (Nat.le_refl 0) (Nat.le_refl 0) dX11_count_132 ?_
      exact ⟨rfl, rfl, trivial⟩
    · refine ⟨122, 123, rfl, by decide, ?_⟩
      refine ww_aload_n hX (pc := 123) dX11_count_123 rfl ?_
      refine ww_getR hX (pc := 124) fX11_7 (by decide) (xs_49 hL) (xr_49_2 hL) dX11_count_124 ?_
      refine ww_iload_n hX (pc := 127) dX11_count_127 rfl ?_
      refine ww_bipush hX (pc := 128) (x := 6) dX11_count_128 (by decide) ?_
      refine ww_isub hX (pc := 130) dX11_count_130 ?_
      refine ww_iald hX (pc := 131) (xs_50 hL) (by decide) (by omega) (by omega) dX11_count_131 ?_
      refine rI hX (pc := 132) hT (Nat.le_refl 0) (Nat.le_refl 0) dX11_count_132 ?_
      exact ⟨rfl, rfl, trivial⟩
    · refine ⟨132, 133, rfl, by decide, ?_⟩
      refine ww_aload_n hX (pc := 133) dX11_count_133 rfl ?_
      refine ww_getR hX (pc := 134) fX11_7 (by decide) (xs_49 hL) (xr_49_2 hL) dX11_count_134 ?_
      refine ww_iconst hX (pc := 137) (x := 5) dX11_count_137 rfl ?_
      refine ww_iald hX (pc := 138) (xs_50 hL) (by decide) (by omega) (by omega) dX11_count_138 ?_
      refine ww_toI (b := Ia 50 5) rfl ?_
      refine rI hX (pc := 139) hT (Nat.le_refl 0) (Nat.le_refl 0) dX11_count_139 ?_
      exact ⟨rfl, rfl, trivial⟩
    · refine ⟨139, 140, rfl, by decide, ?_⟩
      refine ww_aload_n hX (pc := 140) dX11_count_140 rfl ?_
      refine ww_getR hX (pc := 141) fX11_7 (by decide) (xs_49 hL) (xr_49_2 hL) dX11_count_141 ?_
      refine ww_bipush hX (pc := 144) (x := 6) dX11_count_144 (by decide) ?_
      refine ww_iald hX (pc := 146) (xs_50 hL) (by decide) (by omega) (by omega) dX11_count_146 ?_
      refine ww_toI (b := Ia 50 6) rfl ?_
      refine rI hX (pc := 147) hT (Nat.le_refl 0) (Nat.le_refl 0) dX11_count_147 ?_
      exact ⟨rfl, rfl, trivial⟩
    · refine ⟨147, 148, rfl, by decide, ?_⟩
      refine ww_aload_n hX (pc := 148) dX11_count_148 rfl ?_
      refine ww_getI hX (pc := 149) fX11_334 (by decide) (xs_49 hL) dX11_count_149 ?_
      refine rI hX (pc := 152) hT (Nat.le_refl 0) (Nat.le_refl 0) dX11_count_152 ?_
      exact ⟨rfl, rfl, trivial⟩
set_option maxHeartbeats 4000000 in
set_option maxRecDepth 20000 in
theorem c_X11_ways (l0 : Launch) {Ia Ja : aI1} {Ra : aR1} {Sa : aS1} (hL : LY Ra Sa) (hQ : RX Ia) {a b : Int} (ha0 : -2147483648 ≤ a) (ha1 : a < 2147483648) (hb0 : -2147483648 ≤ b) (hb1 : b < 2147483648)  : CT l0 2 0 0 mX11_ways [kR (some 49), kI a, kI b] Ia Ja Ra Sa (cI (fun x I' J' => Ia = I' ∧ Ja = J' ∧ True) Ra Sa) := by
  refine ct_in pn_X11 (Nat.le_of_ble_eq_true rfl) (fun X hX hT hIn => ?_)
  have hX : aK l0 X cX11_ways 5 RX11 (some .int) 2 0 0 := hX
  change WW X 0 [some (kR (some 49)), some (kI a), some (kI b), none, none] [] Ia Ja Ra Sa 0 0
  have qIa := RX_o hQ
  refine ww_aload_n hX (pc := 0) dX11_ways_0 rfl ?_
  refine ww_iload_n hX (pc := 1) dX11_ways_1 rfl ?_
  refine vI1 hX (pc := 2) sX11_120 (xs_49 hL) (c_X11_isState l0 hL hQ (by omega) (by omega)) (by decide) (Nat.le_refl 0) (Nat.le_refl 0) (Nat.le_of_ble_eq_true rfl) dX11_ways_2 (fun x_2 I_2 J_2 h_2 => ?_)
  obtain ⟨rfl, rfl, h_2⟩ := h_2
  refine ww_if_eq hX (pc := 5) (tgt := 16) dX11_ways_5 (by decide) (fun h_5 => ?_) (fun h_5 => ?_)
  · simp only [w32_mod] at h_5
    refine ww_iconst hX (pc := 16) (x := (-1)) dX11_ways_16 rfl ?_
    refine rI hX (pc := 17) hT (Nat.le_refl 0) (Nat.le_refl 0) dX11_ways_17 ?_
    exact ⟨rfl, rfl, trivial⟩
  · simp only [w32_mod] at h_5
    have k_2 := h_2.2.mp (by omega)
    clear h_2
    refine ww_aload_n hX (pc := 8) dX11_ways_8 rfl ?_
    refine ww_iload_n hX (pc := 9) dX11_ways_9 rfl ?_
    refine vI1 hX (pc := 10) sX11_123 (xs_49 hL) (c_X11_isNews l0 hL hQ (by omega) (by omega)) (by decide) (Nat.le_refl 0) (Nat.le_refl 0) (Nat.le_of_ble_eq_true rfl) dX11_ways_10 (fun x_10 I_10 J_10 h_10 => ?_)
    obtain ⟨rfl, rfl, h_10⟩ := h_10
    refine ww_if_ne hX (pc := 13) (tgt := 18) dX11_ways_13 (by decide) (fun h_13 => ?_) (fun h_13 => ?_)
    · simp only [w32_mod] at h_13
      have k_10 := h_10.2.mp (by omega)
      clear h_10
      refine ww_iconst hX (pc := 18) (x := 0) dX11_ways_18 rfl ?_
      refine ww_istore_n hX (pc := 19) (lv' := [some (kR (some 49)), some (kI a), some (kI b), some (kI 0), none]) dX11_ways_19 (by decide) rfl rfl ?_
      refine ww_iload_n hX (pc := 20) dX11_ways_20 rfl ?_
      refine ww_istore hX (pc := 21) (lv' := [some (kR (some 49)), some (kI a), some (kI b), some (kI 0), some (kI a)]) dX11_ways_21 (by decide) rfl rfl ?_
      have hl_23 : ∀ (n_23 : Nat) (n : Int) (t : Int), (256 - t).toNat = n_23 → ((0 ≤ t ∧ t ≤ 256)) → WW X 23 [some (kR (some 49)), some (kI a), some (kI b), some (kI n), some (kI t)] [] Ia Ja Ra Sa 0 0 := by
        intro n_23
        induction n_23 using Nat.strongRecOn with
        | ind n_23 ih_23 =>
          intro n t hm_23 hv_23
          have hq_23 := Sh0_i hm_23
          clear hm_23
          have hv := hv_23
          refine ww_iload hX (pc := 23) dX11_ways_23 rfl ?_
          refine ww_aload_n hX (pc := 25) dX11_ways_25 rfl ?_
          refine vI0 hX (pc := 26) sX11_112 (xs_49 hL) (c_X11_states l0 hL hQ ) (by decide) (Nat.le_refl 0) (Nat.le_refl 0) (Nat.le_of_ble_eq_true rfl) dX11_ways_26 (fun x_26 I_26 J_26 h_26 => ?_)
          obtain ⟨rfl, rfl, h_26⟩ := h_26
          refine ww_icmp_ge hX (pc := 29) (tgt := 74) dX11_ways_29 (by decide) (fun h_29 => ?_) (fun h_29 => ?_)
          · simp only [w32_mod] at h_29
            refine ww_iload_n hX (pc := 74) dX11_ways_74 rfl ?_
            refine rI hX (pc := 75) hT (Nat.le_refl 0) (Nat.le_refl 0) dX11_ways_75 ?_
            exact ⟨rfl, rfl, trivial⟩
          · simp only [w32_mod] at h_29
            refine ww_iload_n hX (pc := 32) dX11_ways_32 rfl ?_
            refine ww_aload_n hX (pc := 33) dX11_ways_33 rfl ?_
            refine ww_iload hX (pc := 34) dX11_ways_34 rfl ?_
            refine vI1 hX (pc := 36) sX11_126 (xs_49 hL) (c_X11_readOf l0 hL hQ (by omega) (by omega)) (by decide) (Nat.le_refl 0) (Nat.le_refl 0) (Nat.le_of_ble_eq_true rfl) dX11_ways_36 (fun x_36 I_36 J_36 h_36 => ?_)
            obtain ⟨rfl, rfl, h_36⟩ := h_36
            refine ww_iload_n hX (pc := 39) dX11_ways_39 rfl ?_
            refine ww_icmp_ne hX (pc := 40) (tgt := 65) dX11_ways_40 (by decide) (fun h_40 => ?_) (fun h_40 => ?_)
            · simp only [w32_mod] at h_40
              refine ww_iconst hX (pc := 65) (x := 0) dX11_ways_65 rfl ?_
              refine ww_iadd hX (pc := 66) dX11_ways_66 ?_
              refine ww_nmI (fun v_67 hv_67 => ?_)
              refine ww_istore_n hX (pc := 67) (lv' := [some (kR (some 49)), some (kI a), some (kI b), some (kI v_67), some (kI t)]) dX11_ways_67 (by decide) rfl rfl ?_
              refine ww_iinc hX (pc := 68) (lv' := [some (kR (some 49)), some (kI a), some (kI b), some (kI v_67), some (kI (t + 1))]) dX11_ways_68 rfl (by decide) rfl rfl ?_
              refine ww_goto hX (pc := 71) (tgt := 23) dX11_ways_71 (by decide) ?_
              exact ih_23 _ (by have hm9 := Sh0_e hq_23; omega) v_67 (t + 1) rfl (by omega)
            · simp only [w32_mod] at h_40
              refine ww_aload_n hX (pc := 43) dX11_ways_43 rfl ?_
              refine ww_iload_n hX (pc := 44) dX11_ways_44 rfl ?_
              refine ww_iload hX (pc := 45) dX11_ways_45 rfl ?_
              refine ww_aload_n hX (pc := 47) dX11_ways_47 rfl ?_
              refine ww_getR hX (pc := 48) fX11_20 (by decide) (xs_49 hL) (xr_49_3 hL) dX11_ways_48 ?_
              refine ww_sipush hX (pc := 51) (x := 306) dX11_ways_51 (by decide) ?_
              refine ww_iald hX (pc := 54) (xs_51 hL) (by decide) (by omega) (by omega) dX11_ways_54 ?_
              refine ww_toI (b := Ia 51 306) rfl ?_
              refine vI3 hX (pc := 55) sX11_271 (xs_49 hL) (c_X11_canCome l0 hL hQ ) (by decide) (Nat.le_refl 0) (Nat.le_refl 0) (Nat.le_of_ble_eq_true rfl) dX11_ways_55 (fun x_55 I_55 J_55 h_55 => ?_)
              obtain ⟨rfl, rfl, h_55⟩ := h_55
              refine ww_if_eq hX (pc := 58) (tgt := 65) dX11_ways_58 (by decide) (fun h_58 => ?_) (fun h_58 => ?_)
              · simp only [w32_mod] at h_58
                refine ww_iconst hX (pc := 65) (x := 0) dX11_ways_65 rfl ?_
                refine ww_iadd hX (pc := 66) dX11_ways_66 ?_
                refine ww_nmI (fun v_67 hv_67 => ?_)
                refine ww_istore_n hX (pc := 67) (lv' := [some (kR (some 49)), some (kI a), some (kI b), some (kI v_67), some (kI t)]) dX11_ways_67 (by decide) rfl rfl ?_
                refine ww_iinc hX (pc := 68) (lv' := [some (kR (some 49)), some (kI a), some (kI b), some (kI v_67), some (kI (t + 1))]) dX11_ways_68 rfl (by decide) rfl rfl ?_
                refine ww_goto hX (pc := 71) (tgt := 23) dX11_ways_71 (by decide) ?_
                exact ih_23 _ (by have hm9 := Sh0_e hq_23; omega) v_67 (t + 1) rfl (by omega)
              · simp only [w32_mod] at h_58
                have k_55 := h_55.2.mp (by omega)
                clear h_55
                refine ww_iconst hX (pc := 61) (x := 1) dX11_ways_61 rfl ?_
                refine ww_goto hX (pc := 62) (tgt := 66) dX11_ways_62 (by decide) ?_
                refine ww_iadd hX (pc := 66) dX11_ways_66 ?_
                refine ww_nmI (fun v_67 hv_67 => ?_)
                refine ww_istore_n hX (pc := 67) (lv' := [some (kR (some 49)), some (kI a), some (kI b), some (kI v_67), some (kI t)]) dX11_ways_67 (by decide) rfl rfl ?_
                refine ww_iinc hX (pc := 68) (lv' := [some (kR (some 49)), some (kI a), some (kI b), some (kI v_67), some (kI (t + 1))]) dX11_ways_68 rfl (by decide) rfl rfl ?_
                refine ww_goto hX (pc := 71) (tgt := 23) dX11_ways_71 (by decide) ?_
                exact ih_23 _ (by have hm9 := Sh0_e hq_23; omega) v_67 (t + 1) rfl (by omega)
      exact hl_23 _ 0 a rfl (by omega)
    · simp only [w32_mod] at h_13
      refine ww_iconst hX (pc := 16) (x := (-1)) dX11_ways_16 rfl ?_
      refine rI hX (pc := 17) hT (Nat.le_refl 0) (Nat.le_refl 0) dX11_ways_17 ?_
      exact ⟨rfl, rfl, trivial⟩
set_option maxHeartbeats 4000000 in
set_option maxRecDepth 20000 in
theorem c_X11_lasts (l0 : Launch) {Ia Ja : aI1} {Ra : aR1} {Sa : aS1} (hL : LY Ra Sa) (hQ : RX Ia) {a : Int} (ha0 : -2147483648 ≤ a) (ha1 : a < 2147483648)  : CT l0 5 0 0 mX11_lasts [kR (some 49), kI a] Ia Ja Ra Sa (cI (fun x I' J' => Ch [61] [25] Ia I' ∧ Kp 49 73 Ja J' ∧ RX I' ∧ True) Ra Sa) := by
  refine ct_in pn_X11 (Nat.le_of_ble_eq_true rfl) (fun X hX hT hIn => ?_)
  have hX : aK l0 X cX11_lasts 2 RX11 (some .int) 5 0 0 := hX
  change WW X 0 [some (kR (some 49)), some (kI a)] [] Ia Ja Ra Sa 0 0
  have qIa := RX_o hQ
  refine ww_aload_n hX (pc := 0) dX11_lasts_0 rfl ?_
  refine ww_iload_n hX (pc := 1) dX11_lasts_1 rfl ?_
  refine vI1 hX (pc := 2) sX11_120 (xs_49 hL) (c_X11_isState l0 hL hQ (by omega) (by omega)) (by decide) (Nat.le_refl 0) (Nat.le_refl 0) (Nat.le_of_ble_eq_true rfl) dX11_lasts_2 (fun x_2 I_2 J_2 h_2 => ?_)
  obtain ⟨rfl, rfl, h_2⟩ := h_2
  refine ww_if_ne hX (pc := 5) (tgt := 10) dX11_lasts_5 (by decide) (fun h_5 => ?_) (fun h_5 => ?_)
  · simp only [w32_mod] at h_5
    have k_2 := h_2.2.mp (by omega)
    clear h_2
    refine ww_aload_n hX (pc := 10) dX11_lasts_10 rfl ?_
    refine vV0 hX (pc := 11) sX11_294 (xs_49 hL) (c_X11_looks l0 hL hQ ) (by decide) (Nat.le_refl 0) (Nat.le_refl 0) (Nat.le_of_ble_eq_true rfl) dX11_lasts_11 (fun I_11 J_11 h_11 => ?_)
    have kJ_11 : Kp 49 73 Ja J_11 := Kp_tr (Kp_rf (a := 49) (b := 73)) h_11.2.1
    have kI_11 : Ch [61] [25] Ia I_11 := Ch_tr Ch_rf (Ch_wd h_11.1 (by decide) (by decide))
    have cI_11 : RX I_11 := h_11.2.2.1
    have qI_11 := RX_o cI_11
    have r304_I_11 : I_11 51 304 = Ia 51 304 := by rw [h_11.1.1 51 (by decide) (by decide)]
    have r305_I_11 : I_11 51 305 = Ia 51 305 := by rw [h_11.1.1 51 (by decide) (by decide)]
    have rf_I_11 : FU (I_11 51 304) = FU (Ia 51 304) := by rw [r304_I_11]
    refine ww_aload_n hX (pc := 14) dX11_lasts_14 rfl ?_
    refine ww_getR hX (pc := 15) fX11_55 (by decide) (xs_49 hL) (xr_49_23 hL) dX11_lasts_15 ?_
    refine ww_iload_n hX (pc := 18) dX11_lasts_18 rfl ?_
    refine ww_iald hX (pc := 19) (xs_61 hL) (by decide) (by omega) (by omega) dX11_lasts_19 ?_
    refine rI hX (pc := 20) hT (Nat.le_refl 0) (Nat.le_refl 0) dX11_lasts_20 ?_
    exact ⟨kI_11, kJ_11, cI_11, trivial⟩
  · simp only [w32_mod] at h_5
    refine ww_iconst hX (pc := 8) (x := (-1)) dX11_lasts_8 rfl ?_
    refine rI hX (pc := 9) hT (Nat.le_refl 0) (Nat.le_refl 0) dX11_lasts_9 ?_
    exact ⟨Ch_rf, (Kp_rf (a := 49) (b := 73)), hQ, trivial⟩
set_option maxHeartbeats 4000000 in
set_option maxRecDepth 20000 in
theorem c_X11_next (l0 : Launch) {Ia Ja : aI1} {Ra : aR1} {Sa : aS1} (hL : LY Ra Sa) (hQ : RX Ia) {a b c : Int} (ha0 : -2147483648 ≤ a) (ha1 : a < 2147483648) (hb0 : -2147483648 ≤ b) (hb1 : b < 2147483648) (hc0 : -2147483648 ≤ c) (hc1 : c < 2147483648)  : CT l0 5 0 0 mX11_next [kR (some 49), kI a, kI b, kI c] Ia Ja Ra Sa (cI (fun x I' J' => Ch [61] [25] Ia I' ∧ Kp 49 73 Ja J' ∧ RX I' ∧ True) Ra Sa) := by
  refine ct_in pn_X11 (Nat.le_of_ble_eq_true rfl) (fun X hX hT hIn => ?_)
  have hX : aK l0 X cX11_next 4 RX11 (some .int) 5 0 0 := hX
  change WW X 0 [some (kR (some 49)), some (kI a), some (kI b), some (kI c)] [] Ia Ja Ra Sa 0 0
  have qIa := RX_o hQ
  refine ww_aload_n hX (pc := 0) dX11_next_0 rfl ?_
  refine ww_iload_n hX (pc := 1) dX11_next_1 rfl ?_
  refine vI1 hX (pc := 2) sX11_120 (xs_49 hL) (c_X11_isState l0 hL hQ (by omega) (by omega)) (by decide) (Nat.le_refl 0) (Nat.le_refl 0) (Nat.le_of_ble_eq_true rfl) dX11_next_2 (fun x_2 I_2 J_2 h_2 => ?_)
  obtain ⟨rfl, rfl, h_2⟩ := h_2
  refine ww_if_eq hX (pc := 5) (tgt := 23) dX11_next_5 (by decide) (fun h_5 => ?_) (fun h_5 => ?_)
  · simp only [w32_mod] at h_5
    refine ww_iconst hX (pc := 23) (x := (-1)) dX11_next_23 rfl ?_
    refine rI hX (pc := 24) hT (Nat.le_refl 0) (Nat.le_refl 0) dX11_next_24 ?_
    exact ⟨Ch_rf, (Kp_rf (a := 49) (b := 73)), hQ, trivial⟩
  · simp only [w32_mod] at h_5
    have k_2 := h_2.2.mp (by omega)
    clear h_2
    refine ww_aload_n hX (pc := 8) dX11_next_8 rfl ?_
    refine ww_iload_n hX (pc := 9) dX11_next_9 rfl ?_
    refine vI1 hX (pc := 10) sX11_123 (xs_49 hL) (c_X11_isNews l0 hL hQ (by omega) (by omega)) (by decide) (Nat.le_refl 0) (Nat.le_refl 0) (Nat.le_of_ble_eq_true rfl) dX11_next_10 (fun x_10 I_10 J_10 h_10 => ?_)
    obtain ⟨rfl, rfl, h_10⟩ := h_10
    refine ww_if_eq hX (pc := 13) (tgt := 23) dX11_next_13 (by decide) (fun h_13 => ?_) (fun h_13 => ?_)
    · simp only [w32_mod] at h_13
      refine ww_iconst hX (pc := 23) (x := (-1)) dX11_next_23 rfl ?_
      refine rI hX (pc := 24) hT (Nat.le_refl 0) (Nat.le_refl 0) dX11_next_24 ?_
      exact ⟨Ch_rf, (Kp_rf (a := 49) (b := 73)), hQ, trivial⟩
    · simp only [w32_mod] at h_13
      have k_10 := h_10.2.mp (by omega)
      clear h_10
      refine ww_iload_n hX (pc := 16) dX11_next_16 rfl ?_
      refine sI1 hX (pc := 17) sX11_308 (c_X11_isManner l0 (by omega) (by omega)) (by decide) (Nat.le_refl 0) (Nat.le_refl 0) (Nat.le_of_ble_eq_true rfl) dX11_next_17 (fun x_17 I_17 J_17 h_17 => ?_)
      obtain ⟨rfl, rfl, h_17⟩ := h_17
      refine ww_if_ne hX (pc := 20) (tgt := 25) dX11_next_20 (by decide) (fun h_20 => ?_) (fun h_20 => ?_)
      · simp only [w32_mod] at h_20
        have k_17 := h_17.2.mp (by omega)
        clear h_17
        refine ww_aload_n hX (pc := 25) dX11_next_25 rfl ?_
        refine vV0 hX (pc := 26) sX11_294 (xs_49 hL) (c_X11_looks l0 hL hQ ) (by decide) (Nat.le_refl 0) (Nat.le_refl 0) (Nat.le_of_ble_eq_true rfl) dX11_next_26 (fun I_26 J_26 h_26 => ?_)
        have kJ_26 : Kp 49 73 Ja J_26 := Kp_tr (Kp_rf (a := 49) (b := 73)) h_26.2.1
        have kI_26 : Ch [61] [25] Ia I_26 := Ch_tr Ch_rf (Ch_wd h_26.1 (by decide) (by decide))
        have cI_26 : RX I_26 := h_26.2.2.1
        have qI_26 := RX_o cI_26
        have r304_I_26 : I_26 51 304 = Ia 51 304 := by rw [h_26.1.1 51 (by decide) (by decide)]
        have r305_I_26 : I_26 51 305 = Ia 51 305 := by rw [h_26.1.1 51 (by decide) (by decide)]
        have rf_I_26 : FU (I_26 51 304) = FU (Ia 51 304) := by rw [r304_I_26]
        refine ww_aload_n hX (pc := 29) dX11_next_29 rfl ?_
        refine ww_iload_n hX (pc := 30) dX11_next_30 rfl ?_
        refine ww_iload_n hX (pc := 31) dX11_next_31 rfl ?_
        refine ww_iload_n hX (pc := 32) dX11_next_32 rfl ?_
        refine vI3 hX (pc := 33) sX11_311 (xs_49 hL) (c_X11_nextOf l0 hL cI_26 (by omega) (by omega)) (by decide) (Nat.le_refl 0) (Nat.le_refl 0) (Nat.le_of_ble_eq_true rfl) dX11_next_33 (fun x_33 I_33 J_33 h_33 => ?_)
        obtain ⟨rfl, rfl, h_33⟩ := h_33
        refine rI hX (pc := 36) hT (Nat.le_refl 0) (Nat.le_refl 0) dX11_next_36 ?_
        exact ⟨kI_26, kJ_26, cI_26, trivial⟩
      · simp only [w32_mod] at h_20
        refine ww_iconst hX (pc := 23) (x := (-1)) dX11_next_23 rfl ?_
        refine rI hX (pc := 24) hT (Nat.le_refl 0) (Nat.le_refl 0) dX11_next_24 ?_
        exact ⟨Ch_rf, (Kp_rf (a := 49) (b := 73)), hQ, trivial⟩
set_option maxHeartbeats 4000000 in
set_option maxRecDepth 20000 in
theorem c_X11_mean (l0 : Launch) {Ia Ja : aI1} {Ra : aR1} {Sa : aS1} (hL : LY Ra Sa) (hQ : RX Ia) {a b : Int} (ha0 : -2147483648 ≤ a) (ha1 : a < 2147483648) (hb0 : -2147483648 ≤ b) (hb1 : b < 2147483648)  : CT l0 5 0 0 mX11_mean [kR (some 49), kI a, kI b] Ia Ja Ra Sa (cJ (fun x I' J' => Ch [61] [25] Ia I' ∧ Kp 49 73 Ja J' ∧ RX I' ∧ True) Ra Sa) := by
  refine ct_in pn_X11 (Nat.le_of_ble_eq_true rfl) (fun X hX hT hIn => ?_)
  have hX : aK l0 X cX11_mean 7 RX11 (some .long) 5 0 0 := hX
  change WW X 0 [some (kR (some 49)), some (kI a), some (kI b), none, none, none, none] [] Ia Ja Ra Sa 0 0
  have qIa := RX_o hQ
  refine ww_aload_n hX (pc := 0) dX11_mean_0 rfl ?_
  refine ww_iload_n hX (pc := 1) dX11_mean_1 rfl ?_
  refine vI1 hX (pc := 2) sX11_120 (xs_49 hL) (c_X11_isState l0 hL hQ (by omega) (by omega)) (by decide) (Nat.le_refl 0) (Nat.le_refl 0) (Nat.le_of_ble_eq_true rfl) dX11_mean_2 (fun x_2 I_2 J_2 h_2 => ?_)
  obtain ⟨rfl, rfl, h_2⟩ := h_2
  refine ww_if_eq hX (pc := 5) (tgt := 17) dX11_mean_5 (by decide) (fun h_5 => ?_) (fun h_5 => ?_)
  · simp only [w32_mod] at h_5
    refine ww_ldc2 hX (pc := 17) (x := (-1)) dX11_mean_17 tb_1398 ?_
    refine rJ hX (pc := 20) hT (Nat.le_refl 0) (Nat.le_refl 0) dX11_mean_20 ?_
    exact ⟨Ch_rf, (Kp_rf (a := 49) (b := 73)), hQ, trivial⟩
  · simp only [w32_mod] at h_5
    have k_2 := h_2.2.mp (by omega)
    clear h_2
    refine ww_iload_n hX (pc := 8) dX11_mean_8 rfl ?_
    refine ww_iconst hX (pc := 9) (x := 0) dX11_mean_9 rfl ?_
    refine ww_iconst hX (pc := 10) (x := 1) dX11_mean_10 rfl ?_
    refine sI3 hX (pc := 11) sX11_101 (c_X11_lies l0 (by omega) (by omega) (by omega) (by omega) (by omega) (by omega)) (by decide) (Nat.le_refl 0) (Nat.le_refl 0) (Nat.le_of_ble_eq_true rfl) dX11_mean_11 (fun x_11 I_11 J_11 h_11 => ?_)
    obtain ⟨rfl, rfl, h_11⟩ := h_11
    refine ww_if_ne hX (pc := 14) (tgt := 21) dX11_mean_14 (by decide) (fun h_14 => ?_) (fun h_14 => ?_)
    · simp only [w32_mod] at h_14
      have k_11 := h_11.2.mp (by omega)
      clear h_11
      refine ww_aload_n hX (pc := 21) dX11_mean_21 rfl ?_
      refine vV0 hX (pc := 22) sX11_294 (xs_49 hL) (c_X11_looks l0 hL hQ ) (by decide) (Nat.le_refl 0) (Nat.le_refl 0) (Nat.le_of_ble_eq_true rfl) dX11_mean_22 (fun I_22 J_22 h_22 => ?_)
      have kJ_22 : Kp 49 73 Ja J_22 := Kp_tr (Kp_rf (a := 49) (b := 73)) h_22.2.1
      have kI_22 : Ch [61] [25] Ia I_22 := Ch_tr Ch_rf (Ch_wd h_22.1 (by decide) (by decide))
      have cI_22 : RX I_22 := h_22.2.2.1
      have qI_22 := RX_o cI_22
      have r304_I_22 : I_22 51 304 = Ia 51 304 := by rw [h_22.1.1 51 (by decide) (by decide)]
      have r305_I_22 : I_22 51 305 = Ia 51 305 := by rw [h_22.1.1 51 (by decide) (by decide)]
      have rf_I_22 : FU (I_22 51 304) = FU (Ia 51 304) := by rw [r304_I_22]
      refine ww_aload_n hX (pc := 25) dX11_mean_25 rfl ?_
      refine ww_aload_n hX (pc := 26) dX11_mean_26 rfl ?_
      refine ww_iload_n hX (pc := 27) dX11_mean_27 rfl ?_
      refine vI1 hX (pc := 28) sX11_274 (xs_49 hL) (c_X11_dark l0 hL cI_22 ) (by decide) (Nat.le_refl 0) (Nat.le_refl 0) (Nat.le_of_ble_eq_true rfl) dX11_mean_28 (fun x_28 I_28 J_28 h_28 => ?_)
      obtain ⟨rfl, rfl, h_28⟩ := h_28
      refine vJ1 hX (pc := 31) sX11_277 (xs_49 hL) (c_X11_power l0 hL cI_22 (by omega) (by omega)) (by decide) (Nat.le_refl 0) (Nat.le_refl 0) (Nat.le_of_ble_eq_true rfl) dX11_mean_31 (fun x_31 I_31 J_31 h_31 => ?_)
      obtain ⟨rfl, rfl, h_31⟩ := h_31
      refine ww_aload_n hX (pc := 34) dX11_mean_34 rfl ?_
      refine ww_iload_n hX (pc := 35) dX11_mean_35 rfl ?_
      refine vI1 hX (pc := 36) sX11_126 (xs_49 hL) (c_X11_readOf l0 hL cI_22 (by omega) (by omega)) (by decide) (Nat.le_refl 0) (Nat.le_refl 0) (Nat.le_of_ble_eq_true rfl) dX11_mean_36 (fun x_36 I_36 J_36 h_36 => ?_)
      obtain ⟨rfl, rfl, h_36⟩ := h_36
      refine ww_iconst hX (pc := 39) (x := (-1)) dX11_mean_39 rfl ?_
      refine ww_icmp_ne hX (pc := 40) (tgt := 54) dX11_mean_40 (by decide) (fun h_40 => ?_) (fun h_40 => ?_)
      · simp only [w32_mod] at h_40
        refine ww_aload_n hX (pc := 54) dX11_mean_54 rfl ?_
        refine ww_getR hX (pc := 55) fX11_20 (by decide) (xs_49 hL) (xr_49_3 hL) dX11_mean_55 ?_
        refine ww_sipush hX (pc := 58) (x := 305) dX11_mean_58 (by decide) ?_
        refine ww_iald hX (pc := 61) (xs_51 hL) (by decide) (by omega) (by omega) dX11_mean_61 ?_
        refine ww_toI (b := I_22 51 305) rfl ?_
        refine ww_iconst hX (pc := 62) (x := 1) dX11_mean_62 rfl ?_
        refine ww_isub hX (pc := 63) dX11_mean_63 ?_
        refine ww_i2l hX (pc := 64) dX11_mean_64 ?_
        refine ww_lmul hX (pc := 65) dX11_mean_65 ?_
        refine ww_nmL (fun v_66 hv_66 => ?_)
        refine ww_lstore_n hX (pc := 66) (lv' := [some (kR (some 49)), some (kI a), some (kI b), some (kL v_66), none, none, none]) dX11_mean_66 (by decide) rfl rfl ?_
        have hdn : 1 ≤ v_66 ∧ v_66 ≤ 46118408 := by rw [hv_66, w32_id (by omega) (by omega), h_31]; exact mul_small (pow_7 (by omega) (by omega) (by omega)) (by omega)
        refine ww_lload_n hX (pc := 67) dX11_mean_67 rfl ?_
        refine ww_aload_n hX (pc := 68) dX11_mean_68 rfl ?_
        refine ww_getR hX (pc := 69) fX11_58 (by decide) (xs_49 hL) (xr_49_24 hL) dX11_mean_69 ?_
        refine ww_iload_n hX (pc := 72) dX11_mean_72 rfl ?_
        refine ww_lald hX (pc := 73) (xs_62 hL) (by decide) (by omega) (by omega) dX11_mean_73 ?_
        refine sJ2 hX (pc := 74) sX11_297 (c_X11_gcd l0 ) (by decide) (Nat.le_refl 0) (Nat.le_refl 0) (Nat.le_of_ble_eq_true rfl) dX11_mean_74 (fun x_74 I_74 J_74 h_74 => ?_)
        obtain ⟨rfl, rfl, h_74⟩ := h_74
        refine ww_lstore hX (pc := 77) (lv' := [some (kR (some 49)), some (kI a), some (kI b), some (kL v_66), none, some (kL x_74), none]) dX11_mean_77 (by decide) rfl rfl ?_
        refine ww_iload_n hX (pc := 79) dX11_mean_79 rfl ?_
        refine ww_if_ne hX (pc := 80) (tgt := 92) dX11_mean_80 (by decide) (fun h_80 => ?_) (fun h_80 => ?_)
        · simp only [w32_mod] at h_80
          refine ww_lload_n hX (pc := 92) dX11_mean_92 rfl ?_
          refine ww_lload hX (pc := 93) dX11_mean_93 rfl ?_
          refine ww_ldiv hX (pc := 95) dX11_mean_95 (by exact h_74 (by rw [w64_id (by omega) (by omega)]; omega)) ?_
          refine rJ hX (pc := 96) hT (Nat.le_refl 0) (Nat.le_refl 0) dX11_mean_96 ?_
          exact ⟨kI_22, kJ_22, cI_22, trivial⟩
        · simp only [w32_mod] at h_80
          refine ww_aload_n hX (pc := 83) dX11_mean_83 rfl ?_
          refine ww_getR hX (pc := 84) fX11_58 (by decide) (xs_49 hL) (xr_49_24 hL) dX11_mean_84 ?_
          refine ww_iload_n hX (pc := 87) dX11_mean_87 rfl ?_
          refine ww_lald hX (pc := 88) (xs_62 hL) (by decide) (by omega) (by omega) dX11_mean_88 ?_
          refine ww_goto hX (pc := 89) (tgt := 93) dX11_mean_89 (by decide) ?_
          refine ww_lload hX (pc := 93) dX11_mean_93 rfl ?_
          refine ww_ldiv hX (pc := 95) dX11_mean_95 (by exact h_74 (by rw [w64_id (by omega) (by omega)]; omega)) ?_
          refine rJ hX (pc := 96) hT (Nat.le_refl 0) (Nat.le_refl 0) dX11_mean_96 ?_
          exact ⟨kI_22, kJ_22, cI_22, trivial⟩
      · simp only [w32_mod] at h_40
        refine ww_aload_n hX (pc := 43) dX11_mean_43 rfl ?_
        refine ww_getR hX (pc := 44) fX11_20 (by decide) (xs_49 hL) (xr_49_3 hL) dX11_mean_44 ?_
        refine ww_sipush hX (pc := 47) (x := 305) dX11_mean_47 (by decide) ?_
        refine ww_iald hX (pc := 50) (xs_51 hL) (by decide) (by omega) (by omega) dX11_mean_50 ?_
        refine ww_toI (b := I_22 51 305) rfl ?_
        refine ww_goto hX (pc := 51) (tgt := 64) dX11_mean_51 (by decide) ?_
        refine ww_i2l hX (pc := 64) dX11_mean_64 ?_
        refine ww_lmul hX (pc := 65) dX11_mean_65 ?_
        refine ww_nmL (fun v_66 hv_66 => ?_)
        refine ww_lstore_n hX (pc := 66) (lv' := [some (kR (some 49)), some (kI a), some (kI b), some (kL v_66), none, none, none]) dX11_mean_66 (by decide) rfl rfl ?_
        have hdn : 1 ≤ v_66 ∧ v_66 ≤ 46118408 := by rw [hv_66, w32_id (by omega) (by omega), h_31]; exact mul_small (pow_7 (by omega) (by omega) (by omega)) (by omega)
        refine ww_lload_n hX (pc := 67) dX11_mean_67 rfl ?_
        refine ww_aload_n hX (pc := 68) dX11_mean_68 rfl ?_
        refine ww_getR hX (pc := 69) fX11_58 (by decide) (xs_49 hL) (xr_49_24 hL) dX11_mean_69 ?_
        refine ww_iload_n hX (pc := 72) dX11_mean_72 rfl ?_
        refine ww_lald hX (pc := 73) (xs_62 hL) (by decide) (by omega) (by omega) dX11_mean_73 ?_
        refine sJ2 hX (pc := 74) sX11_297 (c_X11_gcd l0 ) (by decide) (Nat.le_refl 0) (Nat.le_refl 0) (Nat.le_of_ble_eq_true rfl) dX11_mean_74 (fun x_74 I_74 J_74 h_74 => ?_)
        obtain ⟨rfl, rfl, h_74⟩ := h_74
        refine ww_lstore hX (pc := 77) (lv' := [some (kR (some 49)), some (kI a), some (kI b), some (kL v_66), none, some (kL x_74), none]) dX11_mean_77 (by decide) rfl rfl ?_
        refine ww_iload_n hX (pc := 79) dX11_mean_79 rfl ?_
        refine ww_if_ne hX (pc := 80) (tgt := 92) dX11_mean_80 (by decide) (fun h_80 => ?_) (fun h_80 => ?_)
        · simp only [w32_mod] at h_80
          refine ww_lload_n hX (pc := 92) dX11_mean_92 rfl ?_
          refine ww_lload hX (pc := 93) dX11_mean_93 rfl ?_
          refine ww_ldiv hX (pc := 95) dX11_mean_95 (by exact h_74 (by rw [w64_id (by omega) (by omega)]; omega)) ?_
          refine rJ hX (pc := 96) hT (Nat.le_refl 0) (Nat.le_refl 0) dX11_mean_96 ?_
          exact ⟨kI_22, kJ_22, cI_22, trivial⟩
        · simp only [w32_mod] at h_80
          refine ww_aload_n hX (pc := 83) dX11_mean_83 rfl ?_
          refine ww_getR hX (pc := 84) fX11_58 (by decide) (xs_49 hL) (xr_49_24 hL) dX11_mean_84 ?_
          refine ww_iload_n hX (pc := 87) dX11_mean_87 rfl ?_
          refine ww_lald hX (pc := 88) (xs_62 hL) (by decide) (by omega) (by omega) dX11_mean_88 ?_
          refine ww_goto hX (pc := 89) (tgt := 93) dX11_mean_89 (by decide) ?_
          refine ww_lload hX (pc := 93) dX11_mean_93 rfl ?_
          refine ww_ldiv hX (pc := 95) dX11_mean_95 (by exact h_74 (by rw [w64_id (by omega) (by omega)]; omega)) ?_
          refine rJ hX (pc := 96) hT (Nat.le_refl 0) (Nat.le_refl 0) dX11_mean_96 ?_
          exact ⟨kI_22, kJ_22, cI_22, trivial⟩
    · simp only [w32_mod] at h_14
      refine ww_ldc2 hX (pc := 17) (x := (-1)) dX11_mean_17 tb_1398 ?_
      refine rJ hX (pc := 20) hT (Nat.le_refl 0) (Nat.le_refl 0) dX11_mean_20 ?_
      exact ⟨Ch_rf, (Kp_rf (a := 49) (b := 73)), hQ, trivial⟩
set_option maxHeartbeats 4000000 in
set_option maxRecDepth 20000 in
theorem c_X11_reaches (l0 : Launch) {Ia Ja : aI1} {Ra : aR1} {Sa : aS1} (hL : LY Ra Sa) (hQ : RX Ia)  : CT l0 1 0 0 mX11_reaches [kR (some 49)] Ia Ja Ra Sa (cV (fun I' J' => Ch [63] [] Ia I' ∧ Kp 49 73 Ja J' ∧ RX I' ∧ True) Ra Sa) := by
  refine ct_in pn_X11 (Nat.le_of_ble_eq_true rfl) (fun X hX hT hIn => ?_)
  have hX : aK l0 X cX11_reaches 3 RX11 none 1 0 0 := hX
  change WW X 0 [some (kR (some 49)), none, none] [] Ia Ja Ra Sa 0 0
  have qIa := RX_o hQ
  refine ww_iconst hX (pc := 0) (x := 0) dX11_reaches_0 rfl ?_
  refine ww_istore_n hX (pc := 1) (lv' := [some (kR (some 49)), some (kI 0), none]) dX11_reaches_1 (by decide) rfl rfl ?_
  have hl_2 : ∀ (n_2 : Nat) (i : Int) (I2 : aI1) (J2 : aI1), (256 - i).toNat = n_2 → (Ch [63] [] Ia I2 ∧ RX I2 ∧ Kp 49 73 Ja J2 ∧ I2 51 304 = Ia 51 304 ∧ I2 51 305 = Ia 51 305 ∧ (0 ≤ i ∧ i ≤ 256)) → WW X 2 [some (kR (some 49)), some (kI i), none] [] I2 J2 Ra Sa 0 0 := by
    intro n_2
    induction n_2 using Nat.strongRecOn with
    | ind n_2 ih_2 =>
      intro i I2 J2 hm_2 hv_2
      have hq_2 := Sh0_i hm_2
      clear hm_2
      obtain ⟨kI2, cI2, kJ2, r304_I2, r305_I2, hv⟩ := hv_2
      have qI2 := RX_o cI2
      have rf_I2 : FU (I2 51 304) = FU (Ia 51 304) := by rw [r304_I2]
      refine ww_iload_n hX (pc := 2) dX11_reaches_2 rfl ?_
      refine ww_aload_n hX (pc := 3) dX11_reaches_3 rfl ?_
      refine vI0 hX (pc := 4) sX11_112 (xs_49 hL) (c_X11_states l0 hL cI2 ) (by decide) (Nat.le_refl 0) (Nat.le_refl 0) (Nat.le_of_ble_eq_true rfl) dX11_reaches_4 (fun x_4 I_4 J_4 h_4 => ?_)
      obtain ⟨rfl, rfl, h_4⟩ := h_4
      refine ww_icmp_ge hX (pc := 7) (tgt := 31) dX11_reaches_7 (by decide) (fun h_7 => ?_) (fun h_7 => ?_)
      · simp only [w32_mod] at h_7
        refine ww_iconst hX (pc := 31) (x := 0) dX11_reaches_31 rfl ?_
        refine ww_istore_n hX (pc := 32) (lv' := [some (kR (some 49)), some (kI 0), none]) dX11_reaches_32 (by decide) rfl rfl ?_
        have hl_33 : ∀ (n_33 : Nat) (i : Int) (I33 : aI1) (J33 : aI1), (256 - i).toNat = n_33 → (Ch [63] [] Ia I33 ∧ RX I33 ∧ Kp 49 73 Ja J33 ∧ I33 51 304 = I2 51 304 ∧ I33 51 305 = I2 51 305 ∧ (0 ≤ i ∧ i ≤ 256)) → WW X 33 [some (kR (some 49)), some (kI i), none] [] I33 J33 Ra Sa 0 0 := by
          intro n_33
          induction n_33 using Nat.strongRecOn with
          | ind n_33 ih_33 =>
            intro i I33 J33 hm_33 hv_33
            have hq_33 := Sh0_i hm_33
            clear hm_33
            obtain ⟨kI33, cI33, kJ33, r304_I33, r305_I33, hv⟩ := hv_33
            have qI33 := RX_o cI33
            have rf_I33 : FU (I33 51 304) = FU (I2 51 304) := by rw [r304_I33]
            refine ww_iload_n hX (pc := 33) dX11_reaches_33 rfl ?_
            refine ww_aload_n hX (pc := 34) dX11_reaches_34 rfl ?_
            refine vI0 hX (pc := 35) sX11_112 (xs_49 hL) (c_X11_states l0 hL cI33 ) (by decide) (Nat.le_refl 0) (Nat.le_refl 0) (Nat.le_of_ble_eq_true rfl) dX11_reaches_35 (fun x_35 I_35 J_35 h_35 => ?_)
            obtain ⟨rfl, rfl, h_35⟩ := h_35
            refine ww_icmp_ge hX (pc := 38) (tgt := 107) dX11_reaches_38 (by decide) (fun h_38 => ?_) (fun h_38 => ?_)
            · simp only [w32_mod] at h_38
              refine rV hX (pc := 107) hT (Nat.le_refl 0) (Nat.le_refl 0) dX11_reaches_107 ?_
              exact ⟨kI33, kJ33, cI33, trivial⟩
            · simp only [w32_mod] at h_38
              refine ww_iload_n hX (pc := 41) dX11_reaches_41 rfl ?_
              refine ww_iconst hX (pc := 42) (x := 1) dX11_reaches_42 rfl ?_
              refine ww_iadd hX (pc := 43) dX11_reaches_43 ?_
              refine ww_nmI (fun v_44 hv_44 => ?_)
              refine ww_istore_n hX (pc := 44) (lv' := [some (kR (some 49)), some (kI i), some (kI v_44)]) dX11_reaches_44 (by decide) rfl rfl ?_
              have hl_45 : ∀ (n_45 : Nat) (t : Int) (I45 : aI1) (J45 : aI1), (256 - t).toNat = n_45 → (Ch [63] [] Ia I45 ∧ RX I45 ∧ Kp 49 73 Ja J45 ∧ I45 51 304 = I33 51 304 ∧ I45 51 305 = I33 51 305 ∧ (0 ≤ t ∧ t ≤ 256)) → WW X 45 [some (kR (some 49)), some (kI i), some (kI t)] [] I45 J45 Ra Sa 0 0 := by
                intro n_45
                induction n_45 using Nat.strongRecOn with
                | ind n_45 ih_45 =>
                  intro t I45 J45 hm_45 hv_45
                  have hq_45 := Sh0_i hm_45
                  clear hm_45
                  obtain ⟨kI45, cI45, kJ45, r304_I45, r305_I45, hu⟩ := hv_45
                  have qI45 := RX_o cI45
                  have rf_I45 : FU (I45 51 304) = FU (I33 51 304) := by rw [r304_I45]
                  refine ww_iload_n hX (pc := 45) dX11_reaches_45 rfl ?_
                  refine ww_aload_n hX (pc := 46) dX11_reaches_46 rfl ?_
                  refine vI0 hX (pc := 47) sX11_112 (xs_49 hL) (c_X11_states l0 hL cI45 ) (by decide) (Nat.le_refl 0) (Nat.le_refl 0) (Nat.le_of_ble_eq_true rfl) dX11_reaches_47 (fun x_47 I_47 J_47 h_47 => ?_)
                  obtain ⟨rfl, rfl, h_47⟩ := h_47
                  refine ww_icmp_ge hX (pc := 50) (tgt := 101) dX11_reaches_50 (by decide) (fun h_50 => ?_) (fun h_50 => ?_)
                  · simp only [w32_mod] at h_50
                    refine ww_iinc hX (pc := 101) (lv' := [some (kR (some 49)), some (kI (i + 1)), some (kI t)]) dX11_reaches_101 rfl (by decide) rfl rfl ?_
                    refine ww_goto hX (pc := 104) (tgt := 33) dX11_reaches_104 (by decide) ?_
                    refine ww_sub [some (kR (some 49)), some (kI (i + 1)), none] (aLe_s (aLe_s (aLe_n aLe_0))) ?_
                    exact ih_33 _ (by have hm9 := Sh0_e hq_33; omega) (i + 1) I45 J45 rfl ⟨kI45, cI45, kJ45, by omega, by omega, by omega⟩
                  · simp only [w32_mod] at h_50
                    refine ww_aload_n hX (pc := 53) dX11_reaches_53 rfl ?_
                    refine ww_getR hX (pc := 54) fX11_65 (by decide) (xs_49 hL) (xr_49_26 hL) dX11_reaches_54 ?_
                    refine ww_iload_n hX (pc := 57) dX11_reaches_57 rfl ?_
                    refine ww_zald hX (pc := 58) (xs_63 hL) (by decide) (by omega) (by omega) dX11_reaches_58 ?_
                    refine ww_if_eq hX (pc := 59) (tgt := 101) dX11_reaches_59 (by decide) (fun h_59 => ?_) (fun h_59 => ?_)
                    · simp only [w32_mod] at h_59
                      refine ww_iinc hX (pc := 101) (lv' := [some (kR (some 49)), some (kI (i + 1)), some (kI t)]) dX11_reaches_101 rfl (by decide) rfl rfl ?_
                      refine ww_goto hX (pc := 104) (tgt := 33) dX11_reaches_104 (by decide) ?_
                      refine ww_sub [some (kR (some 49)), some (kI (i + 1)), none] (aLe_s (aLe_s (aLe_n aLe_0))) ?_
                      exact ih_33 _ (by have hm9 := Sh0_e hq_33; omega) (i + 1) I45 J45 rfl ⟨kI45, cI45, kJ45, by omega, by omega, by omega⟩
                    · simp only [w32_mod] at h_59
                      refine ww_aload_n hX (pc := 62) dX11_reaches_62 rfl ?_
                      refine ww_iload_n hX (pc := 63) dX11_reaches_63 rfl ?_
                      refine vI1 hX (pc := 64) sX11_126 (xs_49 hL) (c_X11_readOf l0 hL cI45 (by omega) (by omega)) (by decide) (Nat.le_refl 0) (Nat.le_refl 0) (Nat.le_of_ble_eq_true rfl) dX11_reaches_64 (fun x_64 I_64 J_64 h_64 => ?_)
                      obtain ⟨rfl, rfl, h_64⟩ := h_64
                      refine ww_iconst hX (pc := 67) (x := (-1)) dX11_reaches_67 rfl ?_
                      refine ww_icmp_eq hX (pc := 68) (tgt := 95) dX11_reaches_68 (by decide) (fun h_68 => ?_) (fun h_68 => ?_)
                      · simp only [w32_mod] at h_68
                        refine ww_iinc hX (pc := 95) (lv' := [some (kR (some 49)), some (kI i), some (kI (t + 1))]) dX11_reaches_95 rfl (by decide) rfl rfl ?_
                        refine ww_goto hX (pc := 98) (tgt := 45) dX11_reaches_98 (by decide) ?_
                        exact ih_45 _ (by have hm9 := Sh0_e hq_45; omega) (t + 1) I45 J45 rfl ⟨kI45, cI45, kJ45, by omega, by omega, by omega⟩
                      · simp only [w32_mod] at h_68
                        refine ww_aload_n hX (pc := 71) dX11_reaches_71 rfl ?_
                        refine ww_iload_n hX (pc := 72) dX11_reaches_72 rfl ?_
                        refine ww_iload_n hX (pc := 73) dX11_reaches_73 rfl ?_
                        refine ww_aload_n hX (pc := 74) dX11_reaches_74 rfl ?_
                        refine ww_getR hX (pc := 75) fX11_20 (by decide) (xs_49 hL) (xr_49_3 hL) dX11_reaches_75 ?_
                        refine ww_sipush hX (pc := 78) (x := 306) dX11_reaches_78 (by decide) ?_
                        refine ww_iald hX (pc := 81) (xs_51 hL) (by decide) (by omega) (by omega) dX11_reaches_81 ?_
                        refine ww_toI (b := I45 51 306) rfl ?_
                        refine vI3 hX (pc := 82) sX11_271 (xs_49 hL) (c_X11_canCome l0 hL cI45 ) (by decide) (Nat.le_refl 0) (Nat.le_refl 0) (Nat.le_of_ble_eq_true rfl) dX11_reaches_82 (fun x_82 I_82 J_82 h_82 => ?_)
                        obtain ⟨rfl, rfl, h_82⟩ := h_82
                        refine ww_if_eq hX (pc := 85) (tgt := 95) dX11_reaches_85 (by decide) (fun h_85 => ?_) (fun h_85 => ?_)
                        · simp only [w32_mod] at h_85
                          refine ww_iinc hX (pc := 95) (lv' := [some (kR (some 49)), some (kI i), some (kI (t + 1))]) dX11_reaches_95 rfl (by decide) rfl rfl ?_
                          refine ww_goto hX (pc := 98) (tgt := 45) dX11_reaches_98 (by decide) ?_
                          exact ih_45 _ (by have hm9 := Sh0_e hq_45; omega) (t + 1) I45 J45 rfl ⟨kI45, cI45, kJ45, by omega, by omega, by omega⟩
                        · simp only [w32_mod] at h_85
                          have k_82 := h_82.2.mp (by omega)
                          clear h_82
                          refine ww_aload_n hX (pc := 88) dX11_reaches_88 rfl ?_
                          refine ww_getR hX (pc := 89) fX11_65 (by decide) (xs_49 hL) (xr_49_26 hL) dX11_reaches_89 ?_
                          refine ww_iload_n hX (pc := 92) dX11_reaches_92 rfl ?_
                          refine ww_iconst hX (pc := 93) (x := 1) dX11_reaches_93 rfl ?_
                          refine ww_zast hX (pc := 94) (xs_63 hL) (by decide) (by omega) (by omega) (by decide) dX11_reaches_94 ?_
                          refine ww_nmH (fun I_94 eI_94 => ?_)
                          have kI_94 : Ch [63] [] Ia I_94 := by rw [eI_94]; exact Ch_r kI45 (by decide) (by decide)
                          have cI_94 : RX I_94 := by rw [eI_94]; exact RX_r cI45 (by decide)
                          have qI_94 := RX_o cI_94
                          have r304_I_94 : I_94 51 304 = I45 51 304 := by rw [eI_94, up2_off _ _ _ (by decide)]
                          have r305_I_94 : I_94 51 305 = I45 51 305 := by rw [eI_94, up2_off _ _ _ (by decide)]
                          have rf_I_94 : FU (I_94 51 304) = FU (I45 51 304) := by rw [r304_I_94]
                          refine ww_iinc hX (pc := 95) (lv' := [some (kR (some 49)), some (kI i), some (kI (t + 1))]) dX11_reaches_95 rfl (by decide) rfl rfl ?_
                          refine ww_goto hX (pc := 98) (tgt := 45) dX11_reaches_98 (by decide) ?_
                          exact ih_45 _ (by have hm9 := Sh0_e hq_45; omega) (t + 1) I_94 J45 rfl ⟨kI_94, cI_94, kJ45, by omega, by omega, by omega⟩
              exact hl_45 _ v_44 I33 J33 rfl ⟨kI33, cI33, kJ33, rfl, rfl, by omega⟩
        exact hl_33 _ 0 I2 J2 rfl ⟨kI2, cI2, kJ2, rfl, rfl, by omega⟩
      · simp only [w32_mod] at h_7
        refine ww_aload_n hX (pc := 10) dX11_reaches_10 rfl ?_
        refine ww_getR hX (pc := 11) fX11_65 (by decide) (xs_49 hL) (xr_49_26 hL) dX11_reaches_11 ?_
        refine ww_iload_n hX (pc := 14) dX11_reaches_14 rfl ?_
        refine ww_iload_n hX (pc := 15) dX11_reaches_15 rfl ?_
        refine ww_if_ne hX (pc := 16) (tgt := 23) dX11_reaches_16 (by decide) (fun h_16 => ?_) (fun h_16 => ?_)
        · simp only [w32_mod] at h_16
          refine ww_iconst hX (pc := 23) (x := 0) dX11_reaches_23 rfl ?_
          refine ww_zast hX (pc := 24) (xs_63 hL) (by decide) (by omega) (by omega) (by decide) dX11_reaches_24 ?_
          refine ww_nmH (fun I_24 eI_24 => ?_)
          have kI_24 : Ch [63] [] Ia I_24 := by rw [eI_24]; exact Ch_r kI2 (by decide) (by decide)
          have cI_24 : RX I_24 := by rw [eI_24]; exact RX_r cI2 (by decide)
          have qI_24 := RX_o cI_24
          have r304_I_24 : I_24 51 304 = I2 51 304 := by rw [eI_24, up2_off _ _ _ (by decide)]
          have r305_I_24 : I_24 51 305 = I2 51 305 := by rw [eI_24, up2_off _ _ _ (by decide)]
          have rf_I_24 : FU (I_24 51 304) = FU (I2 51 304) := by rw [r304_I_24]
          refine ww_iinc hX (pc := 25) (lv' := [some (kR (some 49)), some (kI (i + 1)), none]) dX11_reaches_25 rfl (by decide) rfl rfl ?_
          refine ww_goto hX (pc := 28) (tgt := 2) dX11_reaches_28 (by decide) ?_
          exact ih_2 _ (by have hm9 := Sh0_e hq_2; omega) (i + 1) I_24 J2 rfl ⟨kI_24, cI_24, kJ2, by omega, by omega, by omega⟩
        · simp only [w32_mod] at h_16
          refine ww_iconst hX (pc := 19) (x := 1) dX11_reaches_19 rfl ?_
          refine ww_goto hX (pc := 20) (tgt := 24) dX11_reaches_20 (by decide) ?_
          refine ww_zast hX (pc := 24) (xs_63 hL) (by decide) (by omega) (by omega) (by decide) dX11_reaches_24 ?_
          refine ww_nmH (fun I_24 eI_24 => ?_)
          have kI_24 : Ch [63] [] Ia I_24 := by rw [eI_24]; exact Ch_r kI2 (by decide) (by decide)
          have cI_24 : RX I_24 := by rw [eI_24]; exact RX_r cI2 (by decide)
          have qI_24 := RX_o cI_24
          have r304_I_24 : I_24 51 304 = I2 51 304 := by rw [eI_24, up2_off _ _ _ (by decide)]
          have r305_I_24 : I_24 51 305 = I2 51 305 := by rw [eI_24, up2_off _ _ _ (by decide)]
          have rf_I_24 : FU (I_24 51 304) = FU (I2 51 304) := by rw [r304_I_24]
          refine ww_iinc hX (pc := 25) (lv' := [some (kR (some 49)), some (kI (i + 1)), none]) dX11_reaches_25 rfl (by decide) rfl rfl ?_
          refine ww_goto hX (pc := 28) (tgt := 2) dX11_reaches_28 (by decide) ?_
          exact ih_2 _ (by have hm9 := Sh0_e hq_2; omega) (i + 1) I_24 J2 rfl ⟨kI_24, cI_24, kJ2, by omega, by omega, by omega⟩
  exact hl_2 _ 0 Ia Ja rfl ⟨Ch_rf, hQ, (Kp_rf (a := 49) (b := 73)), rfl, rfl, by omega⟩
set_option maxHeartbeats 4000000 in
set_option maxRecDepth 20000 in
theorem c_X11_reached (l0 : Launch) {Ia Ja : aI1} {Ra : aR1} {Sa : aS1} (hL : LY Ra Sa) (hQ : RX Ia) {a : Int} (ha0 : -2147483648 ≤ a) (ha1 : a < 2147483648)  : CT l0 2 0 0 mX11_reached [kR (some 49), kI a] Ia Ja Ra Sa (cI (fun x I' J' => Ch [63] [] Ia I' ∧ Kp 49 73 Ja J' ∧ RX I' ∧ True) Ra Sa) := by
  refine ct_in pn_X11 (Nat.le_of_ble_eq_true rfl) (fun X hX hT hIn => ?_)
  have hX : aK l0 X cX11_reached 4 RX11 (some .int) 2 0 0 := hX
  change WW X 0 [some (kR (some 49)), some (kI a), none, none] [] Ia Ja Ra Sa 0 0
  have qIa := RX_o hQ
  refine ww_iload_n hX (pc := 0) dX11_reached_0 rfl ?_
  refine ww_iconst hX (pc := 1) (x := (-1)) dX11_reached_1 rfl ?_
  refine ww_icmp_eq hX (pc := 2) (tgt := 15) dX11_reached_2 (by decide) (fun h_2 => ?_) (fun h_2 => ?_)
  · simp only [w32_mod] at h_2
    refine ww_aload_n hX (pc := 15) dX11_reached_15 rfl ?_
    refine vV0 hX (pc := 16) sX11_315 (xs_49 hL) (c_X11_reaches l0 hL hQ ) (by decide) (Nat.le_refl 0) (Nat.le_refl 0) (Nat.le_of_ble_eq_true rfl) dX11_reached_16 (fun I_16 J_16 h_16 => ?_)
    have kJ_16 : Kp 49 73 Ja J_16 := Kp_tr (Kp_rf (a := 49) (b := 73)) h_16.2.1
    have kI_16 : Ch [63] [] Ia I_16 := Ch_tr Ch_rf (Ch_wd h_16.1 (by decide) (by decide))
    have cI_16 : RX I_16 := h_16.2.2.1
    have qI_16 := RX_o cI_16
    have r304_I_16 : I_16 51 304 = Ia 51 304 := by rw [h_16.1.1 51 (by decide) (by decide)]
    have r305_I_16 : I_16 51 305 = Ia 51 305 := by rw [h_16.1.1 51 (by decide) (by decide)]
    have rf_I_16 : FU (I_16 51 304) = FU (Ia 51 304) := by rw [r304_I_16]
    refine ww_iconst hX (pc := 19) (x := 0) dX11_reached_19 rfl ?_
    refine ww_istore_n hX (pc := 20) (lv' := [some (kR (some 49)), some (kI a), some (kI 0), none]) dX11_reached_20 (by decide) rfl rfl ?_
    refine ww_iconst hX (pc := 21) (x := 0) dX11_reached_21 rfl ?_
    refine ww_istore_n hX (pc := 22) (lv' := [some (kR (some 49)), some (kI a), some (kI 0), some (kI 0)]) dX11_reached_22 (by decide) rfl rfl ?_
    have hl_23 : ∀ (n_23 : Nat) (n : Int) (i : Int), (256 - i).toNat = n_23 → ((0 ≤ i ∧ i ≤ 256)) → WW X 23 [some (kR (some 49)), some (kI a), some (kI n), some (kI i)] [] I_16 J_16 Ra Sa 0 0 := by
      intro n_23
      induction n_23 using Nat.strongRecOn with
      | ind n_23 ih_23 =>
        intro n i hm_23 hv_23
        have hq_23 := Sh0_i hm_23
        clear hm_23
        have hv := hv_23
        refine ww_iload_n hX (pc := 23) dX11_reached_23 rfl ?_
        refine ww_aload_n hX (pc := 24) dX11_reached_24 rfl ?_
        refine vI0 hX (pc := 25) sX11_112 (xs_49 hL) (c_X11_states l0 hL cI_16 ) (by decide) (Nat.le_refl 0) (Nat.le_refl 0) (Nat.le_of_ble_eq_true rfl) dX11_reached_25 (fun x_25 I_25 J_25 h_25 => ?_)
        obtain ⟨rfl, rfl, h_25⟩ := h_25
        refine ww_icmp_ge hX (pc := 28) (tgt := 54) dX11_reached_28 (by decide) (fun h_28 => ?_) (fun h_28 => ?_)
        · simp only [w32_mod] at h_28
          refine ww_iload_n hX (pc := 54) dX11_reached_54 rfl ?_
          refine ww_iconst hX (pc := 55) (x := (-1)) dX11_reached_55 rfl ?_
          refine ww_icmp_ne hX (pc := 56) (tgt := 63) dX11_reached_56 (by decide) (fun h_56 => ?_) (fun h_56 => ?_)
          · simp only [w32_mod] at h_56
            refine ww_aload_n hX (pc := 63) dX11_reached_63 rfl ?_
            refine ww_getR hX (pc := 64) fX11_65 (by decide) (xs_49 hL) (xr_49_26 hL) dX11_reached_64 ?_
            refine ww_iload_n hX (pc := 67) dX11_reached_67 rfl ?_
            refine ww_zald hX (pc := 68) (xs_63 hL) (by decide) (by omega) (by omega) dX11_reached_68 ?_
            refine ww_if_eq hX (pc := 69) (tgt := 76) dX11_reached_69 (by decide) (fun h_69 => ?_) (fun h_69 => ?_)
            · simp only [w32_mod] at h_69
              refine ww_iconst hX (pc := 76) (x := 0) dX11_reached_76 rfl ?_
              refine rI hX (pc := 77) hT (Nat.le_refl 0) (Nat.le_refl 0) dX11_reached_77 ?_
              exact ⟨kI_16, kJ_16, cI_16, trivial⟩
            · simp only [w32_mod] at h_69
              refine ww_iconst hX (pc := 72) (x := 1) dX11_reached_72 rfl ?_
              refine ww_goto hX (pc := 73) (tgt := 77) dX11_reached_73 (by decide) ?_
              refine rI hX (pc := 77) hT (Nat.le_refl 0) (Nat.le_refl 0) dX11_reached_77 ?_
              exact ⟨kI_16, kJ_16, cI_16, trivial⟩
          · simp only [w32_mod] at h_56
            refine ww_iload_n hX (pc := 59) dX11_reached_59 rfl ?_
            refine ww_goto hX (pc := 60) (tgt := 77) dX11_reached_60 (by decide) ?_
            refine rI hX (pc := 77) hT (Nat.le_refl 0) (Nat.le_refl 0) dX11_reached_77 ?_
            exact ⟨kI_16, kJ_16, cI_16, trivial⟩
        · simp only [w32_mod] at h_28
          refine ww_iload_n hX (pc := 31) dX11_reached_31 rfl ?_
          refine ww_aload_n hX (pc := 32) dX11_reached_32 rfl ?_
          refine ww_getR hX (pc := 33) fX11_65 (by decide) (xs_49 hL) (xr_49_26 hL) dX11_reached_33 ?_
          refine ww_iload_n hX (pc := 36) dX11_reached_36 rfl ?_
          refine ww_zald hX (pc := 37) (xs_63 hL) (by decide) (by omega) (by omega) dX11_reached_37 ?_
          refine ww_if_eq hX (pc := 38) (tgt := 45) dX11_reached_38 (by decide) (fun h_38 => ?_) (fun h_38 => ?_)
          · simp only [w32_mod] at h_38
            refine ww_iconst hX (pc := 45) (x := 0) dX11_reached_45 rfl ?_
            refine ww_iadd hX (pc := 46) dX11_reached_46 ?_
            refine ww_nmI (fun v_47 hv_47 => ?_)
            refine ww_istore_n hX (pc := 47) (lv' := [some (kR (some 49)), some (kI a), some (kI v_47), some (kI i)]) dX11_reached_47 (by decide) rfl rfl ?_
            refine ww_iinc hX (pc := 48) (lv' := [some (kR (some 49)), some (kI a), some (kI v_47), some (kI (i + 1))]) dX11_reached_48 rfl (by decide) rfl rfl ?_
            refine ww_goto hX (pc := 51) (tgt := 23) dX11_reached_51 (by decide) ?_
            exact ih_23 _ (by have hm9 := Sh0_e hq_23; omega) v_47 (i + 1) rfl (by omega)
          · simp only [w32_mod] at h_38
            refine ww_iconst hX (pc := 41) (x := 1) dX11_reached_41 rfl ?_
            refine ww_goto hX (pc := 42) (tgt := 46) dX11_reached_42 (by decide) ?_
            refine ww_iadd hX (pc := 46) dX11_reached_46 ?_
            refine ww_nmI (fun v_47 hv_47 => ?_)
            refine ww_istore_n hX (pc := 47) (lv' := [some (kR (some 49)), some (kI a), some (kI v_47), some (kI i)]) dX11_reached_47 (by decide) rfl rfl ?_
            refine ww_iinc hX (pc := 48) (lv' := [some (kR (some 49)), some (kI a), some (kI v_47), some (kI (i + 1))]) dX11_reached_48 rfl (by decide) rfl rfl ?_
            refine ww_goto hX (pc := 51) (tgt := 23) dX11_reached_51 (by decide) ?_
            exact ih_23 _ (by have hm9 := Sh0_e hq_23; omega) v_47 (i + 1) rfl (by omega)
    exact hl_23 _ 0 0 rfl (by omega)
  · simp only [w32_mod] at h_2
    refine ww_aload_n hX (pc := 5) dX11_reached_5 rfl ?_
    refine ww_iload_n hX (pc := 6) dX11_reached_6 rfl ?_
    refine vI1 hX (pc := 7) sX11_120 (xs_49 hL) (c_X11_isState l0 hL hQ (by omega) (by omega)) (by decide) (Nat.le_refl 0) (Nat.le_refl 0) (Nat.le_of_ble_eq_true rfl) dX11_reached_7 (fun x_7 I_7 J_7 h_7 => ?_)
    obtain ⟨rfl, rfl, h_7⟩ := h_7
    refine ww_if_ne hX (pc := 10) (tgt := 15) dX11_reached_10 (by decide) (fun h_10 => ?_) (fun h_10 => ?_)
    · simp only [w32_mod] at h_10
      have k_7 := h_7.2.mp (by omega)
      clear h_7
      refine ww_aload_n hX (pc := 15) dX11_reached_15 rfl ?_
      refine vV0 hX (pc := 16) sX11_315 (xs_49 hL) (c_X11_reaches l0 hL hQ ) (by decide) (Nat.le_refl 0) (Nat.le_refl 0) (Nat.le_of_ble_eq_true rfl) dX11_reached_16 (fun I_16 J_16 h_16 => ?_)
      have kJ_16 : Kp 49 73 Ja J_16 := Kp_tr (Kp_rf (a := 49) (b := 73)) h_16.2.1
      have kI_16 : Ch [63] [] Ia I_16 := Ch_tr Ch_rf (Ch_wd h_16.1 (by decide) (by decide))
      have cI_16 : RX I_16 := h_16.2.2.1
      have qI_16 := RX_o cI_16
      have r304_I_16 : I_16 51 304 = Ia 51 304 := by rw [h_16.1.1 51 (by decide) (by decide)]
      have r305_I_16 : I_16 51 305 = Ia 51 305 := by rw [h_16.1.1 51 (by decide) (by decide)]
      have rf_I_16 : FU (I_16 51 304) = FU (Ia 51 304) := by rw [r304_I_16]
      refine ww_iconst hX (pc := 19) (x := 0) dX11_reached_19 rfl ?_
      refine ww_istore_n hX (pc := 20) (lv' := [some (kR (some 49)), some (kI a), some (kI 0), none]) dX11_reached_20 (by decide) rfl rfl ?_
      refine ww_iconst hX (pc := 21) (x := 0) dX11_reached_21 rfl ?_
      refine ww_istore_n hX (pc := 22) (lv' := [some (kR (some 49)), some (kI a), some (kI 0), some (kI 0)]) dX11_reached_22 (by decide) rfl rfl ?_
      have hl_23 : ∀ (n_23 : Nat) (n : Int) (i : Int), (256 - i).toNat = n_23 → ((0 ≤ i ∧ i ≤ 256)) → WW X 23 [some (kR (some 49)), some (kI a), some (kI n), some (kI i)] [] I_16 J_16 Ra Sa 0 0 := by
        intro n_23
        induction n_23 using Nat.strongRecOn with
        | ind n_23 ih_23 =>
          intro n i hm_23 hv_23
          have hq_23 := Sh0_i hm_23
          clear hm_23
          have hv := hv_23
          refine ww_iload_n hX (pc := 23) dX11_reached_23 rfl ?_
          refine ww_aload_n hX (pc := 24) dX11_reached_24 rfl ?_
          refine vI0 hX (pc := 25) sX11_112 (xs_49 hL) (c_X11_states l0 hL cI_16 ) (by decide) (Nat.le_refl 0) (Nat.le_refl 0) (Nat.le_of_ble_eq_true rfl) dX11_reached_25 (fun x_25 I_25 J_25 h_25 => ?_)
          obtain ⟨rfl, rfl, h_25⟩ := h_25
          refine ww_icmp_ge hX (pc := 28) (tgt := 54) dX11_reached_28 (by decide) (fun h_28 => ?_) (fun h_28 => ?_)
          · simp only [w32_mod] at h_28
            refine ww_iload_n hX (pc := 54) dX11_reached_54 rfl ?_
            refine ww_iconst hX (pc := 55) (x := (-1)) dX11_reached_55 rfl ?_
            refine ww_icmp_ne hX (pc := 56) (tgt := 63) dX11_reached_56 (by decide) (fun h_56 => ?_) (fun h_56 => ?_)
            · simp only [w32_mod] at h_56
              refine ww_aload_n hX (pc := 63) dX11_reached_63 rfl ?_
              refine ww_getR hX (pc := 64) fX11_65 (by decide) (xs_49 hL) (xr_49_26 hL) dX11_reached_64 ?_
              refine ww_iload_n hX (pc := 67) dX11_reached_67 rfl ?_
              refine ww_zald hX (pc := 68) (xs_63 hL) (by decide) (by omega) (by omega) dX11_reached_68 ?_
              refine ww_if_eq hX (pc := 69) (tgt := 76) dX11_reached_69 (by decide) (fun h_69 => ?_) (fun h_69 => ?_)
              · simp only [w32_mod] at h_69
                refine ww_iconst hX (pc := 76) (x := 0) dX11_reached_76 rfl ?_
                refine rI hX (pc := 77) hT (Nat.le_refl 0) (Nat.le_refl 0) dX11_reached_77 ?_
                exact ⟨kI_16, kJ_16, cI_16, trivial⟩
              · simp only [w32_mod] at h_69
                refine ww_iconst hX (pc := 72) (x := 1) dX11_reached_72 rfl ?_
                refine ww_goto hX (pc := 73) (tgt := 77) dX11_reached_73 (by decide) ?_
                refine rI hX (pc := 77) hT (Nat.le_refl 0) (Nat.le_refl 0) dX11_reached_77 ?_
                exact ⟨kI_16, kJ_16, cI_16, trivial⟩
            · simp only [w32_mod] at h_56
              refine ww_iload_n hX (pc := 59) dX11_reached_59 rfl ?_
              refine ww_goto hX (pc := 60) (tgt := 77) dX11_reached_60 (by decide) ?_
              refine rI hX (pc := 77) hT (Nat.le_refl 0) (Nat.le_refl 0) dX11_reached_77 ?_
              exact ⟨kI_16, kJ_16, cI_16, trivial⟩
          · simp only [w32_mod] at h_28
            refine ww_iload_n hX (pc := 31) dX11_reached_31 rfl ?_
            refine ww_aload_n hX (pc := 32) dX11_reached_32 rfl ?_
            refine ww_getR hX (pc := 33) fX11_65 (by decide) (xs_49 hL) (xr_49_26 hL) dX11_reached_33 ?_
            refine ww_iload_n hX (pc := 36) dX11_reached_36 rfl ?_
            refine ww_zald hX (pc := 37) (xs_63 hL) (by decide) (by omega) (by omega) dX11_reached_37 ?_
            refine ww_if_eq hX (pc := 38) (tgt := 45) dX11_reached_38 (by decide) (fun h_38 => ?_) (fun h_38 => ?_)
            · simp only [w32_mod] at h_38
              refine ww_iconst hX (pc := 45) (x := 0) dX11_reached_45 rfl ?_
              refine ww_iadd hX (pc := 46) dX11_reached_46 ?_
              refine ww_nmI (fun v_47 hv_47 => ?_)
              refine ww_istore_n hX (pc := 47) (lv' := [some (kR (some 49)), some (kI a), some (kI v_47), some (kI i)]) dX11_reached_47 (by decide) rfl rfl ?_
              refine ww_iinc hX (pc := 48) (lv' := [some (kR (some 49)), some (kI a), some (kI v_47), some (kI (i + 1))]) dX11_reached_48 rfl (by decide) rfl rfl ?_
              refine ww_goto hX (pc := 51) (tgt := 23) dX11_reached_51 (by decide) ?_
              exact ih_23 _ (by have hm9 := Sh0_e hq_23; omega) v_47 (i + 1) rfl (by omega)
            · simp only [w32_mod] at h_38
              refine ww_iconst hX (pc := 41) (x := 1) dX11_reached_41 rfl ?_
              refine ww_goto hX (pc := 42) (tgt := 46) dX11_reached_42 (by decide) ?_
              refine ww_iadd hX (pc := 46) dX11_reached_46 ?_
              refine ww_nmI (fun v_47 hv_47 => ?_)
              refine ww_istore_n hX (pc := 47) (lv' := [some (kR (some 49)), some (kI a), some (kI v_47), some (kI i)]) dX11_reached_47 (by decide) rfl rfl ?_
              refine ww_iinc hX (pc := 48) (lv' := [some (kR (some 49)), some (kI a), some (kI v_47), some (kI (i + 1))]) dX11_reached_48 rfl (by decide) rfl rfl ?_
              refine ww_goto hX (pc := 51) (tgt := 23) dX11_reached_51 (by decide) ?_
              exact ih_23 _ (by have hm9 := Sh0_e hq_23; omega) v_47 (i + 1) rfl (by omega)
      exact hl_23 _ 0 0 rfl (by omega)
    · simp only [w32_mod] at h_10
      refine ww_iconst hX (pc := 13) (x := (-1)) dX11_reached_13 rfl ?_
      refine rI hX (pc := 14) hT (Nat.le_refl 0) (Nat.le_refl 0) dX11_reached_14 ?_
      exact ⟨Ch_rf, (Kp_rf (a := 49) (b := 73)), hQ, trivial⟩
set_option maxHeartbeats 4000000 in
set_option maxRecDepth 20000 in
theorem c_X11_maybe (l0 : Launch) {Ia Ja : aI1} {Ra : aR1} {Sa : aS1} (hL : LY Ra Sa) (hQ : RX Ia) {a b : Int} (ha0 : -2147483648 ≤ a) (ha1 : a < 2147483648) (hb0 : -2147483648 ≤ b) (hb1 : b < 2147483648)  : CT l0 2 0 0 mX11_maybe [kR (some 49), kI a, kI b] Ia Ja Ra Sa (cI (fun x I' J' => Ch [63] [] Ia I' ∧ Kp 49 73 Ja J' ∧ RX I' ∧ True) Ra Sa) := by
  refine ct_in pn_X11 (Nat.le_of_ble_eq_true rfl) (fun X hX hT hIn => ?_)
  have hX : aK l0 X cX11_maybe 5 RX11 (some .int) 2 0 0 := hX
  change WW X 0 [some (kR (some 49)), some (kI a), some (kI b), none, none] [] Ia Ja Ra Sa 0 0
  have qIa := RX_o hQ
  refine ww_aload_n hX (pc := 0) dX11_maybe_0 rfl ?_
  refine ww_iload_n hX (pc := 1) dX11_maybe_1 rfl ?_
  refine vI1 hX (pc := 2) sX11_120 (xs_49 hL) (c_X11_isState l0 hL hQ (by omega) (by omega)) (by decide) (Nat.le_refl 0) (Nat.le_refl 0) (Nat.le_of_ble_eq_true rfl) dX11_maybe_2 (fun x_2 I_2 J_2 h_2 => ?_)
  obtain ⟨rfl, rfl, h_2⟩ := h_2
  refine ww_if_eq hX (pc := 5) (tgt := 18) dX11_maybe_5 (by decide) (fun h_5 => ?_) (fun h_5 => ?_)
  · simp only [w32_mod] at h_5
    refine ww_iconst hX (pc := 18) (x := (-1)) dX11_maybe_18 rfl ?_
    refine rI hX (pc := 19) hT (Nat.le_refl 0) (Nat.le_refl 0) dX11_maybe_19 ?_
    exact ⟨Ch_rf, (Kp_rf (a := 49) (b := 73)), hQ, trivial⟩
  · simp only [w32_mod] at h_5
    have k_2 := h_2.2.mp (by omega)
    clear h_2
    refine ww_iload_n hX (pc := 8) dX11_maybe_8 rfl ?_
    refine ww_iconst hX (pc := 9) (x := 0) dX11_maybe_9 rfl ?_
    refine ww_bipush hX (pc := 10) (x := 8) dX11_maybe_10 (by decide) ?_
    refine sI3 hX (pc := 12) sX11_101 (c_X11_lies l0 (by omega) (by omega) (by omega) (by omega) (by omega) (by omega)) (by decide) (Nat.le_refl 0) (Nat.le_refl 0) (Nat.le_of_ble_eq_true rfl) dX11_maybe_12 (fun x_12 I_12 J_12 h_12 => ?_)
    obtain ⟨rfl, rfl, h_12⟩ := h_12
    refine ww_if_ne hX (pc := 15) (tgt := 20) dX11_maybe_15 (by decide) (fun h_15 => ?_) (fun h_15 => ?_)
    · simp only [w32_mod] at h_15
      have k_12 := h_12.2.mp (by omega)
      clear h_12
      refine ww_aload_n hX (pc := 20) dX11_maybe_20 rfl ?_
      refine vV0 hX (pc := 21) sX11_315 (xs_49 hL) (c_X11_reaches l0 hL hQ ) (by decide) (Nat.le_refl 0) (Nat.le_refl 0) (Nat.le_of_ble_eq_true rfl) dX11_maybe_21 (fun I_21 J_21 h_21 => ?_)
      have kJ_21 : Kp 49 73 Ja J_21 := Kp_tr (Kp_rf (a := 49) (b := 73)) h_21.2.1
      have kI_21 : Ch [63] [] Ia I_21 := Ch_tr Ch_rf (Ch_wd h_21.1 (by decide) (by decide))
      have cI_21 : RX I_21 := h_21.2.2.1
      have qI_21 := RX_o cI_21
      have r304_I_21 : I_21 51 304 = Ia 51 304 := by rw [h_21.1.1 51 (by decide) (by decide)]
      have r305_I_21 : I_21 51 305 = Ia 51 305 := by rw [h_21.1.1 51 (by decide) (by decide)]
      have rf_I_21 : FU (I_21 51 304) = FU (Ia 51 304) := by rw [r304_I_21]
      refine ww_iconst hX (pc := 24) (x := 0) dX11_maybe_24 rfl ?_
      refine ww_istore_n hX (pc := 25) (lv' := [some (kR (some 49)), some (kI a), some (kI b), some (kI 0), none]) dX11_maybe_25 (by decide) rfl rfl ?_
      refine ww_iload_n hX (pc := 26) dX11_maybe_26 rfl ?_
      refine ww_istore hX (pc := 27) (lv' := [some (kR (some 49)), some (kI a), some (kI b), some (kI 0), some (kI a)]) dX11_maybe_27 (by decide) rfl rfl ?_
      have hl_29 : ∀ (n_29 : Nat) (n : Int) (t : Int), (256 - t).toNat = n_29 → ((0 ≤ t ∧ t ≤ 256)) → WW X 29 [some (kR (some 49)), some (kI a), some (kI b), some (kI n), some (kI t)] [] I_21 J_21 Ra Sa 0 0 := by
        intro n_29
        induction n_29 using Nat.strongRecOn with
        | ind n_29 ih_29 =>
          intro n t hm_29 hv_29
          have hq_29 := Sh0_i hm_29
          clear hm_29
          have hv := hv_29
          refine ww_iload hX (pc := 29) dX11_maybe_29 rfl ?_
          refine ww_aload_n hX (pc := 31) dX11_maybe_31 rfl ?_
          refine vI0 hX (pc := 32) sX11_112 (xs_49 hL) (c_X11_states l0 hL cI_21 ) (by decide) (Nat.le_refl 0) (Nat.le_refl 0) (Nat.le_of_ble_eq_true rfl) dX11_maybe_32 (fun x_32 I_32 J_32 h_32 => ?_)
          obtain ⟨rfl, rfl, h_32⟩ := h_32
          refine ww_icmp_ge hX (pc := 35) (tgt := 97) dX11_maybe_35 (by decide) (fun h_35 => ?_) (fun h_35 => ?_)
          · simp only [w32_mod] at h_35
            refine ww_iload_n hX (pc := 97) dX11_maybe_97 rfl ?_
            refine rI hX (pc := 98) hT (Nat.le_refl 0) (Nat.le_refl 0) dX11_maybe_98 ?_
            exact ⟨kI_21, kJ_21, cI_21, trivial⟩
          · simp only [w32_mod] at h_35
            refine ww_aload_n hX (pc := 38) dX11_maybe_38 rfl ?_
            refine ww_getR hX (pc := 39) fX11_65 (by decide) (xs_49 hL) (xr_49_26 hL) dX11_maybe_39 ?_
            refine ww_iload hX (pc := 42) dX11_maybe_42 rfl ?_
            refine ww_zald hX (pc := 44) (xs_63 hL) (by decide) (by omega) (by omega) dX11_maybe_44 ?_
            refine ww_if_eq hX (pc := 45) (tgt := 91) dX11_maybe_45 (by decide) (fun h_45 => ?_) (fun h_45 => ?_)
            · simp only [w32_mod] at h_45
              refine ww_iinc hX (pc := 91) (lv' := [some (kR (some 49)), some (kI a), some (kI b), some (kI n), some (kI (t + 1))]) dX11_maybe_91 rfl (by decide) rfl rfl ?_
              refine ww_goto hX (pc := 94) (tgt := 29) dX11_maybe_94 (by decide) ?_
              exact ih_29 _ (by have hm9 := Sh0_e hq_29; omega) n (t + 1) rfl (by omega)
            · simp only [w32_mod] at h_45
              refine ww_aload_n hX (pc := 48) dX11_maybe_48 rfl ?_
              refine ww_iload hX (pc := 49) dX11_maybe_49 rfl ?_
              refine vI1 hX (pc := 51) sX11_126 (xs_49 hL) (c_X11_readOf l0 hL cI_21 (by omega) (by omega)) (by decide) (Nat.le_refl 0) (Nat.le_refl 0) (Nat.le_of_ble_eq_true rfl) dX11_maybe_51 (fun x_51 I_51 J_51 h_51 => ?_)
              obtain ⟨rfl, rfl, h_51⟩ := h_51
              refine ww_iconst hX (pc := 54) (x := (-1)) dX11_maybe_54 rfl ?_
              refine ww_icmp_eq hX (pc := 55) (tgt := 91) dX11_maybe_55 (by decide) (fun h_55 => ?_) (fun h_55 => ?_)
              · simp only [w32_mod] at h_55
                refine ww_iinc hX (pc := 91) (lv' := [some (kR (some 49)), some (kI a), some (kI b), some (kI n), some (kI (t + 1))]) dX11_maybe_91 rfl (by decide) rfl rfl ?_
                refine ww_goto hX (pc := 94) (tgt := 29) dX11_maybe_94 (by decide) ?_
                exact ih_29 _ (by have hm9 := Sh0_e hq_29; omega) n (t + 1) rfl (by omega)
              · simp only [w32_mod] at h_55
                refine ww_iload_n hX (pc := 58) dX11_maybe_58 rfl ?_
                refine ww_iload hX (pc := 59) dX11_maybe_59 rfl ?_
                refine ww_iconst hX (pc := 61) (x := (-1)) dX11_maybe_61 rfl ?_
                refine ww_ixor hX (pc := 62) dX11_maybe_62 ?_
                refine ww_iand hX (pc := 63) dX11_maybe_63 ?_
                refine ww_if_ne hX (pc := 64) (tgt := 91) dX11_maybe_64 (by decide) (fun h_64 => ?_) (fun h_64 => ?_)
                · simp only [w32_mod] at h_64
                  refine ww_iinc hX (pc := 91) (lv' := [some (kR (some 49)), some (kI a), some (kI b), some (kI n), some (kI (t + 1))]) dX11_maybe_91 rfl (by decide) rfl rfl ?_
                  refine ww_goto hX (pc := 94) (tgt := 29) dX11_maybe_94 (by decide) ?_
                  exact ih_29 _ (by have hm9 := Sh0_e hq_29; omega) n (t + 1) rfl (by omega)
                · simp only [w32_mod] at h_64
                  refine ww_iload hX (pc := 67) dX11_maybe_67 rfl ?_
                  refine ww_iload_n hX (pc := 69) dX11_maybe_69 rfl ?_
                  refine ww_iconst hX (pc := 70) (x := (-1)) dX11_maybe_70 rfl ?_
                  refine ww_ixor hX (pc := 71) dX11_maybe_71 ?_
                  refine ww_iand hX (pc := 72) dX11_maybe_72 ?_
                  refine sI1 hX (pc := 73) sX11_259 (c_X11_ones l0 ) (by decide) (Nat.le_refl 0) (Nat.le_refl 0) (Nat.le_of_ble_eq_true rfl) dX11_maybe_73 (fun x_73 I_73 J_73 h_73 => ?_)
                  obtain ⟨rfl, rfl, h_73⟩ := h_73
                  refine ww_iload_n hX (pc := 76) dX11_maybe_76 rfl ?_
                  refine ww_icmp_gt hX (pc := 77) (tgt := 91) dX11_maybe_77 (by decide) (fun h_77 => ?_) (fun h_77 => ?_)
                  · simp only [w32_mod] at h_77
                    refine ww_iinc hX (pc := 91) (lv' := [some (kR (some 49)), some (kI a), some (kI b), some (kI n), some (kI (t + 1))]) dX11_maybe_91 rfl (by decide) rfl rfl ?_
                    refine ww_goto hX (pc := 94) (tgt := 29) dX11_maybe_94 (by decide) ?_
                    exact ih_29 _ (by have hm9 := Sh0_e hq_29; omega) n (t + 1) rfl (by omega)
                  · simp only [w32_mod] at h_77
                    refine ww_iload_n hX (pc := 80) dX11_maybe_80 rfl ?_
                    refine ww_iconst hX (pc := 81) (x := 1) dX11_maybe_81 rfl ?_
                    refine ww_aload_n hX (pc := 82) dX11_maybe_82 rfl ?_
                    refine ww_iload hX (pc := 83) dX11_maybe_83 rfl ?_
                    refine vI1 hX (pc := 85) sX11_126 (xs_49 hL) (c_X11_readOf l0 hL cI_21 (by omega) (by omega)) (by decide) (Nat.le_refl 0) (Nat.le_refl 0) (Nat.le_of_ble_eq_true rfl) dX11_maybe_85 (fun x_85 I_85 J_85 h_85 => ?_)
                    obtain ⟨rfl, rfl, h_85⟩ := h_85
                    refine ww_ishl hX (pc := 88) dX11_maybe_88 ?_
                    refine ww_ior hX (pc := 89) dX11_maybe_89 ?_
                    refine ww_nmI (fun v_90 hv_90 => ?_)
                    refine ww_istore_n hX (pc := 90) (lv' := [some (kR (some 49)), some (kI a), some (kI b), some (kI v_90), some (kI t)]) dX11_maybe_90 (by decide) rfl rfl ?_
                    refine ww_iinc hX (pc := 91) (lv' := [some (kR (some 49)), some (kI a), some (kI b), some (kI v_90), some (kI (t + 1))]) dX11_maybe_91 rfl (by decide) rfl rfl ?_
                    refine ww_goto hX (pc := 94) (tgt := 29) dX11_maybe_94 (by decide) ?_
                    exact ih_29 _ (by have hm9 := Sh0_e hq_29; omega) v_90 (t + 1) rfl (by omega)
      exact hl_29 _ 0 a rfl (by omega)
    · simp only [w32_mod] at h_15
      refine ww_iconst hX (pc := 18) (x := (-1)) dX11_maybe_18 rfl ?_
      refine rI hX (pc := 19) hT (Nat.le_refl 0) (Nat.le_refl 0) dX11_maybe_19 ?_
      exact ⟨Ch_rf, (Kp_rf (a := 49) (b := 73)), hQ, trivial⟩
set_option maxHeartbeats 4000000 in
set_option maxRecDepth 20000 in
theorem c_X11_spy (l0 : Launch) {Ia Ja : aI1} {Ra : aR1} {Sa : aS1} (hL : LY Ra Sa) (hQ : RX Ia) {a : Int} (ha0 : -2147483648 ≤ a) (ha1 : a < 2147483648)  : CT l0 2 0 0 mX11_spy [kR (some 49), kI a] Ia Ja Ra Sa (cI (fun x I' J' => Ch [63] [] Ia I' ∧ Kp 49 73 Ja J' ∧ RX I' ∧ True) Ra Sa) := by
  refine ct_in pn_X11 (Nat.le_of_ble_eq_true rfl) (fun X hX hT hIn => ?_)
  have hX : aK l0 X cX11_spy 4 RX11 (some .int) 2 0 0 := hX
  change WW X 0 [some (kR (some 49)), some (kI a), none, none] [] Ia Ja Ra Sa 0 0
  have qIa := RX_o hQ
  refine ww_iload_n hX (pc := 0) dX11_spy_0 rfl ?_
  refine ww_iconst hX (pc := 1) (x := 0) dX11_spy_1 rfl ?_
  refine ww_bipush hX (pc := 2) (x := 8) dX11_spy_2 (by decide) ?_
  refine sI3 hX (pc := 4) sX11_101 (c_X11_lies l0 (by omega) (by omega) (by omega) (by omega) (by omega) (by omega)) (by decide) (Nat.le_refl 0) (Nat.le_refl 0) (Nat.le_of_ble_eq_true rfl) dX11_spy_4 (fun x_4 I_4 J_4 h_4 => ?_)
  obtain ⟨rfl, rfl, h_4⟩ := h_4
  refine ww_if_ne hX (pc := 7) (tgt := 12) dX11_spy_7 (by decide) (fun h_7 => ?_) (fun h_7 => ?_)
  · simp only [w32_mod] at h_7
    have k_4 := h_4.2.mp (by omega)
    clear h_4
    refine ww_aload_n hX (pc := 12) dX11_spy_12 rfl ?_
    refine vV0 hX (pc := 13) sX11_315 (xs_49 hL) (c_X11_reaches l0 hL hQ ) (by decide) (Nat.le_refl 0) (Nat.le_refl 0) (Nat.le_of_ble_eq_true rfl) dX11_spy_13 (fun I_13 J_13 h_13 => ?_)
    have kJ_13 : Kp 49 73 Ja J_13 := Kp_tr (Kp_rf (a := 49) (b := 73)) h_13.2.1
    have kI_13 : Ch [63] [] Ia I_13 := Ch_tr Ch_rf (Ch_wd h_13.1 (by decide) (by decide))
    have cI_13 : RX I_13 := h_13.2.2.1
    have qI_13 := RX_o cI_13
    have r304_I_13 : I_13 51 304 = Ia 51 304 := by rw [h_13.1.1 51 (by decide) (by decide)]
    have r305_I_13 : I_13 51 305 = Ia 51 305 := by rw [h_13.1.1 51 (by decide) (by decide)]
    have rf_I_13 : FU (I_13 51 304) = FU (Ia 51 304) := by rw [r304_I_13]
    refine ww_iconst hX (pc := 16) (x := 0) dX11_spy_16 rfl ?_
    refine ww_istore_n hX (pc := 17) (lv' := [some (kR (some 49)), some (kI a), some (kI 0), none]) dX11_spy_17 (by decide) rfl rfl ?_
    refine ww_iconst hX (pc := 18) (x := 0) dX11_spy_18 rfl ?_
    refine ww_istore_n hX (pc := 19) (lv' := [some (kR (some 49)), some (kI a), some (kI 0), some (kI 0)]) dX11_spy_19 (by decide) rfl rfl ?_
    have hl_20 : ∀ (n_20 : Nat) (n : Int) (t : Int), (256 - t).toNat = n_20 → ((0 ≤ t ∧ t ≤ 256)) → WW X 20 [some (kR (some 49)), some (kI a), some (kI n), some (kI t)] [] I_13 J_13 Ra Sa 0 0 := by
      intro n_20
      induction n_20 using Nat.strongRecOn with
      | ind n_20 ih_20 =>
        intro n t hm_20 hv_20
        have hq_20 := Sh0_i hm_20
        clear hm_20
        have hv := hv_20
        refine ww_iload_n hX (pc := 20) dX11_spy_20 rfl ?_
        refine ww_aload_n hX (pc := 21) dX11_spy_21 rfl ?_
        refine vI0 hX (pc := 22) sX11_112 (xs_49 hL) (c_X11_states l0 hL cI_13 ) (by decide) (Nat.le_refl 0) (Nat.le_refl 0) (Nat.le_of_ble_eq_true rfl) dX11_spy_22 (fun x_22 I_22 J_22 h_22 => ?_)
        obtain ⟨rfl, rfl, h_22⟩ := h_22
        refine ww_icmp_ge hX (pc := 25) (tgt := 70) dX11_spy_25 (by decide) (fun h_25 => ?_) (fun h_25 => ?_)
        · simp only [w32_mod] at h_25
          refine ww_iload_n hX (pc := 70) dX11_spy_70 rfl ?_
          refine rI hX (pc := 71) hT (Nat.le_refl 0) (Nat.le_refl 0) dX11_spy_71 ?_
          exact ⟨kI_13, kJ_13, cI_13, trivial⟩
        · simp only [w32_mod] at h_25
          refine ww_aload_n hX (pc := 28) dX11_spy_28 rfl ?_
          refine ww_getR hX (pc := 29) fX11_65 (by decide) (xs_49 hL) (xr_49_26 hL) dX11_spy_29 ?_
          refine ww_iload_n hX (pc := 32) dX11_spy_32 rfl ?_
          refine ww_zald hX (pc := 33) (xs_63 hL) (by decide) (by omega) (by omega) dX11_spy_33 ?_
          refine ww_if_eq hX (pc := 34) (tgt := 64) dX11_spy_34 (by decide) (fun h_34 => ?_) (fun h_34 => ?_)
          · simp only [w32_mod] at h_34
            refine ww_iinc hX (pc := 64) (lv' := [some (kR (some 49)), some (kI a), some (kI n), some (kI (t + 1))]) dX11_spy_64 rfl (by decide) rfl rfl ?_
            refine ww_goto hX (pc := 67) (tgt := 20) dX11_spy_67 (by decide) ?_
            exact ih_20 _ (by have hm9 := Sh0_e hq_20; omega) n (t + 1) rfl (by omega)
          · simp only [w32_mod] at h_34
            refine ww_aload_n hX (pc := 37) dX11_spy_37 rfl ?_
            refine ww_iload_n hX (pc := 38) dX11_spy_38 rfl ?_
            refine vI1 hX (pc := 39) sX11_126 (xs_49 hL) (c_X11_readOf l0 hL cI_13 (by omega) (by omega)) (by decide) (Nat.le_refl 0) (Nat.le_refl 0) (Nat.le_of_ble_eq_true rfl) dX11_spy_39 (fun x_39 I_39 J_39 h_39 => ?_)
            obtain ⟨rfl, rfl, h_39⟩ := h_39
            refine ww_iconst hX (pc := 42) (x := (-1)) dX11_spy_42 rfl ?_
            refine ww_icmp_eq hX (pc := 43) (tgt := 64) dX11_spy_43 (by decide) (fun h_43 => ?_) (fun h_43 => ?_)
            · simp only [w32_mod] at h_43
              refine ww_iinc hX (pc := 64) (lv' := [some (kR (some 49)), some (kI a), some (kI n), some (kI (t + 1))]) dX11_spy_64 rfl (by decide) rfl rfl ?_
              refine ww_goto hX (pc := 67) (tgt := 20) dX11_spy_67 (by decide) ?_
              exact ih_20 _ (by have hm9 := Sh0_e hq_20; omega) n (t + 1) rfl (by omega)
            · simp only [w32_mod] at h_43
              refine ww_iload_n hX (pc := 46) dX11_spy_46 rfl ?_
              refine sI1 hX (pc := 47) sX11_259 (c_X11_ones l0 ) (by decide) (Nat.le_refl 0) (Nat.le_refl 0) (Nat.le_of_ble_eq_true rfl) dX11_spy_47 (fun x_47 I_47 J_47 h_47 => ?_)
              obtain ⟨rfl, rfl, h_47⟩ := h_47
              refine ww_iload_n hX (pc := 50) dX11_spy_50 rfl ?_
              refine ww_icmp_ne hX (pc := 51) (tgt := 64) dX11_spy_51 (by decide) (fun h_51 => ?_) (fun h_51 => ?_)
              · simp only [w32_mod] at h_51
                refine ww_iinc hX (pc := 64) (lv' := [some (kR (some 49)), some (kI a), some (kI n), some (kI (t + 1))]) dX11_spy_64 rfl (by decide) rfl rfl ?_
                refine ww_goto hX (pc := 67) (tgt := 20) dX11_spy_67 (by decide) ?_
                exact ih_20 _ (by have hm9 := Sh0_e hq_20; omega) n (t + 1) rfl (by omega)
              · simp only [w32_mod] at h_51
                refine ww_iload_n hX (pc := 54) dX11_spy_54 rfl ?_
                refine ww_iconst hX (pc := 55) (x := 1) dX11_spy_55 rfl ?_
                refine ww_aload_n hX (pc := 56) dX11_spy_56 rfl ?_
                refine ww_iload_n hX (pc := 57) dX11_spy_57 rfl ?_
                refine vI1 hX (pc := 58) sX11_126 (xs_49 hL) (c_X11_readOf l0 hL cI_13 (by omega) (by omega)) (by decide) (Nat.le_refl 0) (Nat.le_refl 0) (Nat.le_of_ble_eq_true rfl) dX11_spy_58 (fun x_58 I_58 J_58 h_58 => ?_)
                obtain ⟨rfl, rfl, h_58⟩ := h_58
                refine ww_ishl hX (pc := 61) dX11_spy_61 ?_
                refine ww_ior hX (pc := 62) dX11_spy_62 ?_
                refine ww_nmI (fun v_63 hv_63 => ?_)
                refine ww_istore_n hX (pc := 63) (lv' := [some (kR (some 49)), some (kI a), some (kI v_63), some (kI t)]) dX11_spy_63 (by decide) rfl rfl ?_
                refine ww_iinc hX (pc := 64) (lv' := [some (kR (some 49)), some (kI a), some (kI v_63), some (kI (t + 1))]) dX11_spy_64 rfl (by decide) rfl rfl ?_
                refine ww_goto hX (pc := 67) (tgt := 20) dX11_spy_67 (by decide) ?_
                exact ih_20 _ (by have hm9 := Sh0_e hq_20; omega) v_63 (t + 1) rfl (by omega)
    exact hl_20 _ 0 0 rfl (by omega)
  · simp only [w32_mod] at h_7
    refine ww_iconst hX (pc := 10) (x := (-1)) dX11_spy_10 rfl ?_
    refine rI hX (pc := 11) hT (Nat.le_refl 0) (Nat.le_refl 0) dX11_spy_11 ?_
    exact ⟨Ch_rf, (Kp_rf (a := 49) (b := 73)), hQ, trivial⟩
set_option maxHeartbeats 4000000 in
set_option maxRecDepth 20000 in
theorem c_X11_safe (l0 : Launch) {Ia Ja : aI1} {Ra : aR1} {Sa : aS1} (hL : LY Ra Sa) (hQ : RX Ia)  : CT l0 2 0 0 mX11_safe [kR (some 49)] Ia Ja Ra Sa (cI (fun x I' J' => Ch [63] [] Ia I' ∧ Kp 49 73 Ja J' ∧ RX I' ∧ True) Ra Sa) := by
  refine ct_in pn_X11 (Nat.le_of_ble_eq_true rfl) (fun X hX hT hIn => ?_)
  have hX : aK l0 X cX11_safe 5 RX11 (some .int) 2 0 0 := hX
  change WW X 0 [some (kR (some 49)), none, none, none, none] [] Ia Ja Ra Sa 0 0
  have qIa := RX_o hQ
  refine ww_aload_n hX (pc := 0) dX11_safe_0 rfl ?_
  refine vV0 hX (pc := 1) sX11_315 (xs_49 hL) (c_X11_reaches l0 hL hQ ) (by decide) (Nat.le_refl 0) (Nat.le_refl 0) (Nat.le_of_ble_eq_true rfl) dX11_safe_1 (fun I_1 J_1 h_1 => ?_)
  have kJ_1 : Kp 49 73 Ja J_1 := Kp_tr (Kp_rf (a := 49) (b := 73)) h_1.2.1
  have kI_1 : Ch [63] [] Ia I_1 := Ch_tr Ch_rf (Ch_wd h_1.1 (by decide) (by decide))
  have cI_1 : RX I_1 := h_1.2.2.1
  have qI_1 := RX_o cI_1
  have r304_I_1 : I_1 51 304 = Ia 51 304 := by rw [h_1.1.1 51 (by decide) (by decide)]
  have r305_I_1 : I_1 51 305 = Ia 51 305 := by rw [h_1.1.1 51 (by decide) (by decide)]
  have rf_I_1 : FU (I_1 51 304) = FU (Ia 51 304) := by rw [r304_I_1]
  refine ww_bipush hX (pc := 4) (x := 9) dX11_safe_4 (by decide) ?_
  refine ww_istore_n hX (pc := 6) (lv' := [some (kR (some 49)), some (kI 9), none, none, none]) dX11_safe_6 (by decide) rfl rfl ?_
  refine ww_iconst hX (pc := 7) (x := 0) dX11_safe_7 rfl ?_
  refine ww_istore_n hX (pc := 8) (lv' := [some (kR (some 49)), some (kI 9), some (kI 0), none, none]) dX11_safe_8 (by decide) rfl rfl ?_
  have hl_9 : ∀ (n_9 : Nat) (n : Int) (i : Int), (256 - i).toNat = n_9 → ((0 ≤ i ∧ i ≤ 256)) → WW X 9 [some (kR (some 49)), some (kI n), some (kI i), none, none] [] I_1 J_1 Ra Sa 0 0 := by
    intro n_9
    induction n_9 using Nat.strongRecOn with
    | ind n_9 ih_9 =>
      intro n i hm_9 hv_9
      have hq_9 := Sh0_i hm_9
      clear hm_9
      have hv := hv_9
      refine ww_iload_n hX (pc := 9) dX11_safe_9 rfl ?_
      refine ww_aload_n hX (pc := 10) dX11_safe_10 rfl ?_
      refine vI0 hX (pc := 11) sX11_112 (xs_49 hL) (c_X11_states l0 hL cI_1 ) (by decide) (Nat.le_refl 0) (Nat.le_refl 0) (Nat.le_of_ble_eq_true rfl) dX11_safe_11 (fun x_11 I_11 J_11 h_11 => ?_)
      obtain ⟨rfl, rfl, h_11⟩ := h_11
      refine ww_icmp_ge hX (pc := 14) (tgt := 122) dX11_safe_14 (by decide) (fun h_14 => ?_) (fun h_14 => ?_)
      · simp only [w32_mod] at h_14
        refine ww_iload_n hX (pc := 122) dX11_safe_122 rfl ?_
        refine ww_iconst hX (pc := 123) (x := 1) dX11_safe_123 rfl ?_
        refine ww_isub hX (pc := 124) dX11_safe_124 ?_
        refine rI hX (pc := 125) hT (Nat.le_refl 0) (Nat.le_refl 0) dX11_safe_125 ?_
        exact ⟨kI_1, kJ_1, cI_1, trivial⟩
      · simp only [w32_mod] at h_14
        refine ww_iconst hX (pc := 17) (x := 0) dX11_safe_17 rfl ?_
        refine ww_istore_n hX (pc := 18) (lv' := [some (kR (some 49)), some (kI n), some (kI i), some (kI 0), none]) dX11_safe_18 (by decide) rfl rfl ?_
        have hl_19 : ∀ (n_19 : Nat) (n2 : Int) (t : Int), (i - t).toNat = n_19 → ((0 ≤ t ∧ t ≤ i)) → WW X 19 [some (kR (some 49)), some (kI n2), some (kI i), some (kI t), none] [] I_1 J_1 Ra Sa 0 0 := by
          intro n_19
          induction n_19 using Nat.strongRecOn with
          | ind n_19 ih_19 =>
            intro n2 t hm_19 hv_19
            have hq_19 := Sh0_i hm_19
            clear hm_19
            have hu := hv_19
            refine ww_iload_n hX (pc := 19) dX11_safe_19 rfl ?_
            refine ww_iload_n hX (pc := 20) dX11_safe_20 rfl ?_
            refine ww_icmp_ge hX (pc := 21) (tgt := 116) dX11_safe_21 (by decide) (fun h_21 => ?_) (fun h_21 => ?_)
            · simp only [w32_mod] at h_21
              refine ww_iinc hX (pc := 116) (lv' := [some (kR (some 49)), some (kI n2), some (kI (i + 1)), some (kI t), none]) dX11_safe_116 rfl (by decide) rfl rfl ?_
              refine ww_goto hX (pc := 119) (tgt := 9) dX11_safe_119 (by decide) ?_
              refine ww_sub [some (kR (some 49)), some (kI n2), some (kI (i + 1)), none, none] (aLe_s (aLe_s (aLe_s (aLe_n (aLe_n aLe_0))))) ?_
              exact ih_9 _ (by have hm9 := Sh0_e hq_9; omega) n2 (i + 1) rfl (by omega)
            · simp only [w32_mod] at h_21
              refine ww_aload_n hX (pc := 24) dX11_safe_24 rfl ?_
              refine ww_getR hX (pc := 25) fX11_65 (by decide) (xs_49 hL) (xr_49_26 hL) dX11_safe_25 ?_
              refine ww_iload_n hX (pc := 28) dX11_safe_28 rfl ?_
              refine ww_zald hX (pc := 29) (xs_63 hL) (by decide) (by omega) (by omega) dX11_safe_29 ?_
              refine ww_if_eq hX (pc := 30) (tgt := 110) dX11_safe_30 (by decide) (fun h_30 => ?_) (fun h_30 => ?_)
              · simp only [w32_mod] at h_30
                refine ww_iinc hX (pc := 110) (lv' := [some (kR (some 49)), some (kI n2), some (kI i), some (kI (t + 1)), none]) dX11_safe_110 rfl (by decide) rfl rfl ?_
                refine ww_goto hX (pc := 113) (tgt := 19) dX11_safe_113 (by decide) ?_
                exact ih_19 _ (by have hm9 := Sh0_e hq_19; omega) n2 (t + 1) rfl (by omega)
              · simp only [w32_mod] at h_30
                refine ww_aload_n hX (pc := 33) dX11_safe_33 rfl ?_
                refine ww_getR hX (pc := 34) fX11_65 (by decide) (xs_49 hL) (xr_49_26 hL) dX11_safe_34 ?_
                refine ww_iload_n hX (pc := 37) dX11_safe_37 rfl ?_
                refine ww_zald hX (pc := 38) (xs_63 hL) (by decide) (by omega) (by omega) dX11_safe_38 ?_
                refine ww_if_eq hX (pc := 39) (tgt := 110) dX11_safe_39 (by decide) (fun h_39 => ?_) (fun h_39 => ?_)
                · simp only [w32_mod] at h_39
                  refine ww_iinc hX (pc := 110) (lv' := [some (kR (some 49)), some (kI n2), some (kI i), some (kI (t + 1)), none]) dX11_safe_110 rfl (by decide) rfl rfl ?_
                  refine ww_goto hX (pc := 113) (tgt := 19) dX11_safe_113 (by decide) ?_
                  exact ih_19 _ (by have hm9 := Sh0_e hq_19; omega) n2 (t + 1) rfl (by omega)
                · simp only [w32_mod] at h_39
                  refine ww_aload_n hX (pc := 42) dX11_safe_42 rfl ?_
                  refine ww_iload_n hX (pc := 43) dX11_safe_43 rfl ?_
                  refine vI1 hX (pc := 44) sX11_126 (xs_49 hL) (c_X11_readOf l0 hL cI_1 (by omega) (by omega)) (by decide) (Nat.le_refl 0) (Nat.le_refl 0) (Nat.le_of_ble_eq_true rfl) dX11_safe_44 (fun x_44 I_44 J_44 h_44 => ?_)
                  obtain ⟨rfl, rfl, h_44⟩ := h_44
                  refine ww_iconst hX (pc := 47) (x := (-1)) dX11_safe_47 rfl ?_
                  refine ww_icmp_eq hX (pc := 48) (tgt := 110) dX11_safe_48 (by decide) (fun h_48 => ?_) (fun h_48 => ?_)
                  · simp only [w32_mod] at h_48
                    refine ww_iinc hX (pc := 110) (lv' := [some (kR (some 49)), some (kI n2), some (kI i), some (kI (t + 1)), none]) dX11_safe_110 rfl (by decide) rfl rfl ?_
                    refine ww_goto hX (pc := 113) (tgt := 19) dX11_safe_113 (by decide) ?_
                    exact ih_19 _ (by have hm9 := Sh0_e hq_19; omega) n2 (t + 1) rfl (by omega)
                  · simp only [w32_mod] at h_48
                    refine ww_aload_n hX (pc := 51) dX11_safe_51 rfl ?_
                    refine ww_iload_n hX (pc := 52) dX11_safe_52 rfl ?_
                    refine vI1 hX (pc := 53) sX11_126 (xs_49 hL) (c_X11_readOf l0 hL cI_1 (by omega) (by omega)) (by decide) (Nat.le_refl 0) (Nat.le_refl 0) (Nat.le_of_ble_eq_true rfl) dX11_safe_53 (fun x_53 I_53 J_53 h_53 => ?_)
                    obtain ⟨rfl, rfl, h_53⟩ := h_53
                    refine ww_iconst hX (pc := 56) (x := (-1)) dX11_safe_56 rfl ?_
                    refine ww_icmp_eq hX (pc := 57) (tgt := 110) dX11_safe_57 (by decide) (fun h_57 => ?_) (fun h_57 => ?_)
                    · simp only [w32_mod] at h_57
                      refine ww_iinc hX (pc := 110) (lv' := [some (kR (some 49)), some (kI n2), some (kI i), some (kI (t + 1)), none]) dX11_safe_110 rfl (by decide) rfl rfl ?_
                      refine ww_goto hX (pc := 113) (tgt := 19) dX11_safe_113 (by decide) ?_
                      exact ih_19 _ (by have hm9 := Sh0_e hq_19; omega) n2 (t + 1) rfl (by omega)
                    · simp only [w32_mod] at h_57
                      refine ww_aload_n hX (pc := 60) dX11_safe_60 rfl ?_
                      refine ww_iload_n hX (pc := 61) dX11_safe_61 rfl ?_
                      refine vI1 hX (pc := 62) sX11_126 (xs_49 hL) (c_X11_readOf l0 hL cI_1 (by omega) (by omega)) (by decide) (Nat.le_refl 0) (Nat.le_refl 0) (Nat.le_of_ble_eq_true rfl) dX11_safe_62 (fun x_62 I_62 J_62 h_62 => ?_)
                      obtain ⟨rfl, rfl, h_62⟩ := h_62
                      refine ww_aload_n hX (pc := 65) dX11_safe_65 rfl ?_
                      refine ww_iload_n hX (pc := 66) dX11_safe_66 rfl ?_
                      refine vI1 hX (pc := 67) sX11_126 (xs_49 hL) (c_X11_readOf l0 hL cI_1 (by omega) (by omega)) (by decide) (Nat.le_refl 0) (Nat.le_refl 0) (Nat.le_of_ble_eq_true rfl) dX11_safe_67 (fun x_67 I_67 J_67 h_67 => ?_)
                      obtain ⟨rfl, rfl, h_67⟩ := h_67
                      refine ww_icmp_ne hX (pc := 70) (tgt := 76) dX11_safe_70 (by decide) (fun h_70 => ?_) (fun h_70 => ?_)
                      · simp only [w32_mod] at h_70
                        refine ww_iload_n hX (pc := 76) dX11_safe_76 rfl ?_
                        refine ww_iload_n hX (pc := 77) dX11_safe_77 rfl ?_
                        refine ww_iconst hX (pc := 78) (x := (-1)) dX11_safe_78 rfl ?_
                        refine ww_ixor hX (pc := 79) dX11_safe_79 ?_
                        refine ww_iand hX (pc := 80) dX11_safe_80 ?_
                        refine sI1 hX (pc := 81) sX11_259 (c_X11_ones l0 ) (by decide) (Nat.le_refl 0) (Nat.le_refl 0) (Nat.le_of_ble_eq_true rfl) dX11_safe_81 (fun x_81 I_81 J_81 h_81 => ?_)
                        obtain ⟨rfl, rfl, h_81⟩ := h_81
                        refine ww_iload_n hX (pc := 84) dX11_safe_84 rfl ?_
                        refine ww_iload_n hX (pc := 85) dX11_safe_85 rfl ?_
                        refine ww_iconst hX (pc := 86) (x := (-1)) dX11_safe_86 rfl ?_
                        refine ww_ixor hX (pc := 87) dX11_safe_87 ?_
                        refine ww_iand hX (pc := 88) dX11_safe_88 ?_
                        refine sI1 hX (pc := 89) sX11_259 (c_X11_ones l0 ) (by decide) (Nat.le_refl 0) (Nat.le_refl 0) (Nat.le_of_ble_eq_true rfl) dX11_safe_89 (fun x_89 I_89 J_89 h_89 => ?_)
                        obtain ⟨rfl, rfl, h_89⟩ := h_89
                        refine sI2 hX (pc := 92) sX11_132 (c_X11_greater l0 (by omega) (by omega) (by omega) (by omega)) (by decide) (Nat.le_refl 0) (Nat.le_refl 0) (Nat.le_of_ble_eq_true rfl) dX11_safe_92 (fun x_92 I_92 J_92 h_92 => ?_)
                        obtain ⟨rfl, rfl, h_92⟩ := h_92
                        refine ww_istore hX (pc := 95) (lv' := [some (kR (some 49)), some (kI n2), some (kI i), some (kI t), some (kI x_92)]) dX11_safe_95 (by decide) rfl rfl ?_
                        refine ww_iload hX (pc := 97) dX11_safe_97 rfl ?_
                        refine ww_iload_n hX (pc := 99) dX11_safe_99 rfl ?_
                        refine ww_icmp_ge hX (pc := 100) (tgt := 108) dX11_safe_100 (by decide) (fun h_100 => ?_) (fun h_100 => ?_)
                        · simp only [w32_mod] at h_100
                          refine ww_iload_n hX (pc := 108) dX11_safe_108 rfl ?_
                          refine ww_istore_n hX (pc := 109) (lv' := [some (kR (some 49)), some (kI n2), some (kI i), some (kI t), some (kI x_92)]) dX11_safe_109 (by decide) rfl rfl ?_
                          refine ww_iinc hX (pc := 110) (lv' := [some (kR (some 49)), some (kI n2), some (kI i), some (kI (t + 1)), some (kI x_92)]) dX11_safe_110 rfl (by decide) rfl rfl ?_
                          refine ww_goto hX (pc := 113) (tgt := 19) dX11_safe_113 (by decide) ?_
                          refine ww_sub [some (kR (some 49)), some (kI n2), some (kI i), some (kI (t + 1)), none] (aLe_s (aLe_s (aLe_s (aLe_s (aLe_n aLe_0))))) ?_
                          exact ih_19 _ (by have hm9 := Sh0_e hq_19; omega) n2 (t + 1) rfl (by omega)
                        · simp only [w32_mod] at h_100
                          refine ww_iload hX (pc := 103) dX11_safe_103 rfl ?_
                          refine ww_goto hX (pc := 105) (tgt := 109) dX11_safe_105 (by decide) ?_
                          refine ww_istore_n hX (pc := 109) (lv' := [some (kR (some 49)), some (kI x_92), some (kI i), some (kI t), some (kI x_92)]) dX11_safe_109 (by decide) rfl rfl ?_
                          refine ww_iinc hX (pc := 110) (lv' := [some (kR (some 49)), some (kI x_92), some (kI i), some (kI (t + 1)), some (kI x_92)]) dX11_safe_110 rfl (by decide) rfl rfl ?_
                          refine ww_goto hX (pc := 113) (tgt := 19) dX11_safe_113 (by decide) ?_
                          refine ww_sub [some (kR (some 49)), some (kI x_92), some (kI i), some (kI (t + 1)), none] (aLe_s (aLe_s (aLe_s (aLe_s (aLe_n aLe_0))))) ?_
                          exact ih_19 _ (by have hm9 := Sh0_e hq_19; omega) x_92 (t + 1) rfl (by omega)
                      · simp only [w32_mod] at h_70
                        refine ww_goto hX (pc := 73) (tgt := 110) dX11_safe_73 (by decide) ?_
                        refine ww_iinc hX (pc := 110) (lv' := [some (kR (some 49)), some (kI n2), some (kI i), some (kI (t + 1)), none]) dX11_safe_110 rfl (by decide) rfl rfl ?_
                        refine ww_goto hX (pc := 113) (tgt := 19) dX11_safe_113 (by decide) ?_
                        exact ih_19 _ (by have hm9 := Sh0_e hq_19; omega) n2 (t + 1) rfl (by omega)
        exact hl_19 _ n 0 rfl (by omega)
  exact hl_9 _ 9 0 rfl (by omega)
set_option maxHeartbeats 4000000 in
set_option maxRecDepth 20000 in
theorem c_X11_hurts (l0 : Launch) {Ia Ja : aI1} {Ra : aR1} {Sa : aS1} (hL : LY Ra Sa) (hQ : RX Ia) {a : Int} (ha0 : -2147483648 ≤ a) (ha1 : a < 2147483648)  : CT l0 3 0 0 mX11_hurts [kR (some 49), kI a] Ia Ja Ra Sa (cI (fun x I' J' => Ch [61] [25] Ia I' ∧ Kp 49 73 Ja J' ∧ RX I' ∧ True) Ra Sa) := by
  refine ct_in pn_X11 (Nat.le_of_ble_eq_true rfl) (fun X hX hT hIn => ?_)
  have hX : aK l0 X cX11_hurts 3 RX11 (some .int) 3 0 0 := hX
  change WW X 0 [some (kR (some 49)), some (kI a), none] [] Ia Ja Ra Sa 0 0
  have qIa := RX_o hQ
  refine ww_aload_n hX (pc := 0) dX11_hurts_0 rfl ?_
  refine ww_iload_n hX (pc := 1) dX11_hurts_1 rfl ?_
  refine vI1 hX (pc := 2) sX11_116 (xs_49 hL) (c_X11_isLamp l0 hL hQ (by omega) (by omega)) (by decide) (Nat.le_refl 0) (Nat.le_refl 0) (Nat.le_of_ble_eq_true rfl) dX11_hurts_2 (fun x_2 I_2 J_2 h_2 => ?_)
  obtain ⟨rfl, rfl, h_2⟩ := h_2
  refine ww_if_ne hX (pc := 5) (tgt := 10) dX11_hurts_5 (by decide) (fun h_5 => ?_) (fun h_5 => ?_)
  · simp only [w32_mod] at h_5
    have k_2 := h_2.2.mp (by omega)
    clear h_2
    refine ww_aload_n hX (pc := 10) dX11_hurts_10 rfl ?_
    refine ww_aload_n hX (pc := 11) dX11_hurts_11 rfl ?_
    refine ww_getR hX (pc := 12) fX11_20 (by decide) (xs_49 hL) (xr_49_3 hL) dX11_hurts_12 ?_
    refine ww_sipush hX (pc := 15) (x := 306) dX11_hurts_15 (by decide) ?_
    refine ww_iald hX (pc := 18) (xs_51 hL) (by decide) (by omega) (by omega) dX11_hurts_18 ?_
    refine ww_toI (b := Ia 51 306) rfl ?_
    refine ww_iconst hX (pc := 19) (x := 1) dX11_hurts_19 rfl ?_
    refine ww_iload_n hX (pc := 20) dX11_hurts_20 rfl ?_
    refine ww_ishl hX (pc := 21) dX11_hurts_21 ?_
    refine ww_ior hX (pc := 22) dX11_hurts_22 ?_
    refine vV1 hX (pc := 23) sX11_285 (xs_49 hL) (c_X11_lasts0 l0 hL hQ ) (by decide) (Nat.le_refl 0) (Nat.le_refl 0) (Nat.le_of_ble_eq_true rfl) dX11_hurts_23 (fun I_23 J_23 h_23 => ?_)
    have kJ_23 : Kp 49 73 Ja J_23 := Kp_tr (Kp_rf (a := 49) (b := 73)) h_23.2.1
    have kI_23 : Ch [61] [25] Ia I_23 := Ch_tr Ch_rf (Ch_wd h_23.1 (by decide) (by decide))
    have cI_23 : RX I_23 := h_23.2.2.1
    have qI_23 := RX_o cI_23
    have r304_I_23 : I_23 51 304 = Ia 51 304 := by rw [h_23.1.1 51 (by decide) (by decide)]
    have r305_I_23 : I_23 51 305 = Ia 51 305 := by rw [h_23.1.1 51 (by decide) (by decide)]
    have rf_I_23 : FU (I_23 51 304) = FU (Ia 51 304) := by rw [r304_I_23]
    refine ww_aload_n hX (pc := 26) dX11_hurts_26 rfl ?_
    refine ww_getR hX (pc := 27) fX11_55 (by decide) (xs_49 hL) (xr_49_23 hL) dX11_hurts_27 ?_
    refine ww_iconst hX (pc := 30) (x := 0) dX11_hurts_30 rfl ?_
    refine ww_iald hX (pc := 31) (xs_61 hL) (by decide) (by omega) (by omega) dX11_hurts_31 ?_
    refine ww_toI (b := I_23 61 0) rfl ?_
    refine ww_nmI (fun v_32 hv_32 => ?_)
    refine ww_istore_n hX (pc := 32) (lv' := [some (kR (some 49)), some (kI a), some (kI v_32)]) dX11_hurts_32 (by decide) rfl rfl ?_
    refine ww_aload_n hX (pc := 33) dX11_hurts_33 rfl ?_
    refine ww_iconst hX (pc := 34) (x := (-1)) dX11_hurts_34 rfl ?_
    refine ww_putI hX (pc := 35) (fun h9 => absurd h9 (by decide)) gX11_62 rfl (xs_49 hL) dX11_hurts_35 ?_
    refine ww_nmH (fun I_35 eI_35 => ?_)
    have kI_35 : Ch [61] [25] Ia I_35 := by rw [eI_35]; exact Ch_f kI_23 (by decide)
    have cI_35 : RX I_35 := by rw [eI_35]; exact RX_f cI_23 (by decide)
    have qI_35 := RX_o cI_35
    have r304_I_35 : I_35 51 304 = I_23 51 304 := by rw [eI_35, up2_off _ _ _ (by decide)]
    have r305_I_35 : I_35 51 305 = I_23 51 305 := by rw [eI_35, up2_off _ _ _ (by decide)]
    have rf_I_35 : FU (I_35 51 304) = FU (I_23 51 304) := by rw [r304_I_35]
    refine ww_iload_n hX (pc := 38) dX11_hurts_38 rfl ?_
    refine rI hX (pc := 39) hT (Nat.le_refl 0) (Nat.le_refl 0) dX11_hurts_39 ?_
    exact ⟨kI_35, kJ_23, cI_35, trivial⟩
  · simp only [w32_mod] at h_5
    refine ww_iconst hX (pc := 8) (x := (-1)) dX11_hurts_8 rfl ?_
    refine rI hX (pc := 9) hT (Nat.le_refl 0) (Nat.le_refl 0) dX11_hurts_9 ?_
    exact ⟨Ch_rf, (Kp_rf (a := 49) (b := 73)), hQ, trivial⟩
