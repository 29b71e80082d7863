set_option maxHeartbeats 4000000 in
set_option maxRecDepth 20000 in
theorem c8_X11_gcd (l0 : Launch) {Ia Ja : aI1} {Ra : aR1} {Sa : aS1} {a b : Int} (ha0 : 0 ≤ a) (ha1 : a < 4611686018427387904) (hb0 : 0 ≤ b) (hb1 : b < 4611686018427387904)  : CT l0 0 0 0 mX11_gcd [kL a, kL b] Ia Ja Ra Sa (cJ (fun x I' J' => Ia = I' ∧ Ja = J' ∧ x = gq a b) Ra Sa) := by
  refine ct_in pn_X11 (Nat.le_of_ble_eq_true rfl) (fun X hX hT hIn => ?_)
  have hX : aK l0 X cX11_gcd 10 RX11 (some .long) 0 0 0 := hX
  change WW X 0 [some (kL a), none, some (kL b), none, none, none, none, none, none, none] [] Ia Ja Ra Sa 0 0
  refine ww_lload_n hX (pc := 0) dX11_gcd_0 rfl ?_
  refine ww_lstore hX (pc := 1) (lv' := [some (kL a), none, some (kL b), none, some (kL a), none, none, none, none, none]) dX11_gcd_1 (by decide) rfl rfl ?_
  refine ww_lload_n hX (pc := 3) dX11_gcd_3 rfl ?_
  refine ww_lstore hX (pc := 4) (lv' := [some (kL a), none, some (kL b), none, some (kL a), none, some (kL b), none, none, none]) dX11_gcd_4 (by decide) rfl rfl ?_
  have hl_6 : ∀ (n_6 : Nat) (xx : Int) (yy : Int), yy.toNat = n_6 → (((0 ≤ xx ∧ xx < 4611686018427387904) ∧ (0 ≤ yy ∧ yy < 4611686018427387904)) ∧ Nat.gcd xx.toNat yy.toNat = Nat.gcd a.toNat b.toNat) → WW X 6 [some (kL a), none, some (kL b), none, some (kL xx), none, some (kL yy), none, none, none] [] Ia Ja Ra Sa 0 0 := by
    intro n_6
    induction n_6 using Nat.strongRecOn with
    | ind n_6 ih_6 =>
      intro xx yy hm_6 hv_6
      have hq_6 := Sh0_i hm_6
      clear hm_6
      obtain ⟨hv, hgg⟩ := hv_6
      refine ww_lload hX (pc := 6) dX11_gcd_6 rfl ?_
      refine ww_lconst hX (pc := 8) (x := 0) dX11_gcd_8 (by decide) ?_
      refine ww_lcmp hX (pc := 9) dX11_gcd_9 ?_
      have hlc := l_cmp_v yy 0
      rw [w64_id (x := yy) (by omega) (by omega), show w64 0 = 0 from rfl] at hlc
      refine ww_if_le hX (pc := 10) (tgt := 31) dX11_gcd_10 (by decide) (fun h_10 => ?_) (fun h_10 => ?_)
      · simp only [w32_mod] at h_10
        refine ww_lload hX (pc := 31) dX11_gcd_31 rfl ?_
        refine rJ hX (pc := 33) hT (Nat.le_refl 0) (Nat.le_refl 0) dX11_gcd_33 ?_
        exact ⟨rfl, rfl, (by unfold gq; rw [← hgg, show yy.toNat = 0 by omega, Nat.gcd_zero_right]; omega)⟩
      · simp only [w32_mod] at h_10
        refine ww_lload hX (pc := 13) dX11_gcd_13 rfl ?_
        refine ww_lload hX (pc := 15) dX11_gcd_15 rfl ?_
        refine ww_lrem hX (pc := 17) dX11_gcd_17 (by rw [w64_id (by omega) (by omega)]; omega) ?_
        refine ww_toL (b := xx % yy) (l_rem_v (by omega) (by omega) (by omega) (by omega)) ?_
        have hmn := Int.emod_nonneg xx (show yy ≠ 0 by omega)
        have hml := Int.emod_lt_of_pos xx (show 0 < yy by omega)
        refine ww_nmL (fun v_18 hv_18 => ?_)
        refine ww_lstore hX (pc := 18) (lv' := [some (kL a), none, some (kL b), none, some (kL xx), none, some (kL yy), none, some (kL v_18), none]) dX11_gcd_18 (by decide) rfl rfl ?_
        refine ww_lload hX (pc := 20) dX11_gcd_20 rfl ?_
        refine ww_lstore hX (pc := 22) (lv' := [some (kL a), none, some (kL b), none, some (kL yy), none, some (kL yy), none, some (kL v_18), none]) dX11_gcd_22 (by decide) rfl rfl ?_
        refine ww_lload hX (pc := 24) dX11_gcd_24 rfl ?_
        refine ww_lstore hX (pc := 26) (lv' := [some (kL a), none, some (kL b), none, some (kL yy), none, some (kL v_18), none, some (kL v_18), none]) dX11_gcd_26 (by decide) rfl rfl ?_
        refine ww_goto hX (pc := 28) (tgt := 6) dX11_gcd_28 (by decide) ?_
        refine ww_sub [some (kL a), none, some (kL b), none, some (kL yy), none, some (kL v_18), none, none, none] (aLe_s (aLe_n (aLe_s (aLe_n (aLe_s (aLe_n (aLe_s (aLe_n (aLe_n (aLe_n aLe_0)))))))))) ?_
        exact ih_6 _ (by have hm9 := Sh0_e hq_6; omega) yy v_18 rfl ⟨by omega, (by rw [hv_18, toNat_mod (by omega) (by omega), ← hgg, Nat.gcd_comm yy.toNat, ← Nat.gcd_rec, Nat.gcd_comm])⟩
  exact hl_6 _ a b rfl ⟨by omega, rfl⟩
