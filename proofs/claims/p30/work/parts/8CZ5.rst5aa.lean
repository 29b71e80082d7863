theorem cnR_nn (F : Nat → Int) : ∀ n, 0 ≤ cnR F n
  | 0 => Int.le_refl 0
  | n + 1 => by
    have := cnR_nn F n
    show 0 ≤ cnR F n + (if F n = -1 then 0 else 1)
    split <;> omega
set_option maxHeartbeats 4000000 in
set_option maxRecDepth 20000 in
theorem c9_X11_learn (l0 : Launch) {Ia Ja : aI1} {Ra : aR1} {Sa : aS1} (hL : LY Ra Sa) (hQ : RX Ia) {a : Int} (ha0 : -2147483648 ≤ a) (ha1 : a < 2147483648) {qsf : Nat → List zQ} (hlw : ∀ t : Nat, (t : Int) < Ia 51 310 → zKp (Ia 51) t (qsf t))  : CT l0 48 0 0 mX11_learn [kR (some 49), kI a] Ia Ja Ra Sa (cI (fun x I' J' => (Ch [50, 51, 60] [0, 1, 19, 20, 21] Ia I' ∧ Kp 49 73 Ja J' ∧ RX I' ∧ (0 ≤ a ∧ a < Ia 51 310 → (∀ s : Nat, (s : Int) ≤ FU (Ia 51 304) → I' 51 s = zLd (qsf a.toNat) (Ia 51 304) (Ia 51 305) s) ∧ (∀ s : Nat, ¬ (s : Int) ≤ FU (Ia 51 304) → I' 51 s = Ia 51 s) ∧ x = cnR (I' 51) (FU (Ia 51 304) + 1).toNat) ∧ (¬ (0 ≤ a ∧ a < Ia 51 310) → x = -2 ∧ I' 51 = Ia 51)) ∧ RGQ9 x Ia I' Ja J') Ra Sa) := by
  refine ct_in pn_X11 (Nat.le_of_ble_eq_true rfl) (fun X hX hT hIn => ?_)
  have hX : aK l0 X cX11_learn 3 RX11 (some .int) 48 0 0 := hX
  change WW X 0 [some (kR (some 49)), some (kI a), none] [] Ia Ja Ra Sa 0 0
  have qIa := RX_o hQ
  refine ww_iload_n hX (pc := 0) dX11_learn_0 rfl ?_
  refine ww_iconst hX (pc := 1) (x := 0) dX11_learn_1 rfl ?_
  refine ww_aload_n hX (pc := 2) dX11_learn_2 rfl ?_
  refine ww_getR hX (pc := 3) fX11_20 (by decide) (xs_49 hL) (xr_49_3 hL) dX11_learn_3 ?_
  refine ww_sipush hX (pc := 6) (x := 310) dX11_learn_6 (by decide) ?_
  refine ww_iald hX (pc := 9) (xs_51 hL) (by decide) (by omega) (by omega) dX11_learn_9 ?_
  refine ww_toI (b := Ia 51 310) rfl ?_
  refine ww_iconst hX (pc := 10) (x := 1) dX11_learn_10 rfl ?_
  refine ww_isub hX (pc := 11) dX11_learn_11 ?_
  refine sI3 hX (pc := 12) sX11_101 (c_X11_lies l0 (by omega) (by omega) (by omega) (by omega) (by omega) (by omega)) (by decide) (Nat.le_refl 0) (Nat.le_refl 0) (Nat.le_of_ble_eq_true rfl) dX11_learn_12 (fun x_12 I_12 J_12 h_12 => ?_)
  obtain ⟨rfl, rfl, h_12⟩ := h_12
  refine ww_if_ne hX (pc := 15) (tgt := 25) dX11_learn_15 (by decide) (fun h_15 => ?_) (fun h_15 => ?_)
  · simp only [w32_mod] at h_15
    have k_12 := h_12.2.mp (by omega)
    clear h_12
    refine ww_iconst hX (pc := 25) (x := 0) dX11_learn_25 rfl ?_
    refine ww_istore_n hX (pc := 26) (lv' := [some (kR (some 49)), some (kI a), some (kI 0)]) dX11_learn_26 (by decide) rfl rfl ?_
    have hl_27 : ∀ (n_27 : Nat) (i : Int) (I27 : aI1) (J27 : aI1), (256 - i).toNat = n_27 → (BK9 Ia I27 ∧ (Ch [50, 51, 60] [0, 1, 19, 20, 21] Ia I27 ∧ RX I27 ∧ Kp 49 73 Ja J27 ∧ I27 51 304 = Ia 51 304 ∧ I27 51 305 = Ia 51 305 ∧ I27 51 310 = Ia 51 310 ∧ (0 ≤ i ∧ i ≤ FU (Ia 51 304) + 1) ∧ (∀ s : Nat, (s : Int) < i → I27 51 s = zLd (qsf a.toNat) (Ia 51 304) (Ia 51 305) s) ∧ (∀ s : Nat, ¬ (s : Int) < i → I27 51 s = Ia 51 s))) → WW X 27 [some (kR (some 49)), some (kI a), some (kI i)] [] I27 J27 Ra Sa 0 0 := by
      intro n_27
      induction n_27 using Nat.strongRecOn with
      | ind n_27 ih_27 =>
        intro i I27 J27 hm_27 hv_27
        have hq_27 := Sh0_i hm_27
        clear hm_27
        obtain ⟨bkl27, hv_27⟩ := hv_27
        obtain ⟨kI27, cI27, kJ27, r304_I27, r305_I27, r310_I27, hv, hcod, hrst⟩ := hv_27
        have qI27 := RX_o cI27
        have rf_I27 : FU (I27 51 304) = FU (Ia 51 304) := by rw [r304_I27]
        refine ww_iload_n hX (pc := 27) dX11_learn_27 rfl ?_
        refine ww_aload_n hX (pc := 28) dX11_learn_28 rfl ?_
        refine vI0 hX (pc := 29) sX11_112 (xs_49 hL) (c_X11_states l0 hL cI27 ) (by decide) (Nat.le_refl 0) (Nat.le_refl 0) (Nat.le_of_ble_eq_true rfl) dX11_learn_29 (fun x_29 I_29 J_29 h_29 => ?_)
        obtain ⟨rfl, rfl, h_29⟩ := h_29
        refine ww_icmp_ge hX (pc := 32) (tgt := 59) dX11_learn_32 (by decide) (fun h_32 => ?_) (fun h_32 => ?_)
        · simp only [w32_mod] at h_32
          refine ww_aload_n hX (pc := 59) dX11_learn_59 rfl ?_
          refine ww_aload_n hX (pc := 60) dX11_learn_60 rfl ?_
          have hcr9 : ∀ t : Nat, (t : Int) ≤ FU (I27 51 304) → -1 ≤ I27 51 t ∧ I27 51 t ≤ 7 := fun t ht => by
            rw [hcod t (by omega)]
            exact zGv_b (by omega) (by omega)
          refine vI0 hX (pc := 61) sX11_139 (xs_49 hL) (c5_X11_readMany l0 hL cI27 hcr9) (by decide) (Nat.le_refl 0) (Nat.le_refl 0) (Nat.le_of_ble_eq_true rfl) dX11_learn_61 (fun x_61 I_61 J_61 h_61 => ?_)
          obtain ⟨rfl, rfl, h_61⟩ := h_61
          have hcn : 0 ≤ x_61 := by rw [h_61]; exact cnR_nn _ _
          refine vI1 hX (pc := 64) sX11_109 (xs_49 hL) (n9_X11_good l0 hL cI27) (by decide) (Nat.le_refl 0) (Nat.le_refl 0) (Nat.le_of_ble_eq_true rfl) dX11_learn_64 (fun x_64 I_64 J_64 h_64 => ?_)
          obtain ⟨h_64, qxI_64⟩ := h_64
          have kJ_64 : Kp 49 73 Ja J_64 := Kp_tr kJ27 h_64.2.1
          have kI_64 : Ch [50, 51, 60] [0, 1, 19, 20, 21] Ia I_64 := Ch_tr kI27 (Ch_wd h_64.1 (by decide) (by decide))
          have cI_64 : RX I_64 := h_64.2.2.1
          have qI_64 := RX_o cI_64
          have r304_I_64 : I_64 51 304 = I27 51 304 := by rw [h_64.1.1 51 (by decide) (by decide)]
          have r305_I_64 : I_64 51 305 = I27 51 305 := by rw [h_64.1.1 51 (by decide) (by decide)]
          have r310_I_64 : I_64 51 310 = I27 51 310 := by rw [h_64.1.1 51 (by decide) (by decide)]
          have rf_I_64 : FU (I_64 51 304) = FU (I27 51 304) := by rw [r304_I_64]
          refine rI hX (pc := 67) hT (Nat.le_refl 0) (Nat.le_refl 0) dX11_learn_67 ?_
          exact ⟨⟨kI_64, kJ_64, cI_64, (by
              have e64 : I_64 51 = I27 51 := h_64.1.1 51 (by decide) (by decide)
              rw [e64]
              refine ⟨fun _ => ⟨fun s hs => hcod s (by omega), fun s hs => hrst s (by omega), ?_⟩, fun h9 => by omega⟩
              rw [h_64.2.2.2, h_61, r304_I27])⟩, ⟨(fun h9 => absurd h9 (by have := h_64.2.2.2; omega)), (fun _ => GQ9_tr bkl27 qxI_64)⟩⟩
        · simp only [w32_mod] at h_32
          refine ww_aload_n hX (pc := 35) dX11_learn_35 rfl ?_
          refine ww_iload_n hX (pc := 36) dX11_learn_36 rfl ?_
          refine vV1 hX (pc := 37) sX11_264 (xs_49 hL) (c6_X11_asksOf l0 hL cI27 ) (by decide) (Nat.le_refl 0) (Nat.le_refl 0) (Nat.le_of_ble_eq_true rfl) dX11_learn_37 (fun I_37 J_37 h_37 => ?_)
          have kJ_37 : Kp 49 73 Ja J_37 := Kp_tr kJ27 h_37.2.1
          have kI_37 : Ch [50, 51, 60] [0, 1, 19, 20, 21] Ia I_37 := Ch_tr kI27 (Ch_wd h_37.1 (by decide) (by decide))
          have cI_37 : RX I_37 := h_37.2.2.1
          have qI_37 := RX_o cI_37
          have r304_I_37 : I_37 51 304 = I27 51 304 := by rw [h_37.1.1 51 (by decide) (by decide)]
          have r305_I_37 : I_37 51 305 = I27 51 305 := by rw [h_37.1.1 51 (by decide) (by decide)]
          have r310_I_37 : I_37 51 310 = I27 51 310 := by rw [h_37.1.1 51 (by decide) (by decide)]
          have rf_I_37 : FU (I_37 51 304) = FU (I27 51 304) := by rw [r304_I_37]
          have bkI_37 : BK9 Ia I_37 := BK9_ch bkl27 h_37.1 (by decide) (by decide)
          refine ww_aload_n hX (pc := 40) dX11_learn_40 rfl ?_
          refine ww_getR hX (pc := 41) fX11_20 (by decide) (xs_49 hL) (xr_49_3 hL) dX11_learn_41 ?_
          refine ww_iconst hX (pc := 44) (x := 0) dX11_learn_44 rfl ?_
          refine ww_iload_n hX (pc := 45) dX11_learn_45 rfl ?_
          refine ww_iadd hX (pc := 46) dX11_learn_46 ?_
          refine ww_aload_n hX (pc := 47) dX11_learn_47 rfl ?_
          refine ww_iload_n hX (pc := 48) dX11_learn_48 rfl ?_
          have s37 : I_37 51 = I27 51 := h_37.1.1 51 (by decide) (by decide)
          obtain ⟨c, vl, n9, m9, l9, hcv, hn9, hn400, hvl, hzl⟩ := zKp_k (k' := I_37 51) (hlw a.toNat (by omega)) (by omega) (fun j hj => by rw [s37]; exact hrst j (by omega))
          have hK9 : 0 ≤ I_37 51 305 ∧ I_37 51 305 ≤ 8 := by omega
          have hen : ∀ j, j < 8 → I_37 60 j = zEn i (I27 51 304) (I27 51 305) j ∧ -1000 ≤ zEn i (I27 51 304) (I27 51 305) j ∧ zEn i (I27 51 304) (I27 51 305) j ≤ 1000 := fun j hj => ⟨h_37.2.2.2 j hj, zEn_b (by omega) (by omega) (by omega) j hj⟩
          refine vI1 hX (pc := 49) sX11_267 (xs_49 hL) (c6_X11_toldBy l0 hL cI_37 (by omega) (by omega) hK9 hcv hn9 hvl hen hzl) (by decide) (Nat.le_refl 0) (Nat.le_refl 0) (Nat.le_of_ble_eq_true rfl) dX11_learn_49 (fun x_49 I_49 J_49 h_49 => ?_)
          have kJ_49 : Kp 49 73 Ja J_49 := Kp_tr kJ_37 h_49.2.1
          have kI_49 : Ch [50, 51, 60] [0, 1, 19, 20, 21] Ia I_49 := Ch_tr kI_37 (Ch_wd h_49.1 (by decide) (by decide))
          have cI_49 : RX I_49 := h_49.2.2.1
          have qI_49 := RX_o cI_49
          have r304_I_49 : I_49 51 304 = I_37 51 304 := by rw [h_49.1.1 51 (by decide) (by decide)]
          have r305_I_49 : I_49 51 305 = I_37 51 305 := by rw [h_49.1.1 51 (by decide) (by decide)]
          have r310_I_49 : I_49 51 310 = I_37 51 310 := by rw [h_49.1.1 51 (by decide) (by decide)]
          have rf_I_49 : FU (I_49 51 304) = FU (I_37 51 304) := by rw [r304_I_49]
          have bkI_49 : BK9 Ia I_49 := BK9_ch bkI_37 h_49.1 (by decide) (by decide)
          refine ww_iast hX (pc := 52) (xs_51 hL) (by decide) (by omega) (by omega) dX11_learn_52 ?_
          refine ww_nmH (fun I_52 eI_52 => ?_)
          have kI_52 : Ch [50, 51, 60] [0, 1, 19, 20, 21] Ia I_52 := by rw [eI_52]; exact Ch_r kI_49 (by decide) (by decide)
          have cI_52 : RX I_52 := by rw [eI_52]; exact RX_lo cI_49 (by omega)
          have qI_52 := RX_o cI_52
          have r304_I_52 : I_52 51 304 = I_49 51 304 := by rw [eI_52, up2_n _ _ (Or.inr (by omega))]
          have r305_I_52 : I_52 51 305 = I_49 51 305 := by rw [eI_52, up2_n _ _ (Or.inr (by omega))]
          have r310_I_52 : I_52 51 310 = I_49 51 310 := by rw [eI_52, up2_n _ _ (Or.inr (by omega))]
          have rf_I_52 : FU (I_52 51 304) = FU (I_49 51 304) := by rw [r304_I_52]
          have bkI_52 : BK9 Ia I_52 := by rw [eI_52]; exact BK9_up bkI_49 (by decide)
          refine ww_iinc hX (pc := 53) (lv' := [some (kR (some 49)), some (kI a), some (kI (i + 1))]) dX11_learn_53 rfl (by decide) rfl rfl ?_
          refine ww_goto hX (pc := 56) (tgt := 27) dX11_learn_56 (by decide) ?_
          exact ih_27 _ (by have hm9 := Sh0_e hq_27; omega) (i + 1) I_52 J_49 rfl ⟨bkI_52, ⟨kI_52, cI_52, kJ_49, by omega, by omega, by omega, by omega, (fun s hs => by
    have e49 : I_49 51 = I_37 51 := h_49.1.1 51 (by decide) (by decide)
    rw [eI_52]
    by_cases g : s = (0 + i).toNat
    · subst g
      refine (up2_s ..).trans ?_
      rw [h_49.2.2.2, r305_I_37, r304_I27, r305_I27, show (((0 + i).toNat : Nat) : Int) = i by omega]
      rfl
    · rw [up2_n _ _ (Or.inr g), e49, s37]
      exact hcod s (by omega)), (fun s hs => by
    have e49 : I_49 51 = I_37 51 := h_49.1.1 51 (by decide) (by decide)
    rw [eI_52, up2_n _ _ (Or.inr (by omega)), e49, s37]
    exact hrst s (by omega))⟩⟩
    exact hl_27 _ 0 Ia Ja rfl ⟨BK9_rf, ⟨Ch_rf, hQ, (Kp_rf (a := 49) (b := 73)), rfl, rfl, rfl, by omega, (fun s hs => by omega), (fun s hs => rfl)⟩⟩
  · simp only [w32_mod] at h_15
    refine ww_aload_n hX (pc := 18) dX11_learn_18 rfl ?_
    refine ww_bipush hX (pc := 19) (x := (-2)) dX11_learn_19 (by decide) ?_
    refine vI1 hX (pc := 21) sX11_105 (xs_49 hL) (n9_X11_refuses l0 hL hQ (by omega) (by omega)) (by decide) (Nat.le_refl 0) (Nat.le_refl 0) (Nat.le_of_ble_eq_true rfl) dX11_learn_21 (fun x_21 I_21 J_21 h_21 => ?_)
    obtain ⟨h_21, qxI_21⟩ := h_21
    have kJ_21 : Kp 49 73 Ja J_21 := Kp_tr (Kp_rf (a := 49) (b := 73)) h_21.2.1
    have kI_21 : Ch [50, 51, 60] [0, 1, 19, 20, 21] Ia I_21 := Ch_tr Ch_rf (Ch_wd h_21.1 (by decide) (by decide))
    have cI_21 : RX I_21 := h_21.2.2.1
    have qI_21 := RX_o cI_21
    have r304_I_21 : I_21 51 304 = Ia 51 304 := by rw [h_21.1.1 51 (by decide) (by decide)]
    have r305_I_21 : I_21 51 305 = Ia 51 305 := by rw [h_21.1.1 51 (by decide) (by decide)]
    have r310_I_21 : I_21 51 310 = Ia 51 310 := by rw [h_21.1.1 51 (by decide) (by decide)]
    have rf_I_21 : FU (I_21 51 304) = FU (Ia 51 304) := by rw [r304_I_21]
    refine rI hX (pc := 24) hT (Nat.le_refl 0) (Nat.le_refl 0) dX11_learn_24 ?_
    exact ⟨⟨kI_21, kJ_21, cI_21, ⟨fun h9 => by omega, fun _ => ⟨h_21.2.2.2, h_21.1.1 51 (by decide) (by decide)⟩⟩⟩, ⟨(fun _ => RQ9_tr BK9_rf TK9_rf qxI_21), (fun h9 => absurd h9 (by have := h_21.2.2.2; omega))⟩⟩
