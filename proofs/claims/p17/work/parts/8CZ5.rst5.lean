theorem cnR_nn (F : Nat → Int) : ∀ n, 0 ≤ cnR F n
  | 0 => Int.le_refl 0
  | n + 1 => by
    have := cnR_nn F n
    show 0 ≤ cnR F n + (if F n = -1 then 0 else 1)
    split <;> omega
set_option maxHeartbeats 4000000 in
set_option maxRecDepth 20000 in
theorem c9_X11_learn (l0 : Launch) {Ia Ja : aI1} {Ra : aR1} {Sa : aS1} (hL : LY Ra Sa) (hQ : RX Ia) {a : Int} (ha0 : -2147483648 ≤ a) (ha1 : a < 2147483648) {qsf : Nat → List zQ} (hlw : ∀ t : Nat, (t : Int) < Ia 51 310 → zKp (Ia 51) t (qsf t))  : CT l0 48 0 0 mX11_learn [kR (some 49), kI a] Ia Ja Ra Sa (cI (fun x I' J' => (Ch [50, 51, 60] [0, 1, 19, 20, 21] Ia I' ∧ Kp 49 73 Ja J' ∧ RX I' ∧ (0 ≤ a ∧ a < Ia 51 310 → (∀ s : Nat, (s : Int) ≤ FU (Ia 51 304) → I' 51 s = zLd (qsf a.toNat) (Ia 51 304) (Ia 51 305) s) ∧ (∀ s : Nat, ¬ (s : Int) ≤ FU (Ia 51 304) → I' 51 s = Ia 51 s) ∧ x = cnR (I' 51) (FU (Ia 51 304) + 1).toNat) ∧ (¬ (0 ≤ a ∧ a < Ia 51 310) → x = -2 ∧ I' 51 = Ia 51)) ∧ RGQ9 x Ia I' Ja J') Ra Sa) := by
  refine ct_in pn_X11 (Nat.le_of_ble_eq_true rfl) (fun X hX hT hIn => ?_)
  have hX : aK l0 X cX11_learn 3 RX11 (some .int) 48 0 0 := hX
  change WW X 0 [some (kR (some 49)), some (kI a), none] [] Ia Ja Ra Sa 0 0
  have qIa := RX_o hQ
  refine ww_iload_n hX (pc := 0) dX11_learn_0 rfl ?_
  refine ww_iconst hX (pc := 1) (x := 0) dX11_learn_1 rfl ?_
  refine ww_aload_n hX (pc := 2) dX11_learn_2 rfl ?_
  refine ww_getR hX (pc := 3) fX11_20 (by decide) (xs_49 hL) (xr_49_3 hL) dX11_learn_3 ?_
  refine ww_sipush hX (pc := 6) (x := 310) dX11_learn_6 (by decide) ?_
  refine ww_iald hX (pc := 9) (xs_51 hL) (by decide) (by omega) (by omega) dX11_learn_9 ?_
  refine ww_toI (b := Ia 51 310) rfl ?_
  refine ww_iconst hX (pc := 10) (x := 1) dX11_learn_10 rfl ?_
  refine ww_isub hX (pc := 11) dX11_learn_11 ?_
  refine sI3 hX (pc := 12) sX11_101 (c_X11_lies l0 (by omega) (by omega) (by omega) (by omega) (by omega) (by omega)) (by decide) (Nat.le_refl 0) (Nat.le_refl 0) (Nat.le_of_ble_eq_true rfl) dX11_learn_12 (fun x_12 I_12 J_12 h_12 => ?_)
  obtain ⟨rfl, rfl, h_12⟩ := h_12
  refine ww_if_ne hX (pc := 15) (tgt := 25) dX11_learn_15 (by decide) (fun h_15 => ?_) (fun h_15 => ?_)
  · simp only [w32_mod] at h_15
    have k_12 := h_12.2.mp (by omega)
    clear h_12
    refine ww_iconst hX (pc := 25) (x := 0) dX11_learn_25 rfl ?_
    refine ww_istore_n hX (pc := 26) (lv' := [some (kR (some 49)), some (kI a), some (kI 0)]) dX11_learn_26 (by decide) rfl rfl ?_
    have hl_27 : ∀ (n_27 : Nat) (i : Int) (I27 : aI1) (J27 : aI1), (256 - i).toNat = n_27 → (BK9 Ia I27 ∧ (Ch [50, 51, 60] [0, 1, 19, 20, 21] Ia I27 ∧ RX I27 ∧ Kp 49 73 Ja J27 ∧ I27 51 304 = Ia 51 304 ∧ I27 51 305 = Ia 51 305 ∧ I27 51 310 = Ia 51 310 ∧ (0 ≤ i ∧ i ≤ FU (Ia 51 304) + 1) ∧ (∀ s : Nat, (s : Int) < i → I27 51 s = zLd (qsf a.toNat) (Ia 51 304) (Ia 51 305) s) ∧ (∀ s : Nat, ¬ (s : Int) < i → I27 51 s = Ia 51 s))) → WW X 27 [some (kR (some 49)), some (kI a), some (kI i)] [] I27 J27 Ra Sa 0 0 := by
      intro n_27
      induction n_27 using Nat.strongRecOn with
      | ind n_27 ih_27 =>
        intro i I27 J27 hm_27 hv_27
        have hq_27 := Sh0_i hm_27
        clear hm_27
        obtain ⟨bkl27, hv_27⟩ := hv_27
        obtain ⟨kI27, cI27, kJ27, r304_I27, r305_I27, r310_I27, hv, hcod, hrst⟩ := hv_27
        have qI27 := RX_o cI27
        have rf_I27 : FU (I27 51 304) = FU (Ia 51 304) := by rw [r304_I27]
        refine ww_iload_n hX (pc := 27) dX11_learn_27 rfl ?_
        refine ww_aload_n hX (pc := 28) dX11_learn_28 rfl ?_
        refine vI0 hX (pc := 29) sX11_112 (xs_49 hL) (c_X11_states l0 hL cI27 ) (by decide) (Nat.le_refl 0) (Nat.le_refl 0) (Nat.le_of_ble_eq_true rfl) dX11_learn_29 (fun x_29 I_29 J_29 h_29 => ?_)
        obtain ⟨rfl, rfl, h_29⟩ := h_29
        refine ww_icmp_ge hX (pc := 32) (tgt := 59) dX11_learn_32 (by decide) (fun h_32 => ?_) (fun h_32 => ?_)
        · simp only [w32_mod] at h_32
          refine ww_aload_n hX (pc := 59) dX11_learn_59 rfl ?_
          refine ww_aload_n hX (pc := 60) dX11_learn_60 rfl ?_
          have hcr9 : ∀ t : Nat, (t : Int) ≤ FU (I27 51 304) → -1 ≤ I27 51 t ∧ I27 51 t ≤ 7 := fun t ht => by
            rw [hcod t (by omega)]
            exact zGv_b (by omega) (by omega)
          refine vI0 hX (pc := 61) sX11_139 (xs_49 hL) (c5_X11_readMany l0 hL cI27 hcr9) (by decide) (Nat.le_refl 0) (Nat.le_refl 0) (Nat.le_of_ble_eq_true rfl) dX11_learn_61 (fun x_61 I_61 J_61 h_61 => ?_)
          obtain ⟨rfl, rfl, h_61⟩ := h_61
          have hcn : 0 ≤ x_61 := by rw [h_61]; exact cnR_nn _ _
          refine vI1 hX (pc := 64) sX11_109 (xs_49 hL) (n9_X11_good l0 hL cI27) (by decide) (Nat.le_refl 0) (Nat.le_refl 0) (Nat.le_of_ble_eq_true rfl) dX11_learn_64 (fun x_64 I_64 J_64 h_64 => ?_)
          obtain ⟨h_64, qxI_64⟩ := h_64
          have kJ_64 : Kp 49 73 Ja J_64 := Kp_tr kJ27 h_64.2.1
          have kI_64 : Ch [50, 51, 60] [0, 1, 19, 20, 21] Ia I_64 := Ch_tr kI27 (Ch_wd h_64.1 (by decide) (by decide))
          have cI_64 : RX I_64 := h_64.2.2.1
          have qI_64 := RX_o cI_64
          have r304_I_64 : I_64 51 304 = I27 51 304 := by rw [h_64.1.1 51 (by decide) (by decide)]
          have r305_I_64 : I_64 51 305 = I27 51 305 := by rw [h_64.1.1 51 (by decide) (by decide)]
          have r310_I_64 : I_64 51 310 = I27 51 310 := by rw [h_64.1.1 51 (by decide) (by decide)]
          have rf_I_64 : FU (I_64 51 304) = FU (I27 51 304) := by rw [r304_I_64]
          refine rI hX (pc := 67) hT (Nat.le_refl 0) (Nat.le_refl 0) dX11_learn_67 ?_
          exact ⟨⟨kI_64, kJ_64, cI_64, (by
              have e64 : I_64 51 = I27 51 := h_64.1.1 51 (by decide) (by decide)
              rw [e64]
              refine ⟨fun _ => ⟨fun s hs => hcod s (by omega), fun s hs => hrst s (by omega), ?_⟩, fun h9 => by omega⟩
              rw [h_64.2.2.2, h_61, r304_I27])⟩, ⟨(fun h9 => absurd h9 (by have := h_64.2.2.2; omega)), (fun _ => GQ9_tr bkl27 qxI_64)⟩⟩
        · simp only [w32_mod] at h_32
          refine ww_aload_n hX (pc := 35) dX11_learn_35 rfl ?_
          refine ww_iload_n hX (pc := 36) dX11_learn_36 rfl ?_
          refine vV1 hX (pc := 37) sX11_264 (xs_49 hL) (c6_X11_asksOf l0 hL cI27 ) (by decide) (Nat.le_refl 0) (Nat.le_refl 0) (Nat.le_of_ble_eq_true rfl) dX11_learn_37 (fun I_37 J_37 h_37 => ?_)
          have kJ_37 : Kp 49 73 Ja J_37 := Kp_tr kJ27 h_37.2.1
          have kI_37 : Ch [50, 51, 60] [0, 1, 19, 20, 21] Ia I_37 := Ch_tr kI27 (Ch_wd h_37.1 (by decide) (by decide))
          have cI_37 : RX I_37 := h_37.2.2.1
          have qI_37 := RX_o cI_37
          have r304_I_37 : I_37 51 304 = I27 51 304 := by rw [h_37.1.1 51 (by decide) (by decide)]
          have r305_I_37 : I_37 51 305 = I27 51 305 := by rw [h_37.1.1 51 (by decide) (by decide)]
          have r310_I_37 : I_37 51 310 = I27 51 310 := by rw [h_37.1.1 51 (by decide) (by decide)]
          have rf_I_37 : FU (I_37 51 304) = FU (I27 51 304) := by rw [r304_I_37]
          have bkI_37 : BK9 Ia I_37 := BK9_ch bkl27 h_37.1 (by decide) (by decide)
          refine ww_aload_n hX (pc := 40) dX11_learn_40 rfl ?_
          refine ww_getR hX (pc := 41) fX11_20 (by decide) (xs_49 hL) (xr_49_3 hL) dX11_learn_41 ?_
          refine ww_iconst hX (pc := 44) (x := 0) dX11_learn_44 rfl ?_
          refine ww_iload_n hX (pc := 45) dX11_learn_45 rfl ?_
          refine ww_iadd hX (pc := 46) dX11_learn_46 ?_
          refine ww_aload_n hX (pc := 47) dX11_learn_47 rfl ?_
          refine ww_iload_n hX (pc := 48) dX11_learn_48 rfl ?_
          have s37 : I_37 51 = I27 51 := h_37.1.1 51 (by decide) (by decide)
          obtain ⟨c, vl, n9, m9, l9, hcv, hn9, hn400, hvl, hzl⟩ := zKp_k (k' := I_37 51) (hlw a.toNat (by omega)) (by omega) (fun j hj => by rw [s37]; exact hrst j (by omega))
          have hK9 : 0 ≤ I_37 51 305 ∧ I_37 51 305 ≤ 8 := by omega
          have hen : ∀ j, j < 8 → I_37 60 j = zEn i (I27 51 304) (I27 51 305) j ∧ -1000 ≤ zEn i (I27 51 304) (I27 51 305) j ∧ zEn i (I27 51 304) (I27 51 305) j ≤ 1000 := fun j hj => ⟨h_37.2.2.2 j hj, zEn_b (by omega) (by omega) (by omega) j hj⟩
          refine vI1 hX (pc := 49) sX11_267 (xs_49 hL) (c6_X11_toldBy l0 hL cI_37 (by omega) (by omega) hK9 hcv hn9 hvl hen hzl) (by decide) (Nat.le_refl 0) (Nat.le_refl 0) (Nat.le_of_ble_eq_true rfl) dX11_learn_49 (fun x_49 I_49 J_49 h_49 => ?_)
          have kJ_49 : Kp 49 73 Ja J_49 := Kp_tr kJ_37 h_49.2.1
          have kI_49 : Ch [50, 51, 60] [0, 1, 19, 20, 21] Ia I_49 := Ch_tr kI_37 (Ch_wd h_49.1 (by decide) (by decide))
          have cI_49 : RX I_49 := h_49.2.2.1
          have qI_49 := RX_o cI_49
          have r304_I_49 : I_49 51 304 = I_37 51 304 := by rw [h_49.1.1 51 (by decide) (by decide)]
          have r305_I_49 : I_49 51 305 = I_37 51 305 := by rw [h_49.1.1 51 (by decide) (by decide)]
          have r310_I_49 : I_49 51 310 = I_37 51 310 := by rw [h_49.1.1 51 (by decide) (by decide)]
          have rf_I_49 : FU (I_49 51 304) = FU (I_37 51 304) := by rw [r304_I_49]
          have bkI_49 : BK9 Ia I_49 := BK9_ch bkI_37 h_49.1 (by decide) (by decide)
          refine ww_iast hX (pc := 52) (xs_51 hL) (by decide) (by omega) (by omega) dX11_learn_52 ?_
          refine ww_nmH (fun I_52 eI_52 => ?_)
          have kI_52 : Ch [50, 51, 60] [0, 1, 19, 20, 21] Ia I_52 := by rw [eI_52]; exact Ch_r kI_49 (by decide) (by decide)
          have cI_52 : RX I_52 := by rw [eI_52]; exact RX_lo cI_49 (by omega)
          have qI_52 := RX_o cI_52
          have r304_I_52 : I_52 51 304 = I_49 51 304 := by rw [eI_52, up2_n _ _ (Or.inr (by omega))]
          have r305_I_52 : I_52 51 305 = I_49 51 305 := by rw [eI_52, up2_n _ _ (Or.inr (by omega))]
          have r310_I_52 : I_52 51 310 = I_49 51 310 := by rw [eI_52, up2_n _ _ (Or.inr (by omega))]
          have rf_I_52 : FU (I_52 51 304) = FU (I_49 51 304) := by rw [r304_I_52]
          have bkI_52 : BK9 Ia I_52 := by rw [eI_52]; exact BK9_up bkI_49 (by decide)
          refine ww_iinc hX (pc := 53) (lv' := [some (kR (some 49)), some (kI a), some (kI (i + 1))]) dX11_learn_53 rfl (by decide) rfl rfl ?_
          refine ww_goto hX (pc := 56) (tgt := 27) dX11_learn_56 (by decide) ?_
          exact ih_27 _ (by have hm9 := Sh0_e hq_27; omega) (i + 1) I_52 J_49 rfl ⟨bkI_52, ⟨kI_52, cI_52, kJ_49, by omega, by omega, by omega, by omega, (fun s hs => by
    have e49 : I_49 51 = I_37 51 := h_49.1.1 51 (by decide) (by decide)
    rw [eI_52]
    by_cases g : s = (0 + i).toNat
    · subst g
      refine (up2_s ..).trans ?_
      rw [h_49.2.2.2, r305_I_37, r304_I27, r305_I27, show (((0 + i).toNat : Nat) : Int) = i by omega]
      rfl
    · rw [up2_n _ _ (Or.inr g), e49, s37]
      exact hcod s (by omega)), (fun s hs => by
    have e49 : I_49 51 = I_37 51 := h_49.1.1 51 (by decide) (by decide)
    rw [eI_52, up2_n _ _ (Or.inr (by omega)), e49, s37]
    exact hrst s (by omega))⟩⟩
    exact hl_27 _ 0 Ia Ja rfl ⟨BK9_rf, ⟨Ch_rf, hQ, (Kp_rf (a := 49) (b := 73)), rfl, rfl, rfl, by omega, (fun s hs => by omega), (fun s hs => rfl)⟩⟩
  · simp only [w32_mod] at h_15
    refine ww_aload_n hX (pc := 18) dX11_learn_18 rfl ?_
    refine ww_bipush hX (pc := 19) (x := (-2)) dX11_learn_19 (by decide) ?_
    refine vI1 hX (pc := 21) sX11_105 (xs_49 hL) (n9_X11_refuses l0 hL hQ (by omega) (by omega)) (by decide) (Nat.le_refl 0) (Nat.le_refl 0) (Nat.le_of_ble_eq_true rfl) dX11_learn_21 (fun x_21 I_21 J_21 h_21 => ?_)
    obtain ⟨h_21, qxI_21⟩ := h_21
    have kJ_21 : Kp 49 73 Ja J_21 := Kp_tr (Kp_rf (a := 49) (b := 73)) h_21.2.1
    have kI_21 : Ch [50, 51, 60] [0, 1, 19, 20, 21] Ia I_21 := Ch_tr Ch_rf (Ch_wd h_21.1 (by decide) (by decide))
    have cI_21 : RX I_21 := h_21.2.2.1
    have qI_21 := RX_o cI_21
    have r304_I_21 : I_21 51 304 = Ia 51 304 := by rw [h_21.1.1 51 (by decide) (by decide)]
    have r305_I_21 : I_21 51 305 = Ia 51 305 := by rw [h_21.1.1 51 (by decide) (by decide)]
    have r310_I_21 : I_21 51 310 = Ia 51 310 := by rw [h_21.1.1 51 (by decide) (by decide)]
    have rf_I_21 : FU (I_21 51 304) = FU (Ia 51 304) := by rw [r304_I_21]
    refine rI hX (pc := 24) hT (Nat.le_refl 0) (Nat.le_refl 0) dX11_learn_24 ?_
    exact ⟨⟨kI_21, kJ_21, cI_21, ⟨fun h9 => by omega, fun _ => ⟨h_21.2.2.2, h_21.1.1 51 (by decide) (by decide)⟩⟩⟩, ⟨(fun _ => RQ9_tr BK9_rf TK9_rf qxI_21), (fun h9 => absurd h9 (by have := h_21.2.2.2; omega))⟩⟩
theorem QF_sJ {I J : aI1} {v w : Int} {k j : Nat} (h : QF I J v) (hk : k ≠ 62) : QF I (up2 J k j w) v := QF_kp h rfl rfl rfl rfl (up2_off _ _ _ (by omega)) (Int.le_refl _)
set_option maxHeartbeats 4000000 in
set_option maxRecDepth 20000 in
theorem c8_X11_rowsOf (l0 : Launch) {Ia Ja : aI1} {Ra : aR1} {Sa : aS1} (hL : LY Ra Sa) (hQ : RX Ia) {a b m e g : Int} (ha0 : 0 ≤ a) (ha1 : a ≤ 8) (hb0 : 0 ≤ b) (hb1 : b ≤ FU (Ia 51 304)) (hm0 : 0 ≤ m) (hm1 : m ≤ 3) (he0 : -1 ≤ e) (he1 : e ≤ 7) (hg0 : 0 ≤ g) (hg1 : g ≤ 7) (hO : ∀ l, l < 8 → 0 ≤ Ia 51 (256 + l) ∧ Ia 51 (256 + l) ≤ 99) (hcr : ∀ t : Nat, (t : Int) ≤ FU (Ia 51 304) → -1 ≤ Ia 51 t ∧ Ia 51 t ≤ 7) (hK : ∀ s : Nat, (s : Int) ≤ FU (Ia 51 304) → Ia 51 s < Ia 51 305) {vv : Int} (hq : QF Ia Ja vv) (hv9 : vv ≤ 1000000)  : CT l0 5 0 0 mX11_rowsOf [kR (some 49), kI a, kI b, kI m, kI e, kI g] Ia Ja Ra Sa (cJ (fun x I' J' => Ch [61] [25] Ia I' ∧ Kp 49 73 Ja J' ∧ RX I' ∧ I' 51 = Ia 51 ∧ QF I' J' vv ∧ ∃ L M, (zLV (Ia 51) (Ia 51 306) (FU (Ia 51 304) + 1) (Ia 51 305) (-1) L ∧ MRc (Ia 51) (Ia 51 306) (Ia 51 304) (Ia 51 305) M) ∧ x = RW (Ia 51) (nxRf m Ia L M) e g (Ia 51 305).toNat (FU (Ia 51 304) + 1).toNat a.toNat b.toNat) Ra Sa) := by
  refine ct_in pn_X11 (Nat.le_of_ble_eq_true rfl) (fun X hX hT hIn => ?_)
  have hX : aK l0 X cX11_rowsOf 10 RX11 (some .long) 5 0 0 := hX
  change WW X 0 [some (kR (some 49)), some (kI a), some (kI b), some (kI m), some (kI e), some (kI g), none, none, none, none] [] Ia Ja Ra Sa 0 0
  have qIa := RX_s hQ
  refine ww_aload_n hX (pc := 0) dX11_rowsOf_0 rfl ?_
  refine vV0 hX (pc := 1) sX11_294 (xs_49 hL) (c8_X11_looks l0 hL hQ hcr hK hq hv9) (by decide) (Nat.le_refl 0) (Nat.le_refl 0) (Nat.le_of_ble_eq_true rfl) dX11_rowsOf_1 (fun I_1 J_1 h_1 => ?_)
  have kJ_1 : Kp 49 73 Ja J_1 := Kp_tr (Kp_rf (a := 49) (b := 73)) h_1.2.1
  have kI_1 : Ch [61] [25] Ia I_1 := Ch_tr Ch_rf (Ch_wd h_1.1 (by decide) (by decide))
  have cI_1 : RX I_1 := h_1.2.2.1
  have qI_1 := RX_s cI_1
  have r304_I_1 : I_1 51 304 = Ia 51 304 := by rw [h_1.1.1 51 (by decide) (by decide)]
  have r305_I_1 : I_1 51 305 = Ia 51 305 := by rw [h_1.1.1 51 (by decide) (by decide)]
  have rf_I_1 : FU (I_1 51 304) = FU (Ia 51 304) := by rw [r304_I_1]
  have e51_1 : I_1 51 = Ia 51 := h_1.2.2.2.1
  have hq9_1 := h_1.2.2.2.2.1
  have hq8_1 := h_1.1.2 1 (by decide)
  have hq7 := hq.1
  have hrt9 := h_1.2.2.2.2.2
  have hqf : QF I_1 J_1 vv := ⟨by omega, by omega, fun _ => hrt9⟩
  unfold RT at hrt9
  rw [e51_1] at hrt9
  have hzl := hrt9.1
  have hmr := hrt9.2
  clear hrt9
  have efu : FU (I_1 51 304) = FU (Ia 51 304) := by rw [e51_1]
  refine ww_iconst hX (pc := 4) (x := 0) dX11_rowsOf_4 rfl ?_
  refine ww_istore hX (pc := 5) (lv' := [some (kR (some 49)), some (kI a), some (kI b), some (kI m), some (kI e), some (kI g), some (kI 0), none, none, none]) dX11_rowsOf_5 (by decide) rfl rfl ?_
  have hl_7 : ∀ (n_7 : Nat) (i : Int) (J7 : aI1), (256 - i).toNat = n_7 → (QF I_1 J7 vv ∧ (Kp 49 73 Ja J7 ∧ (0 ≤ i ∧ i ≤ FU (Ia 51 304) + 1) ∧ J7 62 = J_1 62 ∧ JW (RW (Ia 51) (nxRf m Ia (I_1 61) (J_1 62)) e g (Ia 51 305).toNat (FU (Ia 51 304) + 1).toNat 0) i.toNat (J7 68))) → WW X 7 [some (kR (some 49)), some (kI a), some (kI b), some (kI m), some (kI e), some (kI g), some (kI i), none, none, none] [] I_1 J7 Ra Sa 0 0 := by
    intro n_7
    induction n_7 using Nat.strongRecOn with
    | ind n_7 ih_7 =>
      intro i J7 hm_7 hv_7
      have hq_7 := Sh0_i hm_7
      clear hm_7
      obtain ⟨qfl7, hv_7⟩ := hv_7
      obtain ⟨kJ7, hv, j7, jw7⟩ := hv_7
      refine ww_iload hX (pc := 7) dX11_rowsOf_7 rfl ?_
      refine ww_aload_n hX (pc := 9) dX11_rowsOf_9 rfl ?_
      refine vI0 hX (pc := 10) sX11_112 (xs_49 hL) (c_X11_states l0 hL cI_1 ) (by decide) (Nat.le_refl 0) (Nat.le_refl 0) (Nat.le_of_ble_eq_true rfl) dX11_rowsOf_10 (fun x_10 I_10 J_10 h_10 => ?_)
      obtain ⟨rfl, rfl, h_10⟩ := h_10
      refine ww_icmp_ge hX (pc := 13) (tgt := 39) dX11_rowsOf_13 (by decide) (fun h_13 => ?_) (fun h_13 => ?_)
      · simp only [w32_mod] at h_13
        refine ww_iconst hX (pc := 39) (x := 0) dX11_rowsOf_39 rfl ?_
        refine ww_istore hX (pc := 40) (lv' := [some (kR (some 49)), some (kI a), some (kI b), some (kI m), some (kI e), some (kI g), some (kI 0), none, none, none]) dX11_rowsOf_40 (by decide) rfl rfl ?_
        have hl_42 : ∀ (n_42 : Nat) (i : Int) (J42 : aI1), (8 - i).toNat = n_42 → (QF I_1 J42 vv ∧ (Kp 49 73 Ja J42 ∧ (0 ≤ i ∧ i ≤ a) ∧ J42 62 = J_1 62 ∧ JW (RW (Ia 51) (nxRf m Ia (I_1 61) (J_1 62)) e g (Ia 51 305).toNat (FU (Ia 51 304) + 1).toNat i.toNat) (FU (Ia 51 304) + 1).toNat (J42 68))) → WW X 42 [some (kR (some 49)), some (kI a), some (kI b), some (kI m), some (kI e), some (kI g), some (kI i), none, none, none] [] I_1 J42 Ra Sa 0 0 := by
          intro n_42
          induction n_42 using Nat.strongRecOn with
          | ind n_42 ih_42 =>
            intro i J42 hm_42 hv_42
            have hq_42 := Sh0_i hm_42
            clear hm_42
            obtain ⟨qfl42, hv_42⟩ := hv_42
            obtain ⟨kJ42, hv, j42, jw42⟩ := hv_42
            refine ww_iload hX (pc := 42) dX11_rowsOf_42 rfl ?_
            refine ww_iload_n hX (pc := 44) dX11_rowsOf_44 rfl ?_
            refine ww_icmp_ge hX (pc := 45) (tgt := 226) dX11_rowsOf_45 (by decide) (fun h_45 => ?_) (fun h_45 => ?_)
            · simp only [w32_mod] at h_45
              refine ww_aload_n hX (pc := 226) dX11_rowsOf_226 rfl ?_
              refine ww_getR hX (pc := 227) fX11_80 (by decide) (xs_49 hL) (xr_49_34 hL) dX11_rowsOf_227 ?_
              refine ww_iload_n hX (pc := 230) dX11_rowsOf_230 rfl ?_
              refine ww_lald hX (pc := 231) (xs_68 hL) (by decide) (by omega) (by omega) dX11_rowsOf_231 ?_
              refine rJ hX (pc := 232) hT (Nat.le_refl 0) (Nat.le_refl 0) dX11_rowsOf_232 ?_
              exact ⟨kI_1, kJ42, cI_1, e51_1, qfl42, _, _, ⟨hzl, hmr⟩, by
                    rw [show i.toNat = a.toNat by omega] at jw42
                    exact jw42 b.toNat (by omega)⟩
            · simp only [w32_mod] at h_45
              refine ww_iconst hX (pc := 48) (x := 0) dX11_rowsOf_48 rfl ?_
              refine ww_istore hX (pc := 49) (lv' := [some (kR (some 49)), some (kI a), some (kI b), some (kI m), some (kI e), some (kI g), some (kI i), some (kI 0), none, none]) dX11_rowsOf_49 (by decide) rfl rfl ?_
              have hl_51 : ∀ (n_51 : Nat) (q : Int) (J51 : aI1), (256 - q).toNat = n_51 → (QF I_1 J51 vv ∧ (Kp 49 73 Ja J51 ∧ (0 ≤ q ∧ q ≤ FU (Ia 51 304) + 1) ∧ J51 62 = J_1 62 ∧ JW (RW (Ia 51) (nxRf m Ia (I_1 61) (J_1 62)) e g (Ia 51 305).toNat (FU (Ia 51 304) + 1).toNat i.toNat) (FU (Ia 51 304) + 1).toNat (J51 68) ∧ JW (fun _ => 0) q.toNat (J51 69))) → WW X 51 [some (kR (some 49)), some (kI a), some (kI b), some (kI m), some (kI e), some (kI g), some (kI i), some (kI q), none, none] [] I_1 J51 Ra Sa 0 0 := by
                intro n_51
                induction n_51 using Nat.strongRecOn with
                | ind n_51 ih_51 =>
                  intro q J51 hm_51 hv_51
                  have hq_51 := Sh0_i hm_51
                  clear hm_51
                  obtain ⟨qfl51, hv_51⟩ := hv_51
                  obtain ⟨kJ51, hu, j51, jw51, jz51⟩ := hv_51
                  refine ww_iload hX (pc := 51) dX11_rowsOf_51 rfl ?_
                  refine ww_aload_n hX (pc := 53) dX11_rowsOf_53 rfl ?_
                  refine vI0 hX (pc := 54) sX11_112 (xs_49 hL) (c_X11_states l0 hL cI_1 ) (by decide) (Nat.le_refl 0) (Nat.le_refl 0) (Nat.le_of_ble_eq_true rfl) dX11_rowsOf_54 (fun x_54 I_54 J_54 h_54 => ?_)
                  obtain ⟨rfl, rfl, h_54⟩ := h_54
                  refine ww_icmp_ge hX (pc := 57) (tgt := 74) dX11_rowsOf_57 (by decide) (fun h_57 => ?_) (fun h_57 => ?_)
                  · simp only [w32_mod] at h_57
                    refine ww_iconst hX (pc := 74) (x := 0) dX11_rowsOf_74 rfl ?_
                    refine ww_istore hX (pc := 75) (lv' := [some (kR (some 49)), some (kI a), some (kI b), some (kI m), some (kI e), some (kI g), some (kI i), some (kI 0), none, none]) dX11_rowsOf_75 (by decide) rfl rfl ?_
                    have hl_77 : ∀ (n_77 : Nat) (q : Int) (J77 : aI1), (256 - q).toNat = n_77 → (QF I_1 J77 vv ∧ (Kp 49 73 Ja J77 ∧ (0 ≤ q ∧ q ≤ FU (Ia 51 304) + 1) ∧ J77 62 = J_1 62 ∧ JW (RW (Ia 51) (nxRf m Ia (I_1 61) (J_1 62)) e g (Ia 51 305).toNat (FU (Ia 51 304) + 1).toNat i.toNat) (FU (Ia 51 304) + 1).toNat (J77 68) ∧ JW (PW (Ia 51) (nxRf m Ia (I_1 61) (J_1 62)) e g (Ia 51 305).toNat (FU (Ia 51 304) + 1).toNat q.toNat (i.toNat + 1)) (FU (Ia 51 304) + 1).toNat (J77 69))) → WW X 77 [some (kR (some 49)), some (kI a), some (kI b), some (kI m), some (kI e), some (kI g), some (kI i), some (kI q), none, none] [] I_1 J77 Ra Sa 0 0 := by
                      intro n_77
                      induction n_77 using Nat.strongRecOn with
                      | ind n_77 ih_77 =>
                        intro q J77 hm_77 hv_77
                        have hq_77 := Sh0_i hm_77
                        clear hm_77
                        obtain ⟨qfl77, hv_77⟩ := hv_77
                        obtain ⟨kJ77, hu, j77, jw77, jp77⟩ := hv_77
                        refine ww_iload hX (pc := 77) dX11_rowsOf_77 rfl ?_
                        refine ww_aload_n hX (pc := 79) dX11_rowsOf_79 rfl ?_
                        refine vI0 hX (pc := 80) sX11_112 (xs_49 hL) (c_X11_states l0 hL cI_1 ) (by decide) (Nat.le_refl 0) (Nat.le_refl 0) (Nat.le_of_ble_eq_true rfl) dX11_rowsOf_80 (fun x_80 I_80 J_80 h_80 => ?_)
                        obtain ⟨rfl, rfl, h_80⟩ := h_80
                        refine ww_icmp_ge hX (pc := 83) (tgt := 188) dX11_rowsOf_83 (by decide) (fun h_83 => ?_) (fun h_83 => ?_)
                        · simp only [w32_mod] at h_83
                          refine ww_iconst hX (pc := 188) (x := 0) dX11_rowsOf_188 rfl ?_
                          refine ww_istore hX (pc := 189) (lv' := [some (kR (some 49)), some (kI a), some (kI b), some (kI m), some (kI e), some (kI g), some (kI i), some (kI 0), none, none]) dX11_rowsOf_189 (by decide) rfl rfl ?_
                          have hl_191 : ∀ (n_191 : Nat) (q : Int) (J191 : aI1), (256 - q).toNat = n_191 → (QF I_1 J191 vv ∧ (Kp 49 73 Ja J191 ∧ (0 ≤ q ∧ q ≤ FU (Ia 51 304) + 1) ∧ J191 62 = J_1 62 ∧ JW (RW (Ia 51) (nxRf m Ia (I_1 61) (J_1 62)) e g (Ia 51 305).toNat (FU (Ia 51 304) + 1).toNat (i.toNat + 1)) q.toNat (J191 68) ∧ JW (RW (Ia 51) (nxRf m Ia (I_1 61) (J_1 62)) e g (Ia 51 305).toNat (FU (Ia 51 304) + 1).toNat (i.toNat + 1)) (FU (Ia 51 304) + 1).toNat (J191 69))) → WW X 191 [some (kR (some 49)), some (kI a), some (kI b), some (kI m), some (kI e), some (kI g), some (kI i), some (kI q), none, none] [] I_1 J191 Ra Sa 0 0 := by
                            intro n_191
                            induction n_191 using Nat.strongRecOn with
                            | ind n_191 ih_191 =>
                              intro q J191 hm_191 hv_191
                              have hq_191 := Sh0_i hm_191
                              clear hm_191
                              obtain ⟨qfl191, hv_191⟩ := hv_191
                              obtain ⟨kJ191, hu, j191, jw191, jn191⟩ := hv_191
                              refine ww_iload hX (pc := 191) dX11_rowsOf_191 rfl ?_
                              refine ww_aload_n hX (pc := 193) dX11_rowsOf_193 rfl ?_
                              refine vI0 hX (pc := 194) sX11_112 (xs_49 hL) (c_X11_states l0 hL cI_1 ) (by decide) (Nat.le_refl 0) (Nat.le_refl 0) (Nat.le_of_ble_eq_true rfl) dX11_rowsOf_194 (fun x_194 I_194 J_194 h_194 => ?_)
                              obtain ⟨rfl, rfl, h_194⟩ := h_194
                              refine ww_icmp_ge hX (pc := 197) (tgt := 220) dX11_rowsOf_197 (by decide) (fun h_197 => ?_) (fun h_197 => ?_)
                              · simp only [w32_mod] at h_197
                                refine ww_iinc hX (pc := 220) (lv' := [some (kR (some 49)), some (kI a), some (kI b), some (kI m), some (kI e), some (kI g), some (kI (i + 1)), some (kI q), none, none]) dX11_rowsOf_220 rfl (by decide) rfl rfl ?_
                                refine ww_goto hX (pc := 223) (tgt := 42) dX11_rowsOf_223 (by decide) ?_
                                refine ww_sub [some (kR (some 49)), some (kI a), some (kI b), some (kI m), some (kI e), some (kI g), some (kI (i + 1)), none, none, none] (aLe_s (aLe_s (aLe_s (aLe_s (aLe_s (aLe_s (aLe_s (aLe_n (aLe_n (aLe_n aLe_0)))))))))) ?_
                                exact ih_42 _ (by have hm9 := Sh0_e hq_42; omega) (i + 1) J191 rfl ⟨qfl191, ⟨kJ191, by omega, j191, by rw [show (i + 1).toNat = i.toNat + 1 by omega]; rw [show q.toNat = (FU (Ia 51 304) + 1).toNat by omega] at jw191; exact jw191⟩⟩
                              · simp only [w32_mod] at h_197
                                refine ww_aload_n hX (pc := 200) dX11_rowsOf_200 rfl ?_
                                refine ww_getR hX (pc := 201) fX11_80 (by decide) (xs_49 hL) (xr_49_34 hL) dX11_rowsOf_201 ?_
                                refine ww_iload hX (pc := 204) dX11_rowsOf_204 rfl ?_
                                refine ww_aload_n hX (pc := 206) dX11_rowsOf_206 rfl ?_
                                refine ww_getR hX (pc := 207) fX11_83 (by decide) (xs_49 hL) (xr_49_35 hL) dX11_rowsOf_207 ?_
                                refine ww_iload hX (pc := 210) dX11_rowsOf_210 rfl ?_
                                refine ww_lald hX (pc := 212) (xs_69 hL) (by decide) (by omega) (by omega) dX11_rowsOf_212 ?_
                                refine ww_last hX (pc := 213) (xs_68 hL) (by decide) (by omega) (by omega) dX11_rowsOf_213 ?_
                                refine ww_nmK (fun J_213 eJ_213 => ?_)
                                have kJ_213 : Kp 49 73 Ja J_213 := by rw [eJ_213]; exact Kp_up kJ191 _ _ (by decide)
                                have qfJ_213 : QF I_1 J_213 vv := by rw [eJ_213]; exact QF_sJ qfl191 (by decide)
                                have j213 : J_213 62 = J_1 62 := by rw [eJ_213, up2_off _ _ _ (by decide)]; exact j191
                                have jw213 : JW (RW (Ia 51) (nxRf m Ia (I_1 61) (J_1 62)) e g (Ia 51 305).toNat (FU (Ia 51 304) + 1).toNat (i.toNat + 1)) (q.toNat + 1) (J_213 68) := by rw [eJ_213, up2_row]; exact JW_z jw191 (jn191 q.toNat (by omega))
                                have jm213 : JW (RW (Ia 51) (nxRf m Ia (I_1 61) (J_1 62)) e g (Ia 51 305).toNat (FU (Ia 51 304) + 1).toNat (i.toNat + 1)) (FU (Ia 51 304) + 1).toNat (J_213 69) := by rw [eJ_213, up2_off _ _ _ (by decide)]; exact jn191
                                refine ww_iinc hX (pc := 214) (lv' := [some (kR (some 49)), some (kI a), some (kI b), some (kI m), some (kI e), some (kI g), some (kI i), some (kI (q + 1)), none, none]) dX11_rowsOf_214 rfl (by decide) rfl rfl ?_
                                refine ww_goto hX (pc := 217) (tgt := 191) dX11_rowsOf_217 (by decide) ?_
                                exact ih_191 _ (by have hm9 := Sh0_e hq_191; omega) (q + 1) J_213 rfl ⟨qfJ_213, ⟨kJ_213, by omega, j213, by rw [show (q + 1).toNat = q.toNat + 1 by omega]; exact jw213, jm213⟩⟩
                          exact hl_191 _ 0 J77 rfl ⟨qfl77, ⟨kJ77, by omega, j77, fun t ht => absurd ht (Nat.not_lt_zero _), by rw [show q.toNat = (FU (Ia 51 304) + 1).toNat by omega] at jp77; exact JW_f jp77⟩⟩
                        · simp only [w32_mod] at h_83
                          refine ww_iconst hX (pc := 86) (x := 0) dX11_rowsOf_86 rfl ?_
                          refine ww_istore hX (pc := 87) (lv' := [some (kR (some 49)), some (kI a), some (kI b), some (kI m), some (kI e), some (kI g), some (kI i), some (kI q), some (kI 0), none]) dX11_rowsOf_87 (by decide) rfl rfl ?_
                          have hl_89 : ∀ (n_89 : Nat) (w : Int) (J89 : aI1), (8 - w).toNat = n_89 → (QF I_1 J89 vv ∧ (Kp 49 73 Ja J89 ∧ (0 ≤ w ∧ w ≤ Ia 51 305) ∧ J89 62 = J_1 62 ∧ JW (RW (Ia 51) (nxRf m Ia (I_1 61) (J_1 62)) e g (Ia 51 305).toNat (FU (Ia 51 304) + 1).toNat i.toNat) (FU (Ia 51 304) + 1).toNat (J89 68) ∧ JW (QW (Ia 51) (nxRf m Ia (I_1 61) (J_1 62)) e g (Ia 51 305).toNat (FU (Ia 51 304) + 1).toNat q.toNat w.toNat (i.toNat + 1)) (FU (Ia 51 304) + 1).toNat (J89 69))) → WW X 89 [some (kR (some 49)), some (kI a), some (kI b), some (kI m), some (kI e), some (kI g), some (kI i), some (kI q), some (kI w), none] [] I_1 J89 Ra Sa 0 0 := by
                            intro n_89
                            induction n_89 using Nat.strongRecOn with
                            | ind n_89 ih_89 =>
                              intro w J89 hm_89 hv_89
                              have hq_89 := Sh0_i hm_89
                              clear hm_89
                              obtain ⟨qfl89, hv_89⟩ := hv_89
                              obtain ⟨kJ89, hw, j89, jw89, jq89⟩ := hv_89
                              refine ww_iload hX (pc := 89) dX11_rowsOf_89 rfl ?_
                              refine ww_aload_n hX (pc := 91) dX11_rowsOf_91 rfl ?_
                              refine ww_getR hX (pc := 92) fX11_20 (by decide) (xs_49 hL) (xr_49_3 hL) dX11_rowsOf_92 ?_
                              refine ww_sipush hX (pc := 95) (x := 305) dX11_rowsOf_95 (by decide) ?_
                              refine ww_iald hX (pc := 98) (xs_51 hL) (by decide) (by omega) (by omega) dX11_rowsOf_98 ?_
                              refine ww_toI (b := I_1 51 305) rfl ?_
                              refine ww_icmp_ge hX (pc := 99) (tgt := 182) dX11_rowsOf_99 (by decide) (fun h_99 => ?_) (fun h_99 => ?_)
                              · simp only [w32_mod] at h_99
                                have jn77 : JW (PW (Ia 51) (nxRf m Ia (I_1 61) (J_1 62)) e g (Ia 51 305).toNat (FU (Ia 51 304) + 1).toNat (q.toNat + 1) (i.toNat + 1)) (FU (Ia 51 304) + 1).toNat (J89 69) := by
                                  rw [show w.toNat = (Ia 51 305).toNat by omega] at jq89
                                  exact JW_e jq89
                                refine ww_iinc hX (pc := 182) (lv' := [some (kR (some 49)), some (kI a), some (kI b), some (kI m), some (kI e), some (kI g), some (kI i), some (kI (q + 1)), some (kI w), none]) dX11_rowsOf_182 rfl (by decide) rfl rfl ?_
                                refine ww_goto hX (pc := 185) (tgt := 77) dX11_rowsOf_185 (by decide) ?_
                                refine ww_sub [some (kR (some 49)), some (kI a), some (kI b), some (kI m), some (kI e), some (kI g), some (kI i), some (kI (q + 1)), none, none] (aLe_s (aLe_s (aLe_s (aLe_s (aLe_s (aLe_s (aLe_s (aLe_s (aLe_n (aLe_n aLe_0)))))))))) ?_
                                exact ih_77 _ (by have hm9 := Sh0_e hq_77; omega) (q + 1) J89 rfl ⟨qfl89, ⟨kJ89, by omega, j89, jw89, by rw [show (q + 1).toNat = q.toNat + 1 by omega]; exact jn77⟩⟩
                              · simp only [w32_mod] at h_99
                                refine ww_aload_n hX (pc := 102) dX11_rowsOf_102 rfl ?_
                                refine ww_getR hX (pc := 103) fX11_80 (by decide) (xs_49 hL) (xr_49_34 hL) dX11_rowsOf_103 ?_
                                refine ww_iload hX (pc := 106) dX11_rowsOf_106 rfl ?_
                                refine ww_lald hX (pc := 108) (xs_68 hL) (by decide) (by omega) (by omega) dX11_rowsOf_108 ?_
                                refine ww_lconst hX (pc := 109) (x := 0) dX11_rowsOf_109 (by decide) ?_
                                refine ww_lcmp hX (pc := 110) dX11_rowsOf_110 ?_
                                refine ww_if_le hX (pc := 111) (tgt := 182) dX11_rowsOf_111 (by decide) (fun h_111 => ?_) (fun h_111 => ?_)
                                · simp only [w32_mod] at h_111
                                  have h8 := jw89 q.toNat (by omega)
                                  have h7 := RW_nn (own := Ia 51) (nx := nxRf m Ia (I_1 61) (J_1 62)) (j := e) (w := g) (K := (Ia 51 305).toNat) (N := (FU (Ia 51 304) + 1).toNat) i.toNat q.toNat
                                  have h6 := RW_b (own := Ia 51) (nx := nxRf m Ia (I_1 61) (J_1 62)) (j := e) (w := g) (K := (Ia 51 305).toNat) (N := (FU (Ia 51 304) + 1).toNat) (by omega) (i := i.toNat) (t := q.toNat) (by omega) (by omega)
                                  have hz : RW (Ia 51) (nxRf m Ia (I_1 61) (J_1 62)) e g (Ia 51 305).toNat (FU (Ia 51 304) + 1).toNat i.toNat q.toNat = 0 := by
                                    have h9 := l_cmp_v (J89 68 q.toNat) 0
                                    rw [show w64 0 = 0 from rfl, w64_id (x := J89 68 q.toNat) (by omega) (by omega)] at h9
                                    omega
                                  have jn77 : JW (PW (Ia 51) (nxRf m Ia (I_1 61) (J_1 62)) e g (Ia 51 305).toNat (FU (Ia 51 304) + 1).toNat (q.toNat + 1) (i.toNat + 1)) (FU (Ia 51 304) + 1).toNat (J89 69) := JW_n jq89 hz
                                  refine ww_iinc hX (pc := 182) (lv' := [some (kR (some 49)), some (kI a), some (kI b), some (kI m), some (kI e), some (kI g), some (kI i), some (kI (q + 1)), some (kI w), none]) dX11_rowsOf_182 rfl (by decide) rfl rfl ?_
                                  refine ww_goto hX (pc := 185) (tgt := 77) dX11_rowsOf_185 (by decide) ?_
                                  refine ww_sub [some (kR (some 49)), some (kI a), some (kI b), some (kI m), some (kI e), some (kI g), some (kI i), some (kI (q + 1)), none, none] (aLe_s (aLe_s (aLe_s (aLe_s (aLe_s (aLe_s (aLe_s (aLe_s (aLe_n (aLe_n aLe_0)))))))))) ?_
                                  exact ih_77 _ (by have hm9 := Sh0_e hq_77; omega) (q + 1) J89 rfl ⟨qfl89, ⟨kJ89, by omega, j89, jw89, by rw [show (q + 1).toNat = q.toNat + 1 by omega]; exact jn77⟩⟩
                                · simp only [w32_mod] at h_111
                                  refine ww_iload hX (pc := 114) dX11_rowsOf_114 rfl ?_
                                  refine ww_aload_n hX (pc := 116) dX11_rowsOf_116 rfl ?_
                                  refine ww_iload hX (pc := 117) dX11_rowsOf_117 rfl ?_
                                  refine vI1 hX (pc := 119) sX11_126 (xs_49 hL) (c_X11_readOf l0 hL cI_1 (by omega) (by omega)) (by decide) (Nat.le_refl 0) (Nat.le_refl 0) (Nat.le_of_ble_eq_true rfl) dX11_rowsOf_119 (fun x_119 I_119 J_119 h_119 => ?_)
                                  obtain ⟨rfl, rfl, h_119⟩ := h_119
                                  have hown : x_119 = Ia 51 q.toNat := by rw [h_119, e51_1]
                                  have hcq := hcr q.toNat (by omega)
                                  refine ww_icmp_eq hX (pc := 122) (tgt := 176) dX11_rowsOf_122 (by decide) (fun h_122 => ?_) (fun h_122 => ?_)
                                  · simp only [w32_mod] at h_122
                                    have jn89 : JW (QW (Ia 51) (nxRf m Ia (I_1 61) (J_1 62)) e g (Ia 51 305).toNat (FU (Ia 51 304) + 1).toNat q.toNat (w.toNat + 1) (i.toNat + 1)) (FU (Ia 51 304) + 1).toNat (J89 69) := JW_k jq89 (fun t => eW_own (by omega))
                                    skip
                                    refine ww_iinc hX (pc := 176) (lv' := [some (kR (some 49)), some (kI a), some (kI b), some (kI m), some (kI e), some (kI g), some (kI i), some (kI q), some (kI (w + 1)), none]) dX11_rowsOf_176 rfl (by decide) rfl rfl ?_
                                    refine ww_goto hX (pc := 179) (tgt := 89) dX11_rowsOf_179 (by decide) ?_
                                    exact ih_89 _ (by have hm9 := Sh0_e hq_89; omega) (w + 1) J89 rfl ⟨qfl89, ⟨kJ89, by omega, j89, jw89, by rw [show (w + 1).toNat = w.toNat + 1 by omega]; exact jn89⟩⟩
                                  · simp only [w32_mod] at h_122
                                    refine ww_iload hX (pc := 125) dX11_rowsOf_125 rfl ?_
                                    refine ww_iload hX (pc := 127) dX11_rowsOf_127 rfl ?_
                                    refine ww_icmp_ne hX (pc := 129) (tgt := 142) dX11_rowsOf_129 (by decide) (fun h_129 => ?_) (fun h_129 => ?_)
                                    · simp only [w32_mod] at h_129
                                      refine ww_aload_n hX (pc := 142) dX11_rowsOf_142 rfl ?_
                                      refine ww_iload hX (pc := 143) dX11_rowsOf_143 rfl ?_
                                      refine ww_iload hX (pc := 145) dX11_rowsOf_145 rfl ?_
                                      refine ww_iload_n hX (pc := 147) dX11_rowsOf_147 rfl ?_
                                      refine vI3 hX (pc := 148) sX11_311 (xs_49 hL) (c8_X11_nextOf l0 hL cI_1 (by omega) (by omega) (by omega) (by omega) (by omega) (by omega) (by rw [e51_1]; exact hO) (by rw [e51_1]; exact hcr) (by rw [e51_1, j89]; exact fun t ht => (hmr t ht).2)) (by decide) (Nat.le_refl 0) (Nat.le_refl 0) (Nat.le_of_ble_eq_true rfl) dX11_rowsOf_148 (fun x_148 I_148 J_148 h_148 => ?_)
                                      obtain ⟨rfl, rfl, h_148⟩ := h_148
                                      have hnx0 : nxRf m Ia (I_1 61) (J_1 62) q.toNat w.toNat = x_148 := by
                                        unfold nxRf
                                        rw [show ((q.toNat : Nat) : Int) = q by omega, show ((w.toNat : Nat) : Int) = w by omega, h_148, e51_1, j89]
                                      have hrg : -1 ≤ x_148 ∧ x_148 ≤ FU (Ia 51 304) := by rw [h_148, e51_1]; exact NX_r9 (by omega) (by omega) rfl
                                      refine ww_istore hX (pc := 151) (lv' := [some (kR (some 49)), some (kI a), some (kI b), some (kI m), some (kI e), some (kI g), some (kI i), some (kI q), some (kI w), some (kI x_148)]) dX11_rowsOf_151 (by decide) rfl rfl ?_
                                      refine ww_iload hX (pc := 153) dX11_rowsOf_153 rfl ?_
                                      refine ww_iconst hX (pc := 155) (x := (-1)) dX11_rowsOf_155 rfl ?_
                                      refine ww_icmp_eq hX (pc := 156) (tgt := 176) dX11_rowsOf_156 (by decide) (fun h_156 => ?_) (fun h_156 => ?_)
                                      · simp only [w32_mod] at h_156
                                        have jn89 : JW (QW (Ia 51) (nxRf m Ia (I_1 61) (J_1 62)) e g (Ia 51 305).toNat (FU (Ia 51 304) + 1).toNat q.toNat (w.toNat + 1) (i.toNat + 1)) (FU (Ia 51 304) + 1).toNat (J89 69) := JW_k jq89 (fun t => eW_t (by rw [hnx0]; omega))
                                        skip
                                        refine ww_iinc hX (pc := 176) (lv' := [some (kR (some 49)), some (kI a), some (kI b), some (kI m), some (kI e), some (kI g), some (kI i), some (kI q), some (kI (w + 1)), some (kI x_148)]) dX11_rowsOf_176 rfl (by decide) rfl rfl ?_
                                        refine ww_goto hX (pc := 179) (tgt := 89) dX11_rowsOf_179 (by decide) ?_
                                        refine ww_sub [some (kR (some 49)), some (kI a), some (kI b), some (kI m), some (kI e), some (kI g), some (kI i), some (kI q), some (kI (w + 1)), none] (aLe_s (aLe_s (aLe_s (aLe_s (aLe_s (aLe_s (aLe_s (aLe_s (aLe_s (aLe_n aLe_0)))))))))) ?_
                                        exact ih_89 _ (by have hm9 := Sh0_e hq_89; omega) (w + 1) J89 rfl ⟨qfl89, ⟨kJ89, by omega, j89, jw89, by rw [show (w + 1).toNat = w.toNat + 1 by omega]; exact jn89⟩⟩
                                      · simp only [w32_mod] at h_156
                                        refine ww_aload_n hX (pc := 159) dX11_rowsOf_159 rfl ?_
                                        refine ww_getR hX (pc := 160) fX11_83 (by decide) (xs_49 hL) (xr_49_35 hL) dX11_rowsOf_160 ?_
                                        refine ww_iload hX (pc := 163) dX11_rowsOf_163 rfl ?_
                                        refine ww_dup2 hX (pc := 165) dX11_rowsOf_165 ?_
                                        refine ww_lald hX (pc := 166) (xs_69 hL) (by decide) (by omega) (by omega) dX11_rowsOf_166 ?_
                                        refine ww_aload_n hX (pc := 167) dX11_rowsOf_167 rfl ?_
                                        refine ww_getR hX (pc := 168) fX11_80 (by decide) (xs_49 hL) (xr_49_34 hL) dX11_rowsOf_168 ?_
                                        refine ww_iload hX (pc := 171) dX11_rowsOf_171 rfl ?_
                                        refine ww_lald hX (pc := 173) (xs_68 hL) (by decide) (by omega) (by omega) dX11_rowsOf_173 ?_
                                        refine ww_ladd hX (pc := 174) dX11_rowsOf_174 ?_
                                        refine ww_last hX (pc := 175) (xs_69 hL) (by decide) (by omega) (by omega) dX11_rowsOf_175 ?_
                                        refine ww_nmK (fun J_175 eJ_175 => ?_)
                                        have kJ_175 : Kp 49 73 Ja J_175 := by rw [eJ_175]; exact Kp_up kJ89 _ _ (by decide)
                                        have qfJ_175 : QF I_1 J_175 vv := by rw [eJ_175]; exact QF_sJ qfl89 (by decide)
                                        have j175 : J_175 62 = J_1 62 := by rw [eJ_175, up2_off _ _ _ (by decide)]; exact j89
                                        have jw175 : JW (RW (Ia 51) (nxRf m Ia (I_1 61) (J_1 62)) e g (Ia 51 305).toNat (FU (Ia 51 304) + 1).toNat i.toNat) (FU (Ia 51 304) + 1).toNat (J_175 68) := by rw [eJ_175, up2_off _ _ _ (by decide)]; exact jw89
                                        have jn89 : JW (QW (Ia 51) (nxRf m Ia (I_1 61) (J_1 62)) e g (Ia 51 305).toNat (FU (Ia 51 304) + 1).toNat q.toNat (w.toNat + 1) (i.toNat + 1)) (FU (Ia 51 304) + 1).toNat (J_175 69) := by
                                          rw [eJ_175, up2_row]
                                          exact JW_add jq89 (to := x_148.toNat) (by rw [hnx0]; omega) (by omega) (by omega) (fun h9 => by omega) (jw89 q.toNat (by omega))
                                        refine ww_iinc hX (pc := 176) (lv' := [some (kR (some 49)), some (kI a), some (kI b), some (kI m), some (kI e), some (kI g), some (kI i), some (kI q), some (kI (w + 1)), some (kI x_148)]) dX11_rowsOf_176 rfl (by decide) rfl rfl ?_
                                        refine ww_goto hX (pc := 179) (tgt := 89) dX11_rowsOf_179 (by decide) ?_
                                        refine ww_sub [some (kR (some 49)), some (kI a), some (kI b), some (kI m), some (kI e), some (kI g), some (kI i), some (kI q), some (kI (w + 1)), none] (aLe_s (aLe_s (aLe_s (aLe_s (aLe_s (aLe_s (aLe_s (aLe_s (aLe_s (aLe_n aLe_0)))))))))) ?_
                                        exact ih_89 _ (by have hm9 := Sh0_e hq_89; omega) (w + 1) J_175 rfl ⟨qfJ_175, ⟨kJ_175, by omega, j175, jw175, by rw [show (w + 1).toNat = w.toNat + 1 by omega]; exact jn89⟩⟩
                                    · simp only [w32_mod] at h_129
                                      refine ww_iload hX (pc := 132) dX11_rowsOf_132 rfl ?_
                                      refine ww_iload hX (pc := 134) dX11_rowsOf_134 rfl ?_
                                      refine ww_icmp_eq hX (pc := 136) (tgt := 142) dX11_rowsOf_136 (by decide) (fun h_136 => ?_) (fun h_136 => ?_)
                                      · simp only [w32_mod] at h_136
                                        refine ww_aload_n hX (pc := 142) dX11_rowsOf_142 rfl ?_
                                        refine ww_iload hX (pc := 143) dX11_rowsOf_143 rfl ?_
                                        refine ww_iload hX (pc := 145) dX11_rowsOf_145 rfl ?_
                                        refine ww_iload_n hX (pc := 147) dX11_rowsOf_147 rfl ?_
                                        refine vI3 hX (pc := 148) sX11_311 (xs_49 hL) (c8_X11_nextOf l0 hL cI_1 (by omega) (by omega) (by omega) (by omega) (by omega) (by omega) (by rw [e51_1]; exact hO) (by rw [e51_1]; exact hcr) (by rw [e51_1, j89]; exact fun t ht => (hmr t ht).2)) (by decide) (Nat.le_refl 0) (Nat.le_refl 0) (Nat.le_of_ble_eq_true rfl) dX11_rowsOf_148 (fun x_148 I_148 J_148 h_148 => ?_)
                                        obtain ⟨rfl, rfl, h_148⟩ := h_148
                                        have hnx0 : nxRf m Ia (I_1 61) (J_1 62) q.toNat w.toNat = x_148 := by
                                          unfold nxRf
                                          rw [show ((q.toNat : Nat) : Int) = q by omega, show ((w.toNat : Nat) : Int) = w by omega, h_148, e51_1, j89]
                                        have hrg : -1 ≤ x_148 ∧ x_148 ≤ FU (Ia 51 304) := by rw [h_148, e51_1]; exact NX_r9 (by omega) (by omega) rfl
                                        refine ww_istore hX (pc := 151) (lv' := [some (kR (some 49)), some (kI a), some (kI b), some (kI m), some (kI e), some (kI g), some (kI i), some (kI q), some (kI w), some (kI x_148)]) dX11_rowsOf_151 (by decide) rfl rfl ?_
                                        refine ww_iload hX (pc := 153) dX11_rowsOf_153 rfl ?_
                                        refine ww_iconst hX (pc := 155) (x := (-1)) dX11_rowsOf_155 rfl ?_
                                        refine ww_icmp_eq hX (pc := 156) (tgt := 176) dX11_rowsOf_156 (by decide) (fun h_156 => ?_) (fun h_156 => ?_)
                                        · simp only [w32_mod] at h_156
                                          have jn89 : JW (QW (Ia 51) (nxRf m Ia (I_1 61) (J_1 62)) e g (Ia 51 305).toNat (FU (Ia 51 304) + 1).toNat q.toNat (w.toNat + 1) (i.toNat + 1)) (FU (Ia 51 304) + 1).toNat (J89 69) := JW_k jq89 (fun t => eW_t (by rw [hnx0]; omega))
                                          skip
                                          refine ww_iinc hX (pc := 176) (lv' := [some (kR (some 49)), some (kI a), some (kI b), some (kI m), some (kI e), some (kI g), some (kI i), some (kI q), some (kI (w + 1)), some (kI x_148)]) dX11_rowsOf_176 rfl (by decide) rfl rfl ?_
                                          refine ww_goto hX (pc := 179) (tgt := 89) dX11_rowsOf_179 (by decide) ?_
                                          refine ww_sub [some (kR (some 49)), some (kI a), some (kI b), some (kI m), some (kI e), some (kI g), some (kI i), some (kI q), some (kI (w + 1)), none] (aLe_s (aLe_s (aLe_s (aLe_s (aLe_s (aLe_s (aLe_s (aLe_s (aLe_s (aLe_n aLe_0)))))))))) ?_
                                          exact ih_89 _ (by have hm9 := Sh0_e hq_89; omega) (w + 1) J89 rfl ⟨qfl89, ⟨kJ89, by omega, j89, jw89, by rw [show (w + 1).toNat = w.toNat + 1 by omega]; exact jn89⟩⟩
                                        · simp only [w32_mod] at h_156
                                          refine ww_aload_n hX (pc := 159) dX11_rowsOf_159 rfl ?_
                                          refine ww_getR hX (pc := 160) fX11_83 (by decide) (xs_49 hL) (xr_49_35 hL) dX11_rowsOf_160 ?_
                                          refine ww_iload hX (pc := 163) dX11_rowsOf_163 rfl ?_
                                          refine ww_dup2 hX (pc := 165) dX11_rowsOf_165 ?_
                                          refine ww_lald hX (pc := 166) (xs_69 hL) (by decide) (by omega) (by omega) dX11_rowsOf_166 ?_
                                          refine ww_aload_n hX (pc := 167) dX11_rowsOf_167 rfl ?_
                                          refine ww_getR hX (pc := 168) fX11_80 (by decide) (xs_49 hL) (xr_49_34 hL) dX11_rowsOf_168 ?_
                                          refine ww_iload hX (pc := 171) dX11_rowsOf_171 rfl ?_
                                          refine ww_lald hX (pc := 173) (xs_68 hL) (by decide) (by omega) (by omega) dX11_rowsOf_173 ?_
                                          refine ww_ladd hX (pc := 174) dX11_rowsOf_174 ?_
                                          refine ww_last hX (pc := 175) (xs_69 hL) (by decide) (by omega) (by omega) dX11_rowsOf_175 ?_
                                          refine ww_nmK (fun J_175 eJ_175 => ?_)
                                          have kJ_175 : Kp 49 73 Ja J_175 := by rw [eJ_175]; exact Kp_up kJ89 _ _ (by decide)
                                          have qfJ_175 : QF I_1 J_175 vv := by rw [eJ_175]; exact QF_sJ qfl89 (by decide)
                                          have j175 : J_175 62 = J_1 62 := by rw [eJ_175, up2_off _ _ _ (by decide)]; exact j89
                                          have jw175 : JW (RW (Ia 51) (nxRf m Ia (I_1 61) (J_1 62)) e g (Ia 51 305).toNat (FU (Ia 51 304) + 1).toNat i.toNat) (FU (Ia 51 304) + 1).toNat (J_175 68) := by rw [eJ_175, up2_off _ _ _ (by decide)]; exact jw89
                                          have jn89 : JW (QW (Ia 51) (nxRf m Ia (I_1 61) (J_1 62)) e g (Ia 51 305).toNat (FU (Ia 51 304) + 1).toNat q.toNat (w.toNat + 1) (i.toNat + 1)) (FU (Ia 51 304) + 1).toNat (J_175 69) := by
                                            rw [eJ_175, up2_row]
                                            exact JW_add jq89 (to := x_148.toNat) (by rw [hnx0]; omega) (by omega) (by omega) (fun h9 => by omega) (jw89 q.toNat (by omega))
                                          refine ww_iinc hX (pc := 176) (lv' := [some (kR (some 49)), some (kI a), some (kI b), some (kI m), some (kI e), some (kI g), some (kI i), some (kI q), some (kI (w + 1)), some (kI x_148)]) dX11_rowsOf_176 rfl (by decide) rfl rfl ?_
                                          refine ww_goto hX (pc := 179) (tgt := 89) dX11_rowsOf_179 (by decide) ?_
                                          refine ww_sub [some (kR (some 49)), some (kI a), some (kI b), some (kI m), some (kI e), some (kI g), some (kI i), some (kI q), some (kI (w + 1)), none] (aLe_s (aLe_s (aLe_s (aLe_s (aLe_s (aLe_s (aLe_s (aLe_s (aLe_s (aLe_n aLe_0)))))))))) ?_
                                          exact ih_89 _ (by have hm9 := Sh0_e hq_89; omega) (w + 1) J_175 rfl ⟨qfJ_175, ⟨kJ_175, by omega, j175, jw175, by rw [show (w + 1).toNat = w.toNat + 1 by omega]; exact jn89⟩⟩
                                      · simp only [w32_mod] at h_136
                                        have jn89 : JW (QW (Ia 51) (nxRf m Ia (I_1 61) (J_1 62)) e g (Ia 51 305).toNat (FU (Ia 51 304) + 1).toNat q.toNat (w.toNat + 1) (i.toNat + 1)) (FU (Ia 51 304) + 1).toNat (J89 69) := JW_k jq89 (fun t => eW_j (by omega) (by omega))
                                        refine ww_goto hX (pc := 139) (tgt := 176) dX11_rowsOf_139 (by decide) ?_
                                        skip
                                        refine ww_iinc hX (pc := 176) (lv' := [some (kR (some 49)), some (kI a), some (kI b), some (kI m), some (kI e), some (kI g), some (kI i), some (kI q), some (kI (w + 1)), none]) dX11_rowsOf_176 rfl (by decide) rfl rfl ?_
                                        refine ww_goto hX (pc := 179) (tgt := 89) dX11_rowsOf_179 (by decide) ?_
                                        exact ih_89 _ (by have hm9 := Sh0_e hq_89; omega) (w + 1) J89 rfl ⟨qfl89, ⟨kJ89, by omega, j89, jw89, by rw [show (w + 1).toNat = w.toNat + 1 by omega]; exact jn89⟩⟩
                          exact hl_89 _ 0 J77 rfl ⟨qfl77, ⟨kJ77, by omega, j77, jw77, JW_s jp77⟩⟩
                    exact hl_77 _ 0 J51 rfl ⟨qfl51, ⟨kJ51, by omega, j51, jw51, by rw [show q.toNat = (FU (Ia 51 304) + 1).toNat by omega] at jz51; exact JW_a jz51⟩⟩
                  · simp only [w32_mod] at h_57
                    refine ww_aload_n hX (pc := 60) dX11_rowsOf_60 rfl ?_
                    refine ww_getR hX (pc := 61) fX11_83 (by decide) (xs_49 hL) (xr_49_35 hL) dX11_rowsOf_61 ?_
                    refine ww_iload hX (pc := 64) dX11_rowsOf_64 rfl ?_
                    refine ww_lconst hX (pc := 66) (x := 0) dX11_rowsOf_66 (by decide) ?_
                    refine ww_last hX (pc := 67) (xs_69 hL) (by decide) (by omega) (by omega) dX11_rowsOf_67 ?_
                    refine ww_nmK (fun J_67 eJ_67 => ?_)
                    have kJ_67 : Kp 49 73 Ja J_67 := by rw [eJ_67]; exact Kp_up kJ51 _ _ (by decide)
                    have qfJ_67 : QF I_1 J_67 vv := by rw [eJ_67]; exact QF_sJ qfl51 (by decide)
                    have j67 : J_67 62 = J_1 62 := by rw [eJ_67, up2_off _ _ _ (by decide)]; exact j51
                    have jw67 : JW (RW (Ia 51) (nxRf m Ia (I_1 61) (J_1 62)) e g (Ia 51 305).toNat (FU (Ia 51 304) + 1).toNat i.toNat) (FU (Ia 51 304) + 1).toNat (J_67 68) := by rw [eJ_67, up2_off _ _ _ (by decide)]; exact jw51
                    have jz67 : JW (fun _ => 0) (q.toNat + 1) (J_67 69) := by rw [eJ_67, up2_row]; exact JW_z jz51 rfl
                    refine ww_iinc hX (pc := 68) (lv' := [some (kR (some 49)), some (kI a), some (kI b), some (kI m), some (kI e), some (kI g), some (kI i), some (kI (q + 1)), none, none]) dX11_rowsOf_68 rfl (by decide) rfl rfl ?_
                    refine ww_goto hX (pc := 71) (tgt := 51) dX11_rowsOf_71 (by decide) ?_
                    exact ih_51 _ (by have hm9 := Sh0_e hq_51; omega) (q + 1) J_67 rfl ⟨qfJ_67, ⟨kJ_67, by omega, j67, jw67, by rw [show (q + 1).toNat = q.toNat + 1 by omega]; exact jz67⟩⟩
              exact hl_51 _ 0 J42 rfl ⟨qfl42, ⟨kJ42, by omega, j42, jw42, fun t ht => absurd ht (Nat.not_lt_zero _)⟩⟩
        exact hl_42 _ 0 J7 rfl ⟨qfl7, ⟨kJ7, by omega, j7, by rw [show i.toNat = (FU (Ia 51 304) + 1).toNat by omega] at jw7; exact jw7⟩⟩
      · simp only [w32_mod] at h_13
        refine ww_aload_n hX (pc := 16) dX11_rowsOf_16 rfl ?_
        refine ww_getR hX (pc := 17) fX11_80 (by decide) (xs_49 hL) (xr_49_34 hL) dX11_rowsOf_17 ?_
        refine ww_iload hX (pc := 20) dX11_rowsOf_20 rfl ?_
        refine ww_iload hX (pc := 22) dX11_rowsOf_22 rfl ?_
        refine ww_if_ne hX (pc := 24) (tgt := 31) dX11_rowsOf_24 (by decide) (fun h_24 => ?_) (fun h_24 => ?_)
        · simp only [w32_mod] at h_24
          refine ww_lconst hX (pc := 31) (x := 0) dX11_rowsOf_31 (by decide) ?_
          refine ww_last hX (pc := 32) (xs_68 hL) (by decide) (by omega) (by omega) dX11_rowsOf_32 ?_
          refine ww_nmK (fun J_32 eJ_32 => ?_)
          have kJ_32 : Kp 49 73 Ja J_32 := by rw [eJ_32]; exact Kp_up kJ7 _ _ (by decide)
          have qfJ_32 : QF I_1 J_32 vv := by rw [eJ_32]; exact QF_sJ qfl7 (by decide)
          have j32 : J_32 62 = J_1 62 := by rw [eJ_32, up2_off _ _ _ (by decide)]; exact j7
          have jn7 : JW (RW (Ia 51) (nxRf m Ia (I_1 61) (J_1 62)) e g (Ia 51 305).toNat (FU (Ia 51 304) + 1).toNat 0) (i.toNat + 1) (J_32 68) := by
            rw [eJ_32, up2_row]
            exact JW_0 jw7 (by first | exact (if_pos (by omega)).symm | exact (if_neg (by omega)).symm)
          refine ww_iinc hX (pc := 33) (lv' := [some (kR (some 49)), some (kI a), some (kI b), some (kI m), some (kI e), some (kI g), some (kI (i + 1)), none, none, none]) dX11_rowsOf_33 rfl (by decide) rfl rfl ?_
          refine ww_goto hX (pc := 36) (tgt := 7) dX11_rowsOf_36 (by decide) ?_
          exact ih_7 _ (by have hm9 := Sh0_e hq_7; omega) (i + 1) J_32 rfl ⟨qfJ_32, ⟨kJ_32, by omega, j32, by rw [show (i + 1).toNat = i.toNat + 1 by omega]; exact jn7⟩⟩
        · simp only [w32_mod] at h_24
          refine ww_lconst hX (pc := 27) (x := 1) dX11_rowsOf_27 (by decide) ?_
          refine ww_goto hX (pc := 28) (tgt := 32) dX11_rowsOf_28 (by decide) ?_
          refine ww_last hX (pc := 32) (xs_68 hL) (by decide) (by omega) (by omega) dX11_rowsOf_32 ?_
          refine ww_nmK (fun J_32 eJ_32 => ?_)
          have kJ_32 : Kp 49 73 Ja J_32 := by rw [eJ_32]; exact Kp_up kJ7 _ _ (by decide)
          have qfJ_32 : QF I_1 J_32 vv := by rw [eJ_32]; exact QF_sJ qfl7 (by decide)
          have j32 : J_32 62 = J_1 62 := by rw [eJ_32, up2_off _ _ _ (by decide)]; exact j7
          have jn7 : JW (RW (Ia 51) (nxRf m Ia (I_1 61) (J_1 62)) e g (Ia 51 305).toNat (FU (Ia 51 304) + 1).toNat 0) (i.toNat + 1) (J_32 68) := by
            rw [eJ_32, up2_row]
            exact JW_0 jw7 (by first | exact (if_pos (by omega)).symm | exact (if_neg (by omega)).symm)
          refine ww_iinc hX (pc := 33) (lv' := [some (kR (some 49)), some (kI a), some (kI b), some (kI m), some (kI e), some (kI g), some (kI (i + 1)), none, none, none]) dX11_rowsOf_33 rfl (by decide) rfl rfl ?_
          refine ww_goto hX (pc := 36) (tgt := 7) dX11_rowsOf_36 (by decide) ?_
          exact ih_7 _ (by have hm9 := Sh0_e hq_7; omega) (i + 1) J_32 rfl ⟨qfJ_32, ⟨kJ_32, by omega, j32, by rw [show (i + 1).toNat = i.toNat + 1 by omega]; exact jn7⟩⟩
  exact hl_7 _ 0 J_1 rfl ⟨hqf, ⟨kJ_1, by omega, rfl, fun t ht => absurd ht (Nat.not_lt_zero _)⟩⟩
set_option maxHeartbeats 4000000 in
set_option maxRecDepth 20000 in
theorem c8_X11_rows (l0 : Launch) {Ia Ja : aI1} {Ra : aR1} {Sa : aS1} (hL : LY Ra Sa) (hQ : RX Ia) {a b c : Int} (ha0 : -2147483648 ≤ a) (ha1 : a < 2147483648) (hb0 : -2147483648 ≤ b) (hb1 : b < 2147483648) (hc0 : -2147483648 ≤ c) (hc1 : c < 2147483648) (hO : ∀ l, l < 8 → 0 ≤ Ia 51 (256 + l) ∧ Ia 51 (256 + l) ≤ 99) (hcr : ∀ t : Nat, (t : Int) ≤ FU (Ia 51 304) → -1 ≤ Ia 51 t ∧ Ia 51 t ≤ 7) (hK : ∀ s : Nat, (s : Int) ≤ FU (Ia 51 304) → Ia 51 s < Ia 51 305) {vv : Int} (hq : QF Ia Ja vv) (hv9 : vv ≤ 1000000)  : CT l0 6 0 0 mX11_rows [kR (some 49), kI a, kI b, kI c] Ia Ja Ra Sa (cJ (fun x I' J' => Ch [61] [25] Ia I' ∧ Kp 49 73 Ja J' ∧ RX I' ∧ I' 51 = Ia 51 ∧ QF I' J' vv ∧ ((0 ≤ a ∧ a ≤ 8 ∧ 0 ≤ b ∧ b ≤ FU (Ia 51 304) ∧ 0 ≤ c ∧ c ≤ 3) → ∃ L M, (zLV (Ia 51) (Ia 51 306) (FU (Ia 51 304) + 1) (Ia 51 305) (-1) L ∧ MRc (Ia 51) (Ia 51 306) (Ia 51 304) (Ia 51 305) M) ∧ x = RW (Ia 51) (nxRf c Ia L M) (-1) 0 (Ia 51 305).toNat (FU (Ia 51 304) + 1).toNat a.toNat b.toNat) ∧ (¬ (0 ≤ a ∧ a ≤ 8 ∧ 0 ≤ b ∧ b ≤ FU (Ia 51 304) ∧ 0 ≤ c ∧ c ≤ 3) → x = -1)) Ra Sa) := by
  refine ct_in pn_X11 (Nat.le_of_ble_eq_true rfl) (fun X hX hT hIn => ?_)
  have hX : aK l0 X cX11_rows 4 RX11 (some .long) 6 0 0 := hX
  change WW X 0 [some (kR (some 49)), some (kI a), some (kI b), some (kI c)] [] Ia Ja Ra Sa 0 0
  have qIa := RX_o hQ
  refine ww_iload_n hX (pc := 0) dX11_rows_0 rfl ?_
  refine ww_iconst hX (pc := 1) (x := 0) dX11_rows_1 rfl ?_
  refine ww_bipush hX (pc := 2) (x := 8) dX11_rows_2 (by decide) ?_
  refine sI3 hX (pc := 4) sX11_101 (c_X11_lies l0 (by omega) (by omega) (by omega) (by omega) (by omega) (by omega)) (by decide) (Nat.le_refl 0) (Nat.le_refl 0) (Nat.le_of_ble_eq_true rfl) dX11_rows_4 (fun x_4 I_4 J_4 h_4 => ?_)
  obtain ⟨rfl, rfl, h_4⟩ := h_4
  refine ww_if_eq hX (pc := 7) (tgt := 37) dX11_rows_7 (by decide) (fun h_7 => ?_) (fun h_7 => ?_)
  · simp only [w32_mod] at h_7
    refine ww_ldc2 hX (pc := 37) (x := (-1)) dX11_rows_37 tb_1398 ?_
    refine rJ hX (pc := 40) hT (Nat.le_refl 0) (Nat.le_refl 0) dX11_rows_40 ?_
    exact ⟨Ch_rf, (Kp_rf (a := 49) (b := 73)), hQ, rfl, hq, (fun h9 => absurd h9 (by omega)), (fun _ => rfl)⟩
  · simp only [w32_mod] at h_7
    have k_4 := h_4.2.mp (by omega)
    clear h_4
    refine ww_aload_n hX (pc := 10) dX11_rows_10 rfl ?_
    refine ww_iload_n hX (pc := 11) dX11_rows_11 rfl ?_
    refine vI1 hX (pc := 12) sX11_120 (xs_49 hL) (c_X11_isState l0 hL hQ (by omega) (by omega)) (by decide) (Nat.le_refl 0) (Nat.le_refl 0) (Nat.le_of_ble_eq_true rfl) dX11_rows_12 (fun x_12 I_12 J_12 h_12 => ?_)
    obtain ⟨rfl, rfl, h_12⟩ := h_12
    refine ww_if_eq hX (pc := 15) (tgt := 37) dX11_rows_15 (by decide) (fun h_15 => ?_) (fun h_15 => ?_)
    · simp only [w32_mod] at h_15
      refine ww_ldc2 hX (pc := 37) (x := (-1)) dX11_rows_37 tb_1398 ?_
      refine rJ hX (pc := 40) hT (Nat.le_refl 0) (Nat.le_refl 0) dX11_rows_40 ?_
      exact ⟨Ch_rf, (Kp_rf (a := 49) (b := 73)), hQ, rfl, hq, (fun h9 => absurd h9 (by omega)), (fun _ => rfl)⟩
    · simp only [w32_mod] at h_15
      have k_12 := h_12.2.mp (by omega)
      clear h_12
      refine ww_iload_n hX (pc := 18) dX11_rows_18 rfl ?_
      refine sI1 hX (pc := 19) sX11_308 (c_X11_isManner l0 (by omega) (by omega)) (by decide) (Nat.le_refl 0) (Nat.le_refl 0) (Nat.le_of_ble_eq_true rfl) dX11_rows_19 (fun x_19 I_19 J_19 h_19 => ?_)
      obtain ⟨rfl, rfl, h_19⟩ := h_19
      refine ww_if_eq hX (pc := 22) (tgt := 37) dX11_rows_22 (by decide) (fun h_22 => ?_) (fun h_22 => ?_)
      · simp only [w32_mod] at h_22
        refine ww_ldc2 hX (pc := 37) (x := (-1)) dX11_rows_37 tb_1398 ?_
        refine rJ hX (pc := 40) hT (Nat.le_refl 0) (Nat.le_refl 0) dX11_rows_40 ?_
        exact ⟨Ch_rf, (Kp_rf (a := 49) (b := 73)), hQ, rfl, hq, (fun h9 => absurd h9 (by omega)), (fun _ => rfl)⟩
      · simp only [w32_mod] at h_22
        have k_19 := h_19.2.mp (by omega)
        clear h_19
        refine ww_aload_n hX (pc := 25) dX11_rows_25 rfl ?_
        refine ww_iload_n hX (pc := 26) dX11_rows_26 rfl ?_
        refine ww_iload_n hX (pc := 27) dX11_rows_27 rfl ?_
        refine ww_iload_n hX (pc := 28) dX11_rows_28 rfl ?_
        refine ww_iconst hX (pc := 29) (x := (-1)) dX11_rows_29 rfl ?_
        refine ww_iconst hX (pc := 30) (x := 0) dX11_rows_30 rfl ?_
        refine vJ5 hX (pc := 31) sX11_337 (xs_49 hL) (c8_X11_rowsOf l0 hL hQ (by omega) (by omega) (by omega) (by omega) (by omega) (by omega) (by omega) (by omega) (by omega) (by omega) hO hcr hK hq hv9) (by decide) (Nat.le_refl 0) (Nat.le_refl 0) (Nat.le_of_ble_eq_true rfl) dX11_rows_31 (fun x_31 I_31 J_31 h_31 => ?_)
        have kJ_31 : Kp 49 73 Ja J_31 := Kp_tr (Kp_rf (a := 49) (b := 73)) h_31.2.1
        have kI_31 : Ch [61] [25] Ia I_31 := Ch_tr Ch_rf (Ch_wd h_31.1 (by decide) (by decide))
        have cI_31 : RX I_31 := h_31.2.2.1
        have qI_31 := RX_o cI_31
        have r304_I_31 : I_31 51 304 = Ia 51 304 := by rw [h_31.1.1 51 (by decide) (by decide)]
        have r305_I_31 : I_31 51 305 = Ia 51 305 := by rw [h_31.1.1 51 (by decide) (by decide)]
        have rf_I_31 : FU (I_31 51 304) = FU (Ia 51 304) := by rw [r304_I_31]
        refine ww_goto hX (pc := 34) (tgt := 40) dX11_rows_34 (by decide) ?_
        refine rJ hX (pc := 40) hT (Nat.le_refl 0) (Nat.le_refl 0) dX11_rows_40 ?_
        exact ⟨kI_31, kJ_31, cI_31, h_31.2.2.2.1, h_31.2.2.2.2.1, (fun _ => h_31.2.2.2.2.2), (fun h9 => absurd (by omega) h9)⟩
set_option maxHeartbeats 4000000 in
set_option maxRecDepth 20000 in
theorem c8_X11_could (l0 : Launch) {Ia Ja : aI1} {Ra : aR1} {Sa : aS1} (hL : LY Ra Sa) (hQ : RX Ia) {a b c e f : Int} (ha0 : -2147483648 ≤ a) (ha1 : a < 2147483648) (hb0 : -2147483648 ≤ b) (hb1 : b < 2147483648) (hc0 : -2147483648 ≤ c) (hc1 : c < 2147483648) (he0 : -2147483648 ≤ e) (he1 : e < 2147483648) (hf0 : -2147483648 ≤ f) (hf1 : f < 2147483648) (hO : ∀ l, l < 8 → 0 ≤ Ia 51 (256 + l) ∧ Ia 51 (256 + l) ≤ 99) (hcr : ∀ t : Nat, (t : Int) ≤ FU (Ia 51 304) → -1 ≤ Ia 51 t ∧ Ia 51 t ≤ 7) (hK : ∀ s : Nat, (s : Int) ≤ FU (Ia 51 304) → Ia 51 s < Ia 51 305) {vv : Int} (hq : QF Ia Ja vv) (hv9 : vv ≤ 1000000)  : CT l0 6 0 0 mX11_could [kR (some 49), kI a, kI b, kI c, kI e, kI f] Ia Ja Ra Sa (cJ (fun x I' J' => Ch [61] [25] Ia I' ∧ Kp 49 73 Ja J' ∧ RX I' ∧ I' 51 = Ia 51 ∧ QF I' J' vv ∧ ((0 ≤ a ∧ a ≤ 8 ∧ 0 ≤ b ∧ b ≤ FU (Ia 51 304) ∧ 0 ≤ c ∧ c ≤ 3 ∧ 0 ≤ e ∧ e < a ∧ 0 ≤ f ∧ f < Ia 51 305) → ∃ L M, (zLV (Ia 51) (Ia 51 306) (FU (Ia 51 304) + 1) (Ia 51 305) (-1) L ∧ MRc (Ia 51) (Ia 51 306) (Ia 51 304) (Ia 51 305) M) ∧ x = RW (Ia 51) (nxRf c Ia L M) e f (Ia 51 305).toNat (FU (Ia 51 304) + 1).toNat a.toNat b.toNat) ∧ (¬ (0 ≤ a ∧ a ≤ 8 ∧ 0 ≤ b ∧ b ≤ FU (Ia 51 304) ∧ 0 ≤ c ∧ c ≤ 3 ∧ 0 ≤ e ∧ e < a ∧ 0 ≤ f ∧ f < Ia 51 305) → x = -1)) Ra Sa) := by
  refine ct_in pn_X11 (Nat.le_of_ble_eq_true rfl) (fun X hX hT hIn => ?_)
  have hX : aK l0 X cX11_could 6 RX11 (some .long) 6 0 0 := hX
  change WW X 0 [some (kR (some 49)), some (kI a), some (kI b), some (kI c), some (kI e), some (kI f)] [] Ia Ja Ra Sa 0 0
  have qIa := RX_o hQ
  refine ww_iload_n hX (pc := 0) dX11_could_0 rfl ?_
  refine ww_iconst hX (pc := 1) (x := 0) dX11_could_1 rfl ?_
  refine ww_bipush hX (pc := 2) (x := 8) dX11_could_2 (by decide) ?_
  refine sI3 hX (pc := 4) sX11_101 (c_X11_lies l0 (by omega) (by omega) (by omega) (by omega) (by omega) (by omega)) (by decide) (Nat.le_refl 0) (Nat.le_refl 0) (Nat.le_of_ble_eq_true rfl) dX11_could_4 (fun x_4 I_4 J_4 h_4 => ?_)
  obtain ⟨rfl, rfl, h_4⟩ := h_4
  refine ww_if_eq hX (pc := 7) (tgt := 60) dX11_could_7 (by decide) (fun h_7 => ?_) (fun h_7 => ?_)
  · simp only [w32_mod] at h_7
    refine ww_ldc2 hX (pc := 60) (x := (-1)) dX11_could_60 tb_1398 ?_
    refine rJ hX (pc := 63) hT (Nat.le_refl 0) (Nat.le_refl 0) dX11_could_63 ?_
    exact ⟨Ch_rf, (Kp_rf (a := 49) (b := 73)), hQ, rfl, hq, (fun h9 => absurd h9 (by omega)), (fun _ => rfl)⟩
  · simp only [w32_mod] at h_7
    have k_4 := h_4.2.mp (by omega)
    clear h_4
    refine ww_aload_n hX (pc := 10) dX11_could_10 rfl ?_
    refine ww_iload_n hX (pc := 11) dX11_could_11 rfl ?_
    refine vI1 hX (pc := 12) sX11_120 (xs_49 hL) (c_X11_isState l0 hL hQ (by omega) (by omega)) (by decide) (Nat.le_refl 0) (Nat.le_refl 0) (Nat.le_of_ble_eq_true rfl) dX11_could_12 (fun x_12 I_12 J_12 h_12 => ?_)
    obtain ⟨rfl, rfl, h_12⟩ := h_12
    refine ww_if_eq hX (pc := 15) (tgt := 60) dX11_could_15 (by decide) (fun h_15 => ?_) (fun h_15 => ?_)
    · simp only [w32_mod] at h_15
      refine ww_ldc2 hX (pc := 60) (x := (-1)) dX11_could_60 tb_1398 ?_
      refine rJ hX (pc := 63) hT (Nat.le_refl 0) (Nat.le_refl 0) dX11_could_63 ?_
      exact ⟨Ch_rf, (Kp_rf (a := 49) (b := 73)), hQ, rfl, hq, (fun h9 => absurd h9 (by omega)), (fun _ => rfl)⟩
    · simp only [w32_mod] at h_15
      have k_12 := h_12.2.mp (by omega)
      clear h_12
      refine ww_iload_n hX (pc := 18) dX11_could_18 rfl ?_
      refine sI1 hX (pc := 19) sX11_308 (c_X11_isManner l0 (by omega) (by omega)) (by decide) (Nat.le_refl 0) (Nat.le_refl 0) (Nat.le_of_ble_eq_true rfl) dX11_could_19 (fun x_19 I_19 J_19 h_19 => ?_)
      obtain ⟨rfl, rfl, h_19⟩ := h_19
      refine ww_if_eq hX (pc := 22) (tgt := 60) dX11_could_22 (by decide) (fun h_22 => ?_) (fun h_22 => ?_)
      · simp only [w32_mod] at h_22
        refine ww_ldc2 hX (pc := 60) (x := (-1)) dX11_could_60 tb_1398 ?_
        refine rJ hX (pc := 63) hT (Nat.le_refl 0) (Nat.le_refl 0) dX11_could_63 ?_
        exact ⟨Ch_rf, (Kp_rf (a := 49) (b := 73)), hQ, rfl, hq, (fun h9 => absurd h9 (by omega)), (fun _ => rfl)⟩
      · simp only [w32_mod] at h_22
        have k_19 := h_19.2.mp (by omega)
        clear h_19
        refine ww_iload hX (pc := 25) dX11_could_25 rfl ?_
        refine ww_iconst hX (pc := 27) (x := 0) dX11_could_27 rfl ?_
        refine ww_iload_n hX (pc := 28) dX11_could_28 rfl ?_
        refine ww_iconst hX (pc := 29) (x := 1) dX11_could_29 rfl ?_
        refine ww_isub hX (pc := 30) dX11_could_30 ?_
        refine sI3 hX (pc := 31) sX11_101 (c_X11_lies l0 (by omega) (by omega) (by omega) (by omega) (by omega) (by omega)) (by decide) (Nat.le_refl 0) (Nat.le_refl 0) (Nat.le_of_ble_eq_true rfl) dX11_could_31 (fun x_31 I_31 J_31 h_31 => ?_)
        obtain ⟨rfl, rfl, h_31⟩ := h_31
        refine ww_if_eq hX (pc := 34) (tgt := 60) dX11_could_34 (by decide) (fun h_34 => ?_) (fun h_34 => ?_)
        · simp only [w32_mod] at h_34
          refine ww_ldc2 hX (pc := 60) (x := (-1)) dX11_could_60 tb_1398 ?_
          refine rJ hX (pc := 63) hT (Nat.le_refl 0) (Nat.le_refl 0) dX11_could_63 ?_
          exact ⟨Ch_rf, (Kp_rf (a := 49) (b := 73)), hQ, rfl, hq, (fun h9 => absurd h9 (by omega)), (fun _ => rfl)⟩
        · simp only [w32_mod] at h_34
          have k_31 := h_31.2.mp (by omega)
          clear h_31
          refine ww_aload_n hX (pc := 37) dX11_could_37 rfl ?_
          refine ww_iload hX (pc := 38) dX11_could_38 rfl ?_
          refine vI1 hX (pc := 40) sX11_123 (xs_49 hL) (c_X11_isNews l0 hL hQ (by omega) (by omega)) (by decide) (Nat.le_refl 0) (Nat.le_refl 0) (Nat.le_of_ble_eq_true rfl) dX11_could_40 (fun x_40 I_40 J_40 h_40 => ?_)
          obtain ⟨rfl, rfl, h_40⟩ := h_40
          refine ww_if_eq hX (pc := 43) (tgt := 60) dX11_could_43 (by decide) (fun h_43 => ?_) (fun h_43 => ?_)
          · simp only [w32_mod] at h_43
            refine ww_ldc2 hX (pc := 60) (x := (-1)) dX11_could_60 tb_1398 ?_
            refine rJ hX (pc := 63) hT (Nat.le_refl 0) (Nat.le_refl 0) dX11_could_63 ?_
            exact ⟨Ch_rf, (Kp_rf (a := 49) (b := 73)), hQ, rfl, hq, (fun h9 => absurd h9 (by omega)), (fun _ => rfl)⟩
          · simp only [w32_mod] at h_43
            have k_40 := h_40.2.mp (by omega)
            clear h_40
            refine ww_aload_n hX (pc := 46) dX11_could_46 rfl ?_
            refine ww_iload_n hX (pc := 47) dX11_could_47 rfl ?_
            refine ww_iload_n hX (pc := 48) dX11_could_48 rfl ?_
            refine ww_iload_n hX (pc := 49) dX11_could_49 rfl ?_
            refine ww_iload hX (pc := 50) dX11_could_50 rfl ?_
            refine ww_iload hX (pc := 52) dX11_could_52 rfl ?_
            refine vJ5 hX (pc := 54) sX11_337 (xs_49 hL) (c8_X11_rowsOf l0 hL hQ (by omega) (by omega) (by omega) (by omega) (by omega) (by omega) (by omega) (by omega) (by omega) (by omega) hO hcr hK hq hv9) (by decide) (Nat.le_refl 0) (Nat.le_refl 0) (Nat.le_of_ble_eq_true rfl) dX11_could_54 (fun x_54 I_54 J_54 h_54 => ?_)
            have kJ_54 : Kp 49 73 Ja J_54 := Kp_tr (Kp_rf (a := 49) (b := 73)) h_54.2.1
            have kI_54 : Ch [61] [25] Ia I_54 := Ch_tr Ch_rf (Ch_wd h_54.1 (by decide) (by decide))
            have cI_54 : RX I_54 := h_54.2.2.1
            have qI_54 := RX_o cI_54
            have r304_I_54 : I_54 51 304 = Ia 51 304 := by rw [h_54.1.1 51 (by decide) (by decide)]
            have r305_I_54 : I_54 51 305 = Ia 51 305 := by rw [h_54.1.1 51 (by decide) (by decide)]
            have rf_I_54 : FU (I_54 51 304) = FU (Ia 51 304) := by rw [r304_I_54]
            refine ww_goto hX (pc := 57) (tgt := 63) dX11_could_57 (by decide) ?_
            refine rJ hX (pc := 63) hT (Nat.le_refl 0) (Nat.le_refl 0) dX11_could_63 ?_
            exact ⟨kI_54, kJ_54, cI_54, h_54.2.2.2.1, h_54.2.2.2.2.1, (fun _ => h_54.2.2.2.2.2), (fun h9 => absurd (by omega) h9)⟩
set_option maxHeartbeats 4000000 in
set_option maxRecDepth 20000 in
theorem c8_X11_status (l0 : Launch) {Ia Ja : aI1} {Ra : aR1} {Sa : aS1} (hL : LY Ra Sa) (hQ : RX Ia)  : CT l0 0 0 0 mX11_status [kR (some 49)] Ia Ja Ra Sa (cI (fun x I' J' => Ia = I' ∧ Ja = J' ∧ x = Ia 49 0) Ra Sa) := by
  refine ct_in pn_X11 (Nat.le_of_ble_eq_true rfl) (fun X hX hT hIn => ?_)
  have hX : aK l0 X cX11_status 1 RX11 (some .int) 0 0 0 := hX
  change WW X 0 [some (kR (some 49))] [] Ia Ja Ra Sa 0 0
  have qIa := RX_o hQ
  refine ww_aload_n hX (pc := 0) dX11_status_0 rfl ?_
  refine ww_getI hX (pc := 1) fX11_3 (by decide) (xs_49 hL) dX11_status_1 ?_
  refine rI hX (pc := 4) hT (Nat.le_refl 0) (Nat.le_refl 0) dX11_status_4 ?_
  exact ⟨rfl, rfl, rfl⟩
def CNr (I : aI1) (rd a : Int) : Int := if a = 0 then I 51 304 else if a = 1 then I 51 305 else if a = 2 then I 51 310 else if a = 3 then rd else if a = 4 then I 51 308 else if a = 5 then I 51 309 else if a = 6 then I 49 10 else if a = 7 then I 50 1 else if a = 8 then I 50 2 else if a = 9 then I 50 3 else if a = 10 then I 50 5 else if a = 11 then I 50 6 else if a = 12 then I 49 33 else -1
set_option maxHeartbeats 4000000 in
set_option maxRecDepth 20000 in
theorem c8_X11_count (l0 : Launch) {Ia Ja : aI1} {Ra : aR1} {Sa : aS1} (hL : LY Ra Sa) (hQ : RX Ia) {a : Int} (ha0 : -2147483648 ≤ a) (ha1 : a < 2147483648) (hcr : ∀ t : Nat, (t : Int) ≤ FU (Ia 51 304) → -1 ≤ Ia 51 t ∧ Ia 51 t ≤ 7)  : CT l0 2 0 0 mX11_count [kR (some 49), kI a] Ia Ja Ra Sa (cI (fun x I' J' => Ia = I' ∧ Ja = J' ∧ x = CNr Ia (cnR (Ia 51) (FU (Ia 51 304) + 1).toNat) a) Ra Sa) := by
  refine ct_in pn_X11 (Nat.le_of_ble_eq_true rfl) (fun X hX hT hIn => ?_)
  have hX : aK l0 X cX11_count 2 RX11 (some .int) 2 0 0 := hX
  change WW X 0 [some (kR (some 49)), some (kI a)] [] Ia Ja Ra Sa 0 0
  have qIa := RX_o hQ
  refine ww_iload_n hX (pc := 0) dX11_count_0 rfl ?_
  refine ww_table hX (pc := 1) dX11_count_1 153 (by decide) (fun h_1 => ?_) (fun i_1 h_1 e_1 => ?_)
  · simp only [w32_mod] at h_1
    refine ww_iconst hX (pc := 153) (x := (-1)) dX11_count_153 rfl ?_
    refine rI hX (pc := 154) hT (Nat.le_refl 0) (Nat.le_refl 0) dX11_count_154 ?_
    exact ⟨rfl, rfl, by
          unfold CNr
          (repeat (first | rw [if_pos (by omega)] | rw [if_neg (by omega)])) <;> first | rfl | exact congrArg (Ia 50) (by omega)⟩
  · simp only [w32_mod] at e_1
    rcases (show i_1 = 0 ∨ i_1 = 1 ∨ i_1 = 2 ∨ i_1 = 3 ∨ i_1 = 4 ∨ i_1 = 5 ∨ i_1 = 6 ∨ i_1 = 7 ∨ i_1 = 8 ∨ i_1 = 9 ∨ i_1 = 10 ∨ i_1 = 11 ∨ i_1 = 12 by omega) with rfl | rfl | rfl | rfl | rfl | rfl | rfl | rfl | rfl | rfl | rfl | rfl | rfl
    · refine ⟨67, 68, rfl, by decide, ?_⟩
      refine ww_aload_n hX (pc := 68) dX11_count_68 rfl ?_
      refine ww_getR hX (pc := 69) fX11_20 (by decide) (xs_49 hL) (xr_49_3 hL) dX11_count_69 ?_
      refine ww_sipush hX (pc := 72) (x := 304) dX11_count_72 (by decide) ?_
      refine ww_iald hX (pc := 75) (xs_51 hL) (by decide) (by omega) (by omega) dX11_count_75 ?_
      refine ww_toI (b := Ia 51 304) rfl ?_
      refine rI hX (pc := 76) hT (Nat.le_refl 0) (Nat.le_refl 0) dX11_count_76 ?_
      exact ⟨rfl, rfl, by
            unfold CNr
            (repeat (first | rw [if_pos (by omega)] | rw [if_neg (by omega)])) <;> first | rfl | exact congrArg (Ia 50) (by omega)⟩
    · refine ⟨76, 77, rfl, by decide, ?_⟩
      refine ww_aload_n hX (pc := 77) dX11_count_77 rfl ?_
      refine ww_getR hX (pc := 78) fX11_20 (by decide) (xs_49 hL) (xr_49_3 hL) dX11_count_78 ?_
      refine ww_sipush hX (pc := 81) (x := 305) dX11_count_81 (by decide) ?_
      refine ww_iald hX (pc := 84) (xs_51 hL) (by decide) (by omega) (by omega) dX11_count_84 ?_
      refine ww_toI (b := Ia 51 305) rfl ?_
      refine rI hX (pc := 85) hT (Nat.le_refl 0) (Nat.le_refl 0) dX11_count_85 ?_
      exact ⟨rfl, rfl, by
            unfold CNr
            (repeat (first | rw [if_pos (by omega)] | rw [if_neg (by omega)])) <;> first | rfl | exact congrArg (Ia 50) (by omega)⟩
    · refine ⟨85, 86, rfl, by decide, ?_⟩
      refine ww_aload_n hX (pc := 86) dX11_count_86 rfl ?_
      refine ww_getR hX (pc := 87) fX11_20 (by decide) (xs_49 hL) (xr_49_3 hL) dX11_count_87 ?_
      refine ww_sipush hX (pc := 90) (x := 310) dX11_count_90 (by decide) ?_
      refine ww_iald hX (pc := 93) (xs_51 hL) (by decide) (by omega) (by omega) dX11_count_93 ?_
      refine ww_toI (b := Ia 51 310) rfl ?_
      refine rI hX (pc := 94) hT (Nat.le_refl 0) (Nat.le_refl 0) dX11_count_94 ?_
      exact ⟨rfl, rfl, by
            unfold CNr
            (repeat (first | rw [if_pos (by omega)] | rw [if_neg (by omega)])) <;> first | rfl | exact congrArg (Ia 50) (by omega)⟩
    · refine ⟨94, 95, rfl, by decide, ?_⟩
      refine ww_aload_n hX (pc := 95) dX11_count_95 rfl ?_
      refine vI0 hX (pc := 96) sX11_139 (xs_49 hL) (c5_X11_readMany l0 hL hQ hcr) (by decide) (Nat.le_refl 0) (Nat.le_refl 0) (Nat.le_of_ble_eq_true rfl) dX11_count_96 (fun x_96 I_96 J_96 h_96 => ?_)
      obtain ⟨rfl, rfl, h_96⟩ := h_96
      refine rI hX (pc := 99) hT (Nat.le_refl 0) (Nat.le_refl 0) dX11_count_99 ?_
      exact ⟨rfl, rfl, by
            rw [h_96]
            unfold CNr
            (repeat (first | rw [if_pos (by omega)] | rw [if_neg (by omega)])) <;> first | rfl | exact congrArg (Ia 50) (by omega)⟩
    · refine ⟨99, 100, rfl, by decide, ?_⟩
      refine ww_aload_n hX (pc := 100) dX11_count_100 rfl ?_
      refine ww_getR hX (pc := 101) fX11_20 (by decide) (xs_49 hL) (xr_49_3 hL) dX11_count_101 ?_
      refine ww_sipush hX (pc := 104) (x := 308) dX11_count_104 (by decide) ?_
      refine ww_iald hX (pc := 107) (xs_51 hL) (by decide) (by omega) (by omega) dX11_count_107 ?_
      refine ww_toI (b := Ia 51 308) rfl ?_
      refine rI hX (pc := 108) hT (Nat.le_refl 0) (Nat.le_refl 0) dX11_count_108 ?_
      exact ⟨rfl, rfl, by
            unfold CNr
            (repeat (first | rw [if_pos (by omega)] | rw [if_neg (by omega)])) <;> first | rfl | exact congrArg (Ia 50) (by omega)⟩
    · refine ⟨108, 109, rfl, by decide, ?_⟩
      refine ww_aload_n hX (pc := 109) dX11_count_109 rfl ?_
      refine ww_getR hX (pc := 110) fX11_20 (by decide) (xs_49 hL) (xr_49_3 hL) dX11_count_110 ?_
      refine ww_sipush hX (pc := 113) (x := 309) dX11_count_113 (by decide) ?_
      refine ww_iald hX (pc := 116) (xs_51 hL) (by decide) (by omega) (by omega) dX11_count_116 ?_
      refine ww_toI (b := Ia 51 309) rfl ?_
      refine rI hX (pc := 117) hT (Nat.le_refl 0) (Nat.le_refl 0) dX11_count_117 ?_
      exact ⟨rfl, rfl, by
            unfold CNr
            (repeat (first | rw [if_pos (by omega)] | rw [if_neg (by omega)])) <;> first | rfl | exact congrArg (Ia 50) (by omega)⟩
    · refine ⟨117, 118, rfl, by decide, ?_⟩
      refine ww_aload_n hX (pc := 118) dX11_count_118 rfl ?_
      refine ww_getI hX (pc := 119) fX11_129 (by decide) (xs_49 hL) dX11_count_119 ?_
      refine rI hX (pc := 122) hT (Nat.le_refl 0) (Nat.le_refl 0) dX11_count_122 ?_
      exact ⟨rfl, rfl, by
            unfold CNr
            (repeat (first | rw [if_pos (by omega)] | rw [if_neg (by omega)])) <;> first | rfl | exact congrArg (Ia 50) (by omega)⟩
    · refine ⟨122, 123, rfl, by decide, ?_⟩
      refine ww_aload_n hX (pc := 123) dX11_count_123 rfl ?_
      refine ww_getR hX (pc := 124) fX11_7 (by decide) (xs_49 hL) (xr_49_2 hL) dX11_count_124 ?_
      refine ww_iload_n hX (pc := 127) dX11_count_127 rfl ?_
      refine ww_bipush hX (pc := 128) (x := 6) dX11_count_128 (by decide) ?_
      refine ww_isub hX (pc := 130) dX11_count_130 ?_
      refine ww_iald hX (pc := 131) (xs_50 hL) (by decide) (by omega) (by omega) dX11_count_131 ?_
      refine rI hX (pc := 132) hT (Nat.le_refl 0) (Nat.le_refl 0) dX11_count_132 ?_
      exact ⟨rfl, rfl, by
            unfold CNr
            (repeat (first | rw [if_pos (by omega)] | rw [if_neg (by omega)])) <;> first | rfl | exact congrArg (Ia 50) (by omega)⟩
    · refine ⟨122, 123, rfl, by decide, ?_⟩
      refine ww_aload_n hX (pc := 123) dX11_count_123 rfl ?_
      refine ww_getR hX (pc := 124) fX11_7 (by decide) (xs_49 hL) (xr_49_2 hL) dX11_count_124 ?_
      refine ww_iload_n hX (pc := 127) dX11_count_127 rfl ?_
      refine ww_bipush hX (pc := 128) (x := 6) dX11_count_128 (by decide) ?_
      refine ww_isub hX (pc := 130) dX11_count_130 ?_
      refine ww_iald hX (pc := 131) (xs_50 hL) (by decide) (by omega) (by omega) dX11_count_131 ?_
      refine rI hX (pc := 132) hT (Nat.le_refl 0) (Nat.le_refl 0) dX11_count_132 ?_
      exact ⟨rfl, rfl, by
            unfold CNr
            (repeat (first | rw [if_pos (by omega)] | rw [if_neg (by omega)])) <;> first | rfl | exact congrArg (Ia 50) (by omega)⟩
    · refine ⟨122, 123, rfl, by decide, ?_⟩
      refine ww_aload_n hX (pc := 123) dX11_count_123 rfl ?_
      refine ww_getR hX (pc := 124) fX11_7 (by decide) (xs_49 hL) (xr_49_2 hL) dX11_count_124 ?_
      refine ww_iload_n hX (pc := 127) dX11_count_127 rfl ?_
      refine ww_bipush hX (pc := 128) (x := 6) dX11_count_128 (by decide) ?_
      refine ww_isub hX (pc := 130) dX11_count_130 ?_
      refine ww_iald hX (pc := 131) (xs_50 hL) (by decide) (by omega) (by omega) dX11_count_131 ?_
      refine rI hX (pc := 132) hT (Nat.le_refl 0) (Nat.le_refl 0) dX11_count_132 ?_
      exact ⟨rfl, rfl, by
            unfold CNr
            (repeat (first | rw [if_pos (by omega)] | rw [if_neg (by omega)])) <;> first | rfl | exact congrArg (Ia 50) (by omega)⟩
    · refine ⟨132, 133, rfl, by decide, ?_⟩
      refine ww_aload_n hX (pc := 133) dX11_count_133 rfl ?_
      refine ww_getR hX (pc := 134) fX11_7 (by decide) (xs_49 hL) (xr_49_2 hL) dX11_count_134 ?_
      refine ww_iconst hX (pc := 137) (x := 5) dX11_count_137 rfl ?_
      refine ww_iald hX (pc := 138) (xs_50 hL) (by decide) (by omega) (by omega) dX11_count_138 ?_
      refine ww_toI (b := Ia 50 5) rfl ?_
      refine rI hX (pc := 139) hT (Nat.le_refl 0) (Nat.le_refl 0) dX11_count_139 ?_
      exact ⟨rfl, rfl, by
            unfold CNr
            (repeat (first | rw [if_pos (by omega)] | rw [if_neg (by omega)])) <;> first | rfl | exact congrArg (Ia 50) (by omega)⟩
    · refine ⟨139, 140, rfl, by decide, ?_⟩
      refine ww_aload_n hX (pc := 140) dX11_count_140 rfl ?_
      refine ww_getR hX (pc := 141) fX11_7 (by decide) (xs_49 hL) (xr_49_2 hL) dX11_count_141 ?_
      refine ww_bipush hX (pc := 144) (x := 6) dX11_count_144 (by decide) ?_
      refine ww_iald hX (pc := 146) (xs_50 hL) (by decide) (by omega) (by omega) dX11_count_146 ?_
      refine ww_toI (b := Ia 50 6) rfl ?_
      refine rI hX (pc := 147) hT (Nat.le_refl 0) (Nat.le_refl 0) dX11_count_147 ?_
      exact ⟨rfl, rfl, by
            unfold CNr
            (repeat (first | rw [if_pos (by omega)] | rw [if_neg (by omega)])) <;> first | rfl | exact congrArg (Ia 50) (by omega)⟩
    · refine ⟨147, 148, rfl, by decide, ?_⟩
      refine ww_aload_n hX (pc := 148) dX11_count_148 rfl ?_
      refine ww_getI hX (pc := 149) fX11_334 (by decide) (xs_49 hL) dX11_count_149 ?_
      refine rI hX (pc := 152) hT (Nat.le_refl 0) (Nat.le_refl 0) dX11_count_152 ?_
      exact ⟨rfl, rfl, by
            unfold CNr
            (repeat (first | rw [if_pos (by omega)] | rw [if_neg (by omega)])) <;> first | rfl | exact congrArg (Ia 50) (by omega)⟩
