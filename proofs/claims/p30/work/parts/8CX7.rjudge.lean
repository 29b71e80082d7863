/-- a STATE of a TRAIL is as the KEEPER would have it -/
def JOk (bt : Int → Nat → Nat → Bool) (code : Nat → Int) (g n : Int) (s t : Int) : Prop := 0 ≤ s ∧ s ≤ FU n ∧ 0 ≤ t ∧ t ≤ FU n ∧ ¬ code t.toNat = -1 ∧ NX (bt s) code g s (FU n + 1) (code t.toNat) = t
theorem NGi_any {nx : Int → Int → Int} {a K b i i' sn sn' rr rr' : Int} {F : Nat → Int} {n u : Int} (h : NGi nx a K b i sn rr F n u) (hu : ¬ u = -1) : NGi nx a K b i' sn' rr' F n u := ⟨fun h9 => absurd h9 hu, h.2⟩
theorem QF_kp {I I' J J' : aI1} {v w : Int} (h : QF I J v) (e1 : I' 49 1 = I 49 1) (e25 : I' 49 25 = I 49 25) (e51 : I' 51 = I 51) (e61 : I' 61 = I 61) (j62 : J' 62 = J 62) (hv : v ≤ w) : QF I' J' w := by
  have h1 := h.1
  have h2 := h.2.1
  refine ⟨by omega, by omega, fun h9 => RT_of (h.2.2 (by omega)) e51 e61 j62⟩
theorem QF_up {I I' J J' : aI1} {v w : Int} (h : QF I J v) (e1 : I' 49 1 = I 49 1 + 1) (e25 : I' 49 25 = I 49 25) (hv : v + 1 ≤ w) : QF I' J' w := by
  have h1 := h.1
  have h2 := h.2.1
  exact ⟨by omega, by omega, fun h9 => absurd h9 (by omega)⟩

set_option maxHeartbeats 4000000 in
set_option maxRecDepth 20000 in
theorem c8_X11_judge (l0 : Launch) {Ia Ja : aI1} {Ra : aR1} {Sa : aS1} (hL : LY Ra Sa) (hQ : RX Ia) {a : Int} (ha0 : -2147483648 ≤ a) (ha1 : a < 2147483648) (hO : ∀ l, l < 8 → 0 ≤ Ia 51 (256 + l) ∧ Ia 51 (256 + l) ≤ 99) (hcr : ∀ t : Nat, (t : Int) ≤ FU (Ia 51 304) → -1 ≤ Ia 51 t ∧ Ia 51 t ≤ 7) (hK : ∀ s : Nat, (s : Int) ≤ FU (Ia 51 304) → Ia 51 s < Ia 51 305) {vv : Int} (hq : QF Ia Ja vv) (hv9 : vv ≤ 1000000)  : CT l0 5 0 0 mX11_judge [kR (some 49), kI a] Ia Ja Ra Sa (cI (fun x I' J' => Ch [61] [25] Ia I' ∧ Kp 49 73 Ja J' ∧ RX I' ∧ I' 51 = Ia 51 ∧ QF I' J' vv ∧ ((0 ≤ a ∧ a ≤ 3) → ∃ L M, zLV (Ia 51) (Ia 51 306) (FU (Ia 51 304) + 1) (Ia 51 305) (-1) L ∧ MRc (Ia 51) (Ia 51 306) (Ia 51 304) (Ia 51 305) M ∧ JG (JOk (fun s => bR a s (Ia 51 304) (Ia 51 305) (Ia 51) L M) (Ia 51) (Ia 51 306) (Ia 51 304)) (Ia 67) (Ia 49 33) x) ∧ (¬ (0 ≤ a ∧ a ≤ 3) → x = -1)) Ra Sa) := by
  refine ct_in pn_X11 (Nat.le_of_ble_eq_true rfl) (fun X hX hT hIn => ?_)
  have hX : aK l0 X cX11_judge 5 RX11 (some .int) 5 0 0 := hX
  change WW X 0 [some (kR (some 49)), some (kI a), none, none, none] [] Ia Ja Ra Sa 0 0
  have qIa := RX_o hQ
  refine ww_iload_n hX (pc := 0) dX11_judge_0 rfl ?_
  refine sI1 hX (pc := 1) sX11_308 (c_X11_isManner l0 (by omega) (by omega)) (by decide) (Nat.le_refl 0) (Nat.le_refl 0) (Nat.le_of_ble_eq_true rfl) dX11_judge_1 (fun x_1 I_1 J_1 h_1 => ?_)
  obtain ⟨rfl, rfl, h_1⟩ := h_1
  refine ww_if_ne hX (pc := 4) (tgt := 9) dX11_judge_4 (by decide) (fun h_4 => ?_) (fun h_4 => ?_)
  · simp only [w32_mod] at h_4
    have k_1 := h_1.2.mp (by omega)
    clear h_1
    refine ww_aload_n hX (pc := 9) dX11_judge_9 rfl ?_
    refine vV0 hX (pc := 10) sX11_294 (xs_49 hL) (c8_X11_looks l0 hL hQ hcr hK hq hv9) (by decide) (Nat.le_refl 0) (Nat.le_refl 0) (Nat.le_of_ble_eq_true rfl) dX11_judge_10 (fun I_10 J_10 h_10 => ?_)
    have kJ_10 : Kp 49 73 Ja J_10 := Kp_tr (Kp_rf (a := 49) (b := 73)) h_10.2.1
    have kI_10 : Ch [61] [25] Ia I_10 := Ch_tr Ch_rf (Ch_wd h_10.1 (by decide) (by decide))
    have cI_10 : RX I_10 := h_10.2.2.1
    have qI_10 := RX_o cI_10
    have r304_I_10 : I_10 51 304 = Ia 51 304 := by rw [h_10.1.1 51 (by decide) (by decide)]
    have r305_I_10 : I_10 51 305 = Ia 51 305 := by rw [h_10.1.1 51 (by decide) (by decide)]
    have rf_I_10 : FU (I_10 51 304) = FU (Ia 51 304) := by rw [r304_I_10]
    have e51_10 : I_10 51 = Ia 51 := h_10.2.2.2.1
    have hq9_10 := h_10.2.2.2.2.1
    have hq8_10 := h_10.1.2 1 (by decide)
    have hq7 := hq.1
    have hrt9 := h_10.2.2.2.2.2
    have hqf : QF I_10 J_10 vv := ⟨by omega, by omega, fun _ => hrt9⟩
    unfold RT at hrt9
    rw [e51_10] at hrt9
    have hzl := hrt9.1
    have hmr := hrt9.2
    clear hrt9
    have efu : FU (I_10 51 304) = FU (Ia 51 304) := by rw [e51_10]
    have e67_10 : I_10 67 = Ia 67 := h_10.1.1 67 (by decide) (by decide)
    have e33_10 : I_10 49 33 = Ia 49 33 := h_10.1.2 33 (by decide)
    refine ww_iconst hX (pc := 13) (x := 0) dX11_judge_13 rfl ?_
    refine ww_istore_n hX (pc := 14) (lv' := [some (kR (some 49)), some (kI a), some (kI 0), none, none]) dX11_judge_14 (by decide) rfl rfl ?_
    refine ww_iconst hX (pc := 15) (x := 0) dX11_judge_15 rfl ?_
    refine ww_istore_n hX (pc := 16) (lv' := [some (kR (some 49)), some (kI a), some (kI 0), some (kI 0), none]) dX11_judge_16 (by decide) rfl rfl ?_
    have hl_17 : ∀ (n_17 : Nat) (sa : Int) (i : Int), (30 - i).toNat = n_17 → (((0 ≤ i ∧ i ≤ 30) ∧ (0 ≤ sa ∧ sa ≤ FU (Ia 51 304))) ∧ sa = JGp (Ia 67) i.toNat ∧ (∀ j : Nat, (j : Int) < i → (JOk (fun s => bR a s (Ia 51 304) (Ia 51 305) (Ia 51) (I_10 61) (J_10 62)) (Ia 51) (Ia 51 306) (Ia 51 304)) (JGp (Ia 67) j) (w32 (Ia 67 j)))) → WW X 17 [some (kR (some 49)), some (kI a), some (kI sa), some (kI i), none] [] I_10 J_10 Ra Sa 0 0 := by
      intro n_17
      induction n_17 using Nat.strongRecOn with
      | ind n_17 ih_17 =>
        intro sa i hm_17 hv_17
        have hq_17 := Sh0_i hm_17
        clear hm_17
        obtain ⟨hv, hjp, hok⟩ := hv_17
        refine ww_iload_n hX (pc := 17) dX11_judge_17 rfl ?_
        refine ww_aload_n hX (pc := 18) dX11_judge_18 rfl ?_
        refine ww_getI hX (pc := 19) fX11_334 (by decide) (xs_49 hL) dX11_judge_19 ?_
        refine ww_icmp_ge hX (pc := 22) (tgt := 98) dX11_judge_22 (by decide) (fun h_22 => ?_) (fun h_22 => ?_)
        · simp only [w32_mod] at h_22
          refine ww_iconst hX (pc := 98) (x := (-1)) dX11_judge_98 rfl ?_
          refine rI hX (pc := 99) hT (Nat.le_refl 0) (Nat.le_refl 0) dX11_judge_99 ?_
          exact ⟨kI_10, kJ_10, cI_10, e51_10, hqf, (fun _ => ⟨_, _, hzl, hmr, Or.inl ⟨rfl, fun j hj => hok j (by omega)⟩⟩), (fun h9 => absurd (by omega) h9)⟩
        · simp only [w32_mod] at h_22
          refine ww_aload_n hX (pc := 25) dX11_judge_25 rfl ?_
          refine ww_getR hX (pc := 26) fX11_77 (by decide) (xs_49 hL) (xr_49_32 hL) dX11_judge_26 ?_
          refine ww_iload_n hX (pc := 29) dX11_judge_29 rfl ?_
          refine ww_iald hX (pc := 30) (xs_67 hL) (by decide) (by omega) (by omega) dX11_judge_30 ?_
          refine ww_wI ?_
          have hwr := w32_r (I_10 67 i.toNat)
          refine ww_nmI (fun v_31 hv_31 => ?_)
          refine ww_istore hX (pc := 31) (lv' := [some (kR (some 49)), some (kI a), some (kI sa), some (kI i), some (kI v_31)]) dX11_judge_31 (by decide) rfl rfl ?_
          have hv31 : v_31 = w32 (Ia 67 i.toNat) := by rw [hv_31, e67_10]
          refine ww_aload_n hX (pc := 33) dX11_judge_33 rfl ?_
          refine ww_iload hX (pc := 34) dX11_judge_34 rfl ?_
          refine vI1 hX (pc := 36) sX11_120 (xs_49 hL) (c_X11_isState l0 hL cI_10 (by omega) (by omega)) (by decide) (Nat.le_refl 0) (Nat.le_refl 0) (Nat.le_of_ble_eq_true rfl) dX11_judge_36 (fun x_36 I_36 J_36 h_36 => ?_)
          obtain ⟨rfl, rfl, h_36⟩ := h_36
          refine ww_if_eq hX (pc := 39) (tgt := 87) dX11_judge_39 (by decide) (fun h_39 => ?_) (fun h_39 => ?_)
          · simp only [w32_mod] at h_39
            have hno : ¬ (JOk (fun s => bR a s (Ia 51 304) (Ia 51 305) (Ia 51) (I_10 61) (J_10 62)) (Ia 51) (Ia 51 306) (Ia 51 304)) sa v_31 := fun h9 => by
              obtain ⟨g1, g2, g3, g4, g5, g6⟩ := h9
              have g6 : NX (bR a sa (Ia 51 304) (Ia 51 305) (Ia 51) (I_10 61) (J_10 62)) (Ia 51) (Ia 51 306) sa (FU (Ia 51 304) + 1) (Ia 51 v_31.toNat) = v_31 := g6
              omega
            refine ww_iload_n hX (pc := 87) dX11_judge_87 rfl ?_
            refine rI hX (pc := 88) hT (Nat.le_refl 0) (Nat.le_refl 0) dX11_judge_88 ?_
            exact ⟨kI_10, kJ_10, cI_10, e51_10, hqf, (fun _ => ⟨_, _, hzl, hmr, Or.inr ⟨by omega, by omega, hok, (by rw [← hv31]; rw [← hjp]; exact hno)⟩⟩), (fun h9 => absurd (by omega) h9)⟩
          · simp only [w32_mod] at h_39
            have k_36 := h_36.2.mp (by omega)
            clear h_36
            refine ww_aload_n hX (pc := 42) dX11_judge_42 rfl ?_
            refine ww_iload_n hX (pc := 43) dX11_judge_43 rfl ?_
            refine ww_iload hX (pc := 44) dX11_judge_44 rfl ?_
            refine ww_aload_n hX (pc := 46) dX11_judge_46 rfl ?_
            refine ww_getR hX (pc := 47) fX11_20 (by decide) (xs_49 hL) (xr_49_3 hL) dX11_judge_47 ?_
            refine ww_sipush hX (pc := 50) (x := 306) dX11_judge_50 (by decide) ?_
            refine ww_iald hX (pc := 53) (xs_51 hL) (by decide) (by omega) (by omega) dX11_judge_53 ?_
            refine ww_toI (b := I_10 51 306) rfl ?_
            refine vI3 hX (pc := 54) sX11_271 (xs_49 hL) (c_X11_canCome l0 hL cI_10 ) (by decide) (Nat.le_refl 0) (Nat.le_refl 0) (Nat.le_of_ble_eq_true rfl) dX11_judge_54 (fun x_54 I_54 J_54 h_54 => ?_)
            obtain ⟨rfl, rfl, h_54⟩ := h_54
            rw [e51_10] at h_54
            refine ww_if_eq hX (pc := 57) (tgt := 87) dX11_judge_57 (by decide) (fun h_57 => ?_) (fun h_57 => ?_)
            · simp only [w32_mod] at h_57
              have hno : ¬ (JOk (fun s => bR a s (Ia 51 304) (Ia 51 305) (Ia 51) (I_10 61) (J_10 62)) (Ia 51) (Ia 51 306) (Ia 51 304)) sa v_31 := fun h9 => by
                obtain ⟨g1, g2, g3, g4, g5, g6⟩ := h9
                have g6 : NX (bR a sa (Ia 51 304) (Ia 51 305) (Ia 51) (I_10 61) (J_10 62)) (Ia 51) (Ia 51 306) sa (FU (Ia 51 304) + 1) (Ia 51 v_31.toNat) = v_31 := g6
                rcases NX_cd (bt := bR a sa (Ia 51 304) (Ia 51 305) (Ia 51) (I_10 61) (J_10 62)) (code := Ia 51) (g := Ia 51 306) (s := sa) (N := (FU (Ia 51 304) + 1)) (x := Ia 51 v_31.toNat) with e9 | ⟨t9, e9, c1, c2, c3, c4⟩
                · omega
                · have e8 : (t9 : Int) = v_31 := e9.symm.trans g6
                  rw [e8] at c3
                  have g8 := h_54.2.mpr ((canC_iff (by omega) (by omega) (by omega) (by omega)).mpr ⟨by rw [← e8, Int.toNat_natCast]; exact c2, c3⟩)
                  omega
              refine ww_iload_n hX (pc := 87) dX11_judge_87 rfl ?_
              refine rI hX (pc := 88) hT (Nat.le_refl 0) (Nat.le_refl 0) dX11_judge_88 ?_
              exact ⟨kI_10, kJ_10, cI_10, e51_10, hqf, (fun _ => ⟨_, _, hzl, hmr, Or.inr ⟨by omega, by omega, hok, (by rw [← hv31]; rw [← hjp]; exact hno)⟩⟩), (fun h9 => absurd (by omega) h9)⟩
            · simp only [w32_mod] at h_57
              refine ww_aload_n hX (pc := 60) dX11_judge_60 rfl ?_
              refine ww_iload hX (pc := 61) dX11_judge_61 rfl ?_
              refine vI1 hX (pc := 63) sX11_126 (xs_49 hL) (c_X11_readOf l0 hL cI_10 (by omega) (by omega)) (by decide) (Nat.le_refl 0) (Nat.le_refl 0) (Nat.le_of_ble_eq_true rfl) dX11_judge_63 (fun x_63 I_63 J_63 h_63 => ?_)
              obtain ⟨rfl, rfl, h_63⟩ := h_63
              rw [e51_10] at h_63
              have hc63 := hcr v_31.toNat (by omega)
              refine ww_iconst hX (pc := 66) (x := (-1)) dX11_judge_66 rfl ?_
              refine ww_icmp_eq hX (pc := 67) (tgt := 87) dX11_judge_67 (by decide) (fun h_67 => ?_) (fun h_67 => ?_)
              · simp only [w32_mod] at h_67
                have hno : ¬ (JOk (fun s => bR a s (Ia 51 304) (Ia 51 305) (Ia 51) (I_10 61) (J_10 62)) (Ia 51) (Ia 51 306) (Ia 51 304)) sa v_31 := fun h9 => by
                  obtain ⟨g1, g2, g3, g4, g5, g6⟩ := h9
                  have g6 : NX (bR a sa (Ia 51 304) (Ia 51 305) (Ia 51) (I_10 61) (J_10 62)) (Ia 51) (Ia 51 306) sa (FU (Ia 51 304) + 1) (Ia 51 v_31.toNat) = v_31 := g6
                  omega
                refine ww_iload_n hX (pc := 87) dX11_judge_87 rfl ?_
                refine rI hX (pc := 88) hT (Nat.le_refl 0) (Nat.le_refl 0) dX11_judge_88 ?_
                exact ⟨kI_10, kJ_10, cI_10, e51_10, hqf, (fun _ => ⟨_, _, hzl, hmr, Or.inr ⟨by omega, by omega, hok, (by rw [← hv31]; rw [← hjp]; exact hno)⟩⟩), (fun h9 => absurd (by omega) h9)⟩
              · simp only [w32_mod] at h_67
                refine ww_aload_n hX (pc := 70) dX11_judge_70 rfl ?_
                refine ww_iload_n hX (pc := 71) dX11_judge_71 rfl ?_
                refine ww_aload_n hX (pc := 72) dX11_judge_72 rfl ?_
                refine ww_iload hX (pc := 73) dX11_judge_73 rfl ?_
                refine vI1 hX (pc := 75) sX11_126 (xs_49 hL) (c_X11_readOf l0 hL cI_10 (by omega) (by omega)) (by decide) (Nat.le_refl 0) (Nat.le_refl 0) (Nat.le_of_ble_eq_true rfl) dX11_judge_75 (fun x_75 I_75 J_75 h_75 => ?_)
                obtain ⟨rfl, rfl, h_75⟩ := h_75
                rw [e51_10] at h_75
                refine ww_iload_n hX (pc := 78) dX11_judge_78 rfl ?_
                refine vI3 hX (pc := 79) sX11_311 (xs_49 hL) (c8_X11_nextOf l0 hL cI_10 (by omega) (by omega) (by omega) (by omega) (by omega) (by omega) (by rw [e51_10]; exact hO) (by rw [e51_10]; exact hcr) (by rw [e51_10]; exact fun t ht => (hmr t ht).2)) (by decide) (Nat.le_refl 0) (Nat.le_refl 0) (Nat.le_of_ble_eq_true rfl) dX11_judge_79 (fun x_79 I_79 J_79 h_79 => ?_)
                obtain ⟨rfl, rfl, h_79⟩ := h_79
                rw [e51_10, h_75] at h_79
                have hnr := NX_r (bt := bR a sa (Ia 51 304) (Ia 51 305) (Ia 51) (I_10 61) (J_10 62)) (code := Ia 51) (g := Ia 51 306) (s := sa) (N := (FU (Ia 51 304) + 1)) (x := Ia 51 v_31.toNat) (by omega)
                rw [← h_79] at hnr
                have hnr2 : -1 ≤ x_79 ∧ x_79 ≤ FU (Ia 51 304) := by
                  rcases hnr with h9 | h9 <;> omega
                clear hnr
                refine ww_iload hX (pc := 82) dX11_judge_82 rfl ?_
                refine ww_icmp_eq hX (pc := 84) (tgt := 89) dX11_judge_84 (by decide) (fun h_84 => ?_) (fun h_84 => ?_)
                · simp only [w32_mod] at h_84
                  have hx79 : x_79 = v_31 := by omega
                  have hyes : (JOk (fun s => bR a s (Ia 51 304) (Ia 51 305) (Ia 51) (I_10 61) (J_10 62)) (Ia 51) (Ia 51 306) (Ia 51 304)) sa v_31 := by
                    unfold JOk
                    exact ⟨by omega, by omega, by omega, by omega, by omega, h_79.symm.trans hx79⟩
                  refine ww_iload hX (pc := 89) dX11_judge_89 rfl ?_
                  refine ww_istore_n hX (pc := 91) (lv' := [some (kR (some 49)), some (kI a), some (kI v_31), some (kI i), some (kI v_31)]) dX11_judge_91 (by decide) rfl rfl ?_
                  refine ww_iinc hX (pc := 92) (lv' := [some (kR (some 49)), some (kI a), some (kI v_31), some (kI (i + 1)), some (kI v_31)]) dX11_judge_92 rfl (by decide) rfl rfl ?_
                  refine ww_goto hX (pc := 95) (tgt := 17) dX11_judge_95 (by decide) ?_
                  refine ww_sub [some (kR (some 49)), some (kI a), some (kI v_31), some (kI (i + 1)), none] (aLe_s (aLe_s (aLe_s (aLe_s (aLe_n aLe_0))))) ?_
                  exact ih_17 _ (by have hm9 := Sh0_e hq_17; omega) v_31 (i + 1) rfl ⟨by omega, (by unfold JGp; rw [if_neg (by omega), show (i + 1).toNat - 1 = i.toNat by omega]; exact hv31), (fun j hj => by
      by_cases e9 : j = i.toNat
      · rw [e9, ← hjp, ← hv31]
        exact hyes
      · exact hok j (by omega))⟩
                · simp only [w32_mod] at h_84
                  have hno : ¬ (JOk (fun s => bR a s (Ia 51 304) (Ia 51 305) (Ia 51) (I_10 61) (J_10 62)) (Ia 51) (Ia 51 306) (Ia 51 304)) sa v_31 := fun h9 => by
                    obtain ⟨g1, g2, g3, g4, g5, g6⟩ := h9
                    have g6 : NX (bR a sa (Ia 51 304) (Ia 51 305) (Ia 51) (I_10 61) (J_10 62)) (Ia 51) (Ia 51 306) sa (FU (Ia 51 304) + 1) (Ia 51 v_31.toNat) = v_31 := g6
                    omega
                  refine ww_iload_n hX (pc := 87) dX11_judge_87 rfl ?_
                  refine rI hX (pc := 88) hT (Nat.le_refl 0) (Nat.le_refl 0) dX11_judge_88 ?_
                  exact ⟨kI_10, kJ_10, cI_10, e51_10, hqf, (fun _ => ⟨_, _, hzl, hmr, Or.inr ⟨by omega, by omega, hok, (by rw [← hv31]; rw [← hjp]; exact hno)⟩⟩), (fun h9 => absurd (by omega) h9)⟩
    exact hl_17 _ 0 0 rfl ⟨by omega, rfl, fun j hj => absurd hj (by omega)⟩
  · simp only [w32_mod] at h_4
    refine ww_iconst hX (pc := 7) (x := (-1)) dX11_judge_7 rfl ?_
    refine rI hX (pc := 8) hT (Nat.le_refl 0) (Nat.le_refl 0) dX11_judge_8 ?_
    exact ⟨Ch_rf, (Kp_rf (a := 49) (b := 73)), hQ, rfl, hq, (fun h9 => absurd h9 (by omega)), (fun _ => rfl)⟩
