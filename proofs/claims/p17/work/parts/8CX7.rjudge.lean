section
/-- a STATE of a TRAIL is as the KEEPER would have it -/
def JOk (bt : Int → Nat → Nat → Bool) (code : Nat → Int) (g n : Int) (s t : Int) : Prop := 0 ≤ s ∧ s ≤ FU n ∧ 0 ≤ t ∧ t ≤ FU n ∧ ¬ code t.toNat = -1 ∧ NX (bt s) code g s (FU n + 1) (code t.toNat) = t
theorem NGi_any {nx : Int → Int → Int} {a K b i i' sn sn' rr rr' : Int} {F : Nat → Int} {n u : Int} (h : NGi nx a K b i sn rr F n u) (hu : ¬ u = -1) : NGi nx a K b i' sn' rr' F n u := ⟨fun h9 => absurd h9 hu, h.2⟩
theorem QF_kp {I I' J J' : aI1} {v w : Int} (h : QF I J v) (e1 : I' 49 1 = I 49 1) (e25 : I' 49 25 = I 49 25) (e51 : I' 51 = I 51) (e61 : I' 61 = I 61) (j62 : J' 62 = J 62) (hv : v ≤ w) : QF I' J' w := by
  have h1 := h.1
  have h2 := h.2.1
  refine ⟨by omega, by omega, fun h9 => RT_of (h.2.2 (by omega)) e51 e61 j62⟩
theorem QF_up {I I' J J' : aI1} {v w : Int} (h : QF I J v) (e1 : I' 49 1 = I 49 1 + 1) (e25 : I' 49 25 = I 49 25) (hv : v + 1 ≤ w) : QF I' J' w := by
  have h1 := h.1
  have h2 := h.2.1
  exact ⟨by omega, by omega, fun h9 => absurd h9 (by omega)⟩

set_option maxHeartbeats 4000000 in
set_option maxRecDepth 20000 in
theorem c8_X11_judge (l0 : Launch) {Ia Ja : aI1} {Ra : aR1} {Sa : aS1} (hL : LY Ra Sa) (hQ : RX Ia) {a : Int} (ha0 : -2147483648 ≤ a) (ha1 : a < 2147483648) (hO : ∀ l, l < 8 → 0 ≤ Ia 51 (256 + l) ∧ Ia 51 (256 + l) ≤ 99) (hcr : ∀ t : Nat, (t : Int) ≤ FU (Ia 51 304) → -1 ≤ Ia 51 t ∧ Ia 51 t ≤ 7) (hK : ∀ s : Nat, (s : Int) ≤ FU (Ia 51 304) → Ia 51 s < Ia 51 305) {vv : Int} (hq : QF Ia Ja vv) (hv9 : vv ≤ 1000000)  : CT l0 5 0 0 mX11_judge [kR (some 49), kI a] Ia Ja Ra Sa (cI (fun x I' J' => Ch [61] [25] Ia I' ∧ Kp 49 73 Ja J' ∧ RX I' ∧ I' 51 = Ia 51 ∧ QF I' J' vv ∧ ((0 ≤ a ∧ a ≤ 3) → ∃ L M, zLV (Ia 51) (Ia 51 306) (FU (Ia 51 304) + 1) (Ia 51 305) (-1) L ∧ MRc (Ia 51) (Ia 51 306) (Ia 51 304) (Ia 51 305) M ∧ JG (JOk (fun s => bR a s (Ia 51 304) (Ia 51 305) (Ia 51) L M) (Ia 51) (Ia 51 306) (Ia 51 304)) (Ia 67) (Ia 49 33) x) ∧ (¬ (0 ≤ a ∧ a ≤ 3) → x = -1)) Ra Sa) := by
  refine ct_in pn_X11 (Nat.le_of_ble_eq_true rfl) (fun X hX hT hIn => ?_)
  have hX : aK l0 X cX11_judge 5 RX11 (some .int) 5 0 0 := hX
  change WW X 0 [some (kR (some 49)), some (kI a), none, none, none] [] Ia Ja Ra Sa 0 0
  have qIa := RX_o hQ
  refine ww_iload_n hX (pc := 0) dX11_judge_0 rfl ?_
  refine sI1 hX (pc := 1) sX11_308 (c_X11_isManner l0 (by omega) (by omega)) (by decide) (Nat.le_refl 0) (Nat.le_refl 0) (Nat.le_of_ble_eq_true rfl) dX11_judge_1 (fun x_1 I_1 J_1 h_1 => ?_)
  obtain ⟨rfl, rfl, h_1⟩ := h_1
  refine ww_if_ne hX (pc := 4) (tgt := 9) dX11_judge_4 (by decide) (fun h_4 => ?_) (fun h_4 => ?_)
  · simp only [w32_mod] at h_4
    have k_1 := h_1.2.mp (by omega)
    clear h_1
    refine ww_aload_n hX (pc := 9) dX11_judge_9 rfl ?_
    refine vV0 hX (pc := 10) sX11_294 (xs_49 hL) (c8_X11_looks l0 hL hQ hcr hK hq hv9) (by decide) (Nat.le_refl 0) (Nat.le_refl 0) (Nat.le_of_ble_eq_true rfl) dX11_judge_10 (fun I_10 J_10 h_10 => ?_)
    have kJ_10 : Kp 49 73 Ja J_10 := Kp_tr (Kp_rf (a := 49) (b := 73)) h_10.2.1
    have kI_10 : Ch [61] [25] Ia I_10 := Ch_tr Ch_rf (Ch_wd h_10.1 (by decide) (by decide))
    have cI_10 : RX I_10 := h_10.2.2.1
    have qI_10 := RX_o cI_10
    have r304_I_10 : I_10 51 304 = Ia 51 304 := by rw [h_10.1.1 51 (by decide) (by decide)]
    have r305_I_10 : I_10 51 305 = Ia 51 305 := by rw [h_10.1.1 51 (by decide) (by decide)]
    have rf_I_10 : FU (I_10 51 304) = FU (Ia 51 304) := by rw [r304_I_10]
    have e51_10 : I_10 51 = Ia 51 := h_10.2.2.2.1
    have hq9_10 := h_10.2.2.2.2.1
    have hq8_10 := h_10.1.2 1 (by decide)
    have hq7 := hq.1
    have hrt9 := h_10.2.2.2.2.2
    have hqf : QF I_10 J_10 vv := ⟨by omega, by omega, fun _ => hrt9⟩
    unfold RT at hrt9
    rw [e51_10] at hrt9
    have hzl := hrt9.1
    have hmr := hrt9.2
    clear hrt9
    have efu : FU (I_10 51 304) = FU (Ia 51 304) := by rw [e51_10]
    have e67_10 : I_10 67 = Ia 67 := h_10.1.1 67 (by decide) (by decide)
    have e33_10 : I_10 49 33 = Ia 49 33 := h_10.1.2 33 (by decide)
    refine ww_iconst hX (pc := 13) (x := 0) dX11_judge_13 rfl ?_
    refine ww_istore_n hX (pc := 14) (lv' := [some (kR (some 49)), some (kI a), some (kI 0), none, none]) dX11_judge_14 (by decide) rfl rfl ?_
    refine ww_iconst hX (pc := 15) (x := 0) dX11_judge_15 rfl ?_
    refine ww_istore_n hX (pc := 16) (lv' := [some (kR (some 49)), some (kI a), some (kI 0), some (kI 0), none]) dX11_judge_16 (by decide) rfl rfl ?_
    have hl_17 : ∀ (n_17 : Nat) (sa : Int) (i : Int), (30 - i).toNat = n_17 → (((0 ≤ i ∧ i ≤ 30) ∧ (0 ≤ sa ∧ sa ≤ FU (Ia 51 304))) ∧ sa = JGp (Ia 67) i.toNat ∧ (∀ j : Nat, (j : Int) < i → (JOk (fun s => bR a s (Ia 51 304) (Ia 51 305) (Ia 51) (I_10 61) (J_10 62)) (Ia 51) (Ia 51 306) (Ia 51 304)) (JGp (Ia 67) j) (w32 (Ia 67 j)))) → WW X 17 [some (kR (some 49)), some (kI a), some (kI sa), some (kI i), none] [] I_10 J_10 Ra Sa 0 0 := by
      intro n_17
      induction n_17 using Nat.strongRecOn with
      | ind n_17 ih_17 =>
        intro sa i hm_17 hv_17
        have hq_17 := Sh0_i hm_17
        clear hm_17
        obtain ⟨hv, hjp, hok⟩ := hv_17
        refine ww_iload_n hX (pc := 17) dX11_judge_17 rfl ?_
        refine ww_aload_n hX (pc := 18) dX11_judge_18 rfl ?_
        refine ww_getI hX (pc := 19) fX11_334 (by decide) (xs_49 hL) dX11_judge_19 ?_
        refine ww_icmp_ge hX (pc := 22) (tgt := 98) dX11_judge_22 (by decide) (fun h_22 => ?_) (fun h_22 => ?_)
        · simp only [w32_mod] at h_22
          refine ww_iconst hX (pc := 98) (x := (-1)) dX11_judge_98 rfl ?_
          refine rI hX (pc := 99) hT (Nat.le_refl 0) (Nat.le_refl 0) dX11_judge_99 ?_
          exact ⟨kI_10, kJ_10, cI_10, e51_10, hqf, (fun _ => ⟨_, _, hzl, hmr, Or.inl ⟨rfl, fun j hj => hok j (by omega)⟩⟩), (fun h9 => absurd (by omega) h9)⟩
        · simp only [w32_mod] at h_22
          refine ww_aload_n hX (pc := 25) dX11_judge_25 rfl ?_
          refine ww_getR hX (pc := 26) fX11_77 (by decide) (xs_49 hL) (xr_49_32 hL) dX11_judge_26 ?_
          refine ww_iload_n hX (pc := 29) dX11_judge_29 rfl ?_
          refine ww_iald hX (pc := 30) (xs_67 hL) (by decide) (by omega) (by omega) dX11_judge_30 ?_
          refine ww_wI ?_
          have hwr := w32_r (I_10 67 i.toNat)
          refine ww_nmI (fun v_31 hv_31 => ?_)
          refine ww_istore hX (pc := 31) (lv' := [some (kR (some 49)), some (kI a), some (kI sa), some (kI i), some (kI v_31)]) dX11_judge_31 (by decide) rfl rfl ?_
          have hv31 : v_31 = w32 (Ia 67 i.toNat) := by rw [hv_31, e67_10]
          refine ww_aload_n hX (pc := 33) dX11_judge_33 rfl ?_
          refine ww_iload hX (pc := 34) dX11_judge_34 rfl ?_
          refine vI1 hX (pc := 36) sX11_120 (xs_49 hL) (c_X11_isState l0 hL cI_10 (by omega) (by omega)) (by decide) (Nat.le_refl 0) (Nat.le_refl 0) (Nat.le_of_ble_eq_true rfl) dX11_judge_36 (fun x_36 I_36 J_36 h_36 => ?_)
          obtain ⟨rfl, rfl, h_36⟩ := h_36
          refine ww_if_eq hX (pc := 39) (tgt := 87) dX11_judge_39 (by decide) (fun h_39 => ?_) (fun h_39 => ?_)
          · simp only [w32_mod] at h_39
            have hno : ¬ (JOk (fun s => bR a s (Ia 51 304) (Ia 51 305) (Ia 51) (I_10 61) (J_10 62)) (Ia 51) (Ia 51 306) (Ia 51 304)) sa v_31 := fun h9 => by
              obtain ⟨g1, g2, g3, g4, g5, g6⟩ := h9
              have g6 : NX (bR a sa (Ia 51 304) (Ia 51 305) (Ia 51) (I_10 61) (J_10 62)) (Ia 51) (Ia 51 306) sa (FU (Ia 51 304) + 1) (Ia 51 v_31.toNat) = v_31 := g6
              omega
            refine ww_iload_n hX (pc := 87) dX11_judge_87 rfl ?_
            refine rI hX (pc := 88) hT (Nat.le_refl 0) (Nat.le_refl 0) dX11_judge_88 ?_
            exact ⟨kI_10, kJ_10, cI_10, e51_10, hqf, (fun _ => ⟨_, _, hzl, hmr, Or.inr ⟨by omega, by omega, hok, (by rw [← hv31]; rw [← hjp]; exact hno)⟩⟩), (fun h9 => absurd (by omega) h9)⟩
          · simp only [w32_mod] at h_39
            have k_36 := h_36.2.mp (by omega)
            clear h_36
            refine ww_aload_n hX (pc := 42) dX11_judge_42 rfl ?_
            refine ww_iload_n hX (pc := 43) dX11_judge_43 rfl ?_
            refine ww_iload hX (pc := 44) dX11_judge_44 rfl ?_
            refine ww_aload_n hX (pc := 46) dX11_judge_46 rfl ?_
            refine ww_getR hX (pc := 47) fX11_20 (by decide) (xs_49 hL) (xr_49_3 hL) dX11_judge_47 ?_
            refine ww_sipush hX (pc := 50) (x := 306) dX11_judge_50 (by decide) ?_
            refine ww_iald hX (pc := 53) (xs_51 hL) (by decide) (by omega) (by omega) dX11_judge_53 ?_
            refine ww_toI (b := I_10 51 306) rfl ?_
            refine vI3 hX (pc := 54) sX11_271 (xs_49 hL) (c_X11_canCome l0 hL cI_10 ) (by decide) (Nat.le_refl 0) (Nat.le_refl 0) (Nat.le_of_ble_eq_true rfl) dX11_judge_54 (fun x_54 I_54 J_54 h_54 => ?_)
            obtain ⟨rfl, rfl, h_54⟩ := h_54
            rw [e51_10] at h_54
            refine ww_if_eq hX (pc := 57) (tgt := 87) dX11_judge_57 (by decide) (fun h_57 => ?_) (fun h_57 => ?_)
            · simp only [w32_mod] at h_57
              have hno : ¬ (JOk (fun s => bR a s (Ia 51 304) (Ia 51 305) (Ia 51) (I_10 61) (J_10 62)) (Ia 51) (Ia 51 306) (Ia 51 304)) sa v_31 := fun h9 => by
                obtain ⟨g1, g2, g3, g4, g5, g6⟩ := h9
                have g6 : NX (bR a sa (Ia 51 304) (Ia 51 305) (Ia 51) (I_10 61) (J_10 62)) (Ia 51) (Ia 51 306) sa (FU (Ia 51 304) + 1) (Ia 51 v_31.toNat) = v_31 := g6
                rcases NX_cd (bt := bR a sa (Ia 51 304) (Ia 51 305) (Ia 51) (I_10 61) (J_10 62)) (code := Ia 51) (g := Ia 51 306) (s := sa) (N := (FU (Ia 51 304) + 1)) (x := Ia 51 v_31.toNat) with e9 | ⟨t9, e9, c1, c2, c3, c4⟩
                · omega
                · have e8 : (t9 : Int) = v_31 := e9.symm.trans g6
                  rw [e8] at c3
                  have g8 := h_54.2.mpr ((canC_iff (by omega) (by omega) (by omega) (by omega)).mpr ⟨by rw [← e8, Int.toNat_natCast]; exact c2, c3⟩)
                  omega
              refine ww_iload_n hX (pc := 87) dX11_judge_87 rfl ?_
              refine rI hX (pc := 88) hT (Nat.le_refl 0) (Nat.le_refl 0) dX11_judge_88 ?_
              exact ⟨kI_10, kJ_10, cI_10, e51_10, hqf, (fun _ => ⟨_, _, hzl, hmr, Or.inr ⟨by omega, by omega, hok, (by rw [← hv31]; rw [← hjp]; exact hno)⟩⟩), (fun h9 => absurd (by omega) h9)⟩
            · simp only [w32_mod] at h_57
              refine ww_aload_n hX (pc := 60) dX11_judge_60 rfl ?_
              refine ww_iload hX (pc := 61) dX11_judge_61 rfl ?_
              refine vI1 hX (pc := 63) sX11_126 (xs_49 hL) (c_X11_readOf l0 hL cI_10 (by omega) (by omega)) (by decide) (Nat.le_refl 0) (Nat.le_refl 0) (Nat.le_of_ble_eq_true rfl) dX11_judge_63 (fun x_63 I_63 J_63 h_63 => ?_)
              obtain ⟨rfl, rfl, h_63⟩ := h_63
              rw [e51_10] at h_63
              have hc63 := hcr v_31.toNat (by omega)
              refine ww_iconst hX (pc := 66) (x := (-1)) dX11_judge_66 rfl ?_
              refine ww_icmp_eq hX (pc := 67) (tgt := 87) dX11_judge_67 (by decide) (fun h_67 => ?_) (fun h_67 => ?_)
              · simp only [w32_mod] at h_67
                have hno : ¬ (JOk (fun s => bR a s (Ia 51 304) (Ia 51 305) (Ia 51) (I_10 61) (J_10 62)) (Ia 51) (Ia 51 306) (Ia 51 304)) sa v_31 := fun h9 => by
                  obtain ⟨g1, g2, g3, g4, g5, g6⟩ := h9
                  have g6 : NX (bR a sa (Ia 51 304) (Ia 51 305) (Ia 51) (I_10 61) (J_10 62)) (Ia 51) (Ia 51 306) sa (FU (Ia 51 304) + 1) (Ia 51 v_31.toNat) = v_31 := g6
                  omega
                refine ww_iload_n hX (pc := 87) dX11_judge_87 rfl ?_
                refine rI hX (pc := 88) hT (Nat.le_refl 0) (Nat.le_refl 0) dX11_judge_88 ?_
                exact ⟨kI_10, kJ_10, cI_10, e51_10, hqf, (fun _ => ⟨_, _, hzl, hmr, Or.inr ⟨by omega, by omega, hok, (by rw [← hv31]; rw [← hjp]; exact hno)⟩⟩), (fun h9 => absurd (by omega) h9)⟩
              · simp only [w32_mod] at h_67
                refine ww_aload_n hX (pc := 70) dX11_judge_70 rfl ?_
                refine ww_iload_n hX (pc := 71) dX11_judge_71 rfl ?_
                refine ww_aload_n hX (pc := 72) dX11_judge_72 rfl ?_
                refine ww_iload hX (pc := 73) dX11_judge_73 rfl ?_
                refine vI1 hX (pc := 75) sX11_126 (xs_49 hL) (c_X11_readOf l0 hL cI_10 (by omega) (by omega)) (by decide) (Nat.le_refl 0) (Nat.le_refl 0) (Nat.le_of_ble_eq_true rfl) dX11_judge_75 (fun x_75 I_75 J_75 h_75 => ?_)
                obtain ⟨rfl, rfl, h_75⟩ := h_75
                rw [e51_10] at h_75
                refine ww_iload_n hX (pc := 78) dX11_judge_78 rfl ?_
                refine vI3 hX (pc := 79) sX11_311 (xs_49 hL) (c8_X11_nextOf l0 hL cI_10 (by omega) (by omega) (by omega) (by omega) (by omega) (by omega) (by rw [e51_10]; exact hO) (by rw [e51_10]; exact hcr) (by rw [e51_10]; exact fun t ht => (hmr t ht).2)) (by decide) (Nat.le_refl 0) (Nat.le_refl 0) (Nat.le_of_ble_eq_true rfl) dX11_judge_79 (fun x_79 I_79 J_79 h_79 => ?_)
                obtain ⟨rfl, rfl, h_79⟩ := h_79
                rw [e51_10, h_75] at h_79
                have hnr := NX_r (bt := bR a sa (Ia 51 304) (Ia 51 305) (Ia 51) (I_10 61) (J_10 62)) (code := Ia 51) (g := Ia 51 306) (s := sa) (N := (FU (Ia 51 304) + 1)) (x := Ia 51 v_31.toNat) (by omega)
                rw [← h_79] at hnr
                have hnr2 : -1 ≤ x_79 ∧ x_79 ≤ FU (Ia 51 304) := by
                  rcases hnr with h9 | h9 <;> omega
                clear hnr
                refine ww_iload hX (pc := 82) dX11_judge_82 rfl ?_
                refine ww_icmp_eq hX (pc := 84) (tgt := 89) dX11_judge_84 (by decide) (fun h_84 => ?_) (fun h_84 => ?_)
                · simp only [w32_mod] at h_84
                  have hx79 : x_79 = v_31 := by omega
                  have hyes : (JOk (fun s => bR a s (Ia 51 304) (Ia 51 305) (Ia 51) (I_10 61) (J_10 62)) (Ia 51) (Ia 51 306) (Ia 51 304)) sa v_31 := by
                    unfold JOk
                    exact ⟨by omega, by omega, by omega, by omega, by omega, h_79.symm.trans hx79⟩
                  refine ww_iload hX (pc := 89) dX11_judge_89 rfl ?_
                  refine ww_istore_n hX (pc := 91) (lv' := [some (kR (some 49)), some (kI a), some (kI v_31), some (kI i), some (kI v_31)]) dX11_judge_91 (by decide) rfl rfl ?_
                  refine ww_iinc hX (pc := 92) (lv' := [some (kR (some 49)), some (kI a), some (kI v_31), some (kI (i + 1)), some (kI v_31)]) dX11_judge_92 rfl (by decide) rfl rfl ?_
                  refine ww_goto hX (pc := 95) (tgt := 17) dX11_judge_95 (by decide) ?_
                  refine ww_sub [some (kR (some 49)), some (kI a), some (kI v_31), some (kI (i + 1)), none] (aLe_s (aLe_s (aLe_s (aLe_s (aLe_n aLe_0))))) ?_
                  exact ih_17 _ (by have hm9 := Sh0_e hq_17; omega) v_31 (i + 1) rfl ⟨by omega, (by unfold JGp; rw [if_neg (by omega), show (i + 1).toNat - 1 = i.toNat by omega]; exact hv31), (fun j hj => by
      by_cases e9 : j = i.toNat
      · rw [e9, ← hjp, ← hv31]
        exact hyes
      · exact hok j (by omega))⟩
                · simp only [w32_mod] at h_84
                  have hno : ¬ (JOk (fun s => bR a s (Ia 51 304) (Ia 51 305) (Ia 51) (I_10 61) (J_10 62)) (Ia 51) (Ia 51 306) (Ia 51 304)) sa v_31 := fun h9 => by
                    obtain ⟨g1, g2, g3, g4, g5, g6⟩ := h9
                    have g6 : NX (bR a sa (Ia 51 304) (Ia 51 305) (Ia 51) (I_10 61) (J_10 62)) (Ia 51) (Ia 51 306) sa (FU (Ia 51 304) + 1) (Ia 51 v_31.toNat) = v_31 := g6
                    omega
                  refine ww_iload_n hX (pc := 87) dX11_judge_87 rfl ?_
                  refine rI hX (pc := 88) hT (Nat.le_refl 0) (Nat.le_refl 0) dX11_judge_88 ?_
                  exact ⟨kI_10, kJ_10, cI_10, e51_10, hqf, (fun _ => ⟨_, _, hzl, hmr, Or.inr ⟨by omega, by omega, hok, (by rw [← hv31]; rw [← hjp]; exact hno)⟩⟩), (fun h9 => absurd (by omega) h9)⟩
    exact hl_17 _ 0 0 rfl ⟨by omega, rfl, fun j hj => absurd hj (by omega)⟩
  · simp only [w32_mod] at h_4
    refine ww_iconst hX (pc := 7) (x := (-1)) dX11_judge_7 rfl ?_
    refine rI hX (pc := 8) hT (Nat.le_refl 0) (Nat.le_refl 0) dX11_judge_8 ?_
    exact ⟨Ch_rf, (Kp_rf (a := 49) (b := 73)), hQ, rfl, hq, (fun h9 => absurd h9 (by omega)), (fun _ => rfl)⟩
end
section
set_option maxHeartbeats 4000000 in
set_option maxRecDepth 20000 in
theorem c8_X11_night (l0 : Launch) {Ia Ja : aI1} {Ra : aR1} {Sa : aS1} (hL : LY Ra Sa) (hQ : RX Ia) {a b c : Int} (ha0 : -2147483648 ≤ a) (ha1 : a < 2147483648) (hb0 : -2147483648 ≤ b) (hb1 : b < 2147483648) (hc0 : -2147483648 ≤ c) (hc1 : c < 2147483648) (hO : ∀ l, l < 8 → 0 ≤ Ia 51 (256 + l) ∧ Ia 51 (256 + l) ≤ 99) (hcr : ∀ t : Nat, (t : Int) ≤ FU (Ia 51 304) → -1 ≤ Ia 51 t ∧ Ia 51 t ≤ 7) (hK : ∀ s : Nat, (s : Int) ≤ FU (Ia 51 304) → Ia 51 s < Ia 51 305) {vv : Int} (hq : QF Ia Ja vv) (hv9 : vv ≤ 1000000)  : CT l0 5 0 0 mX11_night [kR (some 49), kI a, kI b, kI c] Ia Ja Ra Sa (cI (fun x I' J' => Ch [50, 61, 72] [0, 1, 25, 39, 40, 41] Ia I' ∧ Kp 49 73 Ja J' ∧ RX I' ∧ I' 51 = Ia 51 ∧ QF I' J' (vv + 1) ∧ (¬ (0 ≤ a ∧ a ≤ 1000000 ∧ 0 ≤ b ∧ b ≤ 24 ∧ 0 ≤ c ∧ c ≤ 3) → x = -1 ∧ I' 49 0 = -1 ∧ I' 50 = up1 (Ia 50) 1 (Ia 50 1 + 1) ∧ I' 49 39 = Ia 49 39 ∧ I' 49 40 = Ia 49 40 ∧ I' 72 = Ia 72) ∧ ((0 ≤ a ∧ a ≤ 1000000 ∧ 0 ≤ b ∧ b ≤ 24 ∧ 0 ≤ c ∧ c ≤ 3) → x = I' 49 39 ∧ I' 49 0 = 0 ∧ I' 50 = Ia 50 ∧ ∃ L M, zLV (Ia 51) (Ia 51 306) (FU (Ia 51 304) + 1) (Ia 51 305) (-1) L ∧ MRc (Ia 51) (Ia 51 306) (Ia 51 304) (Ia 51 305) M ∧ NGc (fun s x => NX (bR c s (Ia 51 304) (Ia 51 305) (Ia 51) L M) (Ia 51) (Ia 51 306) s (FU (Ia 51 304) + 1) x) a (Ia 51 305) b (I' 72) (I' 49 39) (I' 49 40))) Ra Sa) := by
  refine ct_in pn_X11 (Nat.le_of_ble_eq_true rfl) (fun X hX hT hIn => ?_)
  have hX : aK l0 X cX11_night 7 RX11 (some .int) 5 0 0 := hX
  change WW X 0 [some (kR (some 49)), some (kI a), some (kI b), some (kI c), none, none, none] [] Ia Ja Ra Sa 0 0
  have qIa := RX_n hQ
  refine ww_iload_n hX (pc := 0) dX11_night_0 rfl ?_
  refine ww_iconst hX (pc := 1) (x := 0) dX11_night_1 rfl ?_
  refine ww_ldc hX (pc := 2) (x := 1000000) dX11_night_2 tb_1327 ?_
  refine sI3 hX (pc := 4) sX11_101 (c_X11_lies l0 (by omega) (by omega) (by omega) (by omega) (by omega) (by omega)) (by decide) (Nat.le_refl 0) (Nat.le_refl 0) (Nat.le_of_ble_eq_true rfl) dX11_night_4 (fun x_4 I_4 J_4 h_4 => ?_)
  obtain ⟨rfl, rfl, h_4⟩ := h_4
  refine ww_if_eq hX (pc := 7) (tgt := 27) dX11_night_7 (by decide) (fun h_7 => ?_) (fun h_7 => ?_)
  · simp only [w32_mod] at h_7
    refine ww_aload_n hX (pc := 27) dX11_night_27 rfl ?_
    refine ww_iconst hX (pc := 28) (x := (-1)) dX11_night_28 rfl ?_
    refine vI1 hX (pc := 29) sX11_105 (xs_49 hL) (c8_X11_refuses l0 hL hQ (by omega) (by omega)) (by decide) (Nat.le_refl 0) (Nat.le_refl 0) (Nat.le_of_ble_eq_true rfl) dX11_night_29 (fun x_29 I_29 J_29 h_29 => ?_)
    have kJ_29 : Kp 49 73 Ja J_29 := Kp_tr (Kp_rf (a := 49) (b := 73)) h_29.2.1
    have kI_29 : Ch [50, 61, 72] [0, 1, 25, 39, 40, 41] Ia I_29 := Ch_tr Ch_rf (Ch_wd h_29.1 (by decide) (by decide))
    have cI_29 : RX I_29 := h_29.2.2.1
    have qI_29 := RX_n cI_29
    have r304_I_29 : I_29 51 304 = Ia 51 304 := by rw [h_29.1.1 51 (by decide) (by decide)]
    have r305_I_29 : I_29 51 305 = Ia 51 305 := by rw [h_29.1.1 51 (by decide) (by decide)]
    have f39_I_29 : I_29 49 39 = Ia 49 39 := h_29.1.2 39 (by decide)
    have f40_I_29 : I_29 49 40 = Ia 49 40 := h_29.1.2 40 (by decide)
    have f41_I_29 : I_29 49 41 = Ia 49 41 := h_29.1.2 41 (by decide)
    have rf_I_29 : FU (I_29 51 304) = FU (Ia 51 304) := by rw [r304_I_29]
    refine rI hX (pc := 32) hT (Nat.le_refl 0) (Nat.le_refl 0) dX11_night_32 ?_
    exact ⟨kI_29, kJ_29, cI_29, h_29.1.1 51 (by decide) (by decide), (QF_kp hq (h_29.1.2 1 (by decide)) (h_29.1.2 25 (by decide)) (h_29.1.1 51 (by decide) (by decide)) (h_29.1.1 61 (by decide) (by decide)) (by rw [h_29.2.2.2.2.2.2]) (by omega)), (fun _ => ⟨h_29.2.2.2.1, h_29.2.2.2.2.1, h_29.2.2.2.2.2.1, h_29.1.2 39 (by decide), h_29.1.2 40 (by decide), h_29.1.1 72 (by decide) (by decide)⟩), (fun h9 => absurd h9 (by omega))⟩
  · simp only [w32_mod] at h_7
    have k_4 := h_4.2.mp (by omega)
    clear h_4
    refine ww_iload_n hX (pc := 10) dX11_night_10 rfl ?_
    refine ww_iconst hX (pc := 11) (x := 0) dX11_night_11 rfl ?_
    refine ww_bipush hX (pc := 12) (x := 24) dX11_night_12 (by decide) ?_
    refine sI3 hX (pc := 14) sX11_101 (c_X11_lies l0 (by omega) (by omega) (by omega) (by omega) (by omega) (by omega)) (by decide) (Nat.le_refl 0) (Nat.le_refl 0) (Nat.le_of_ble_eq_true rfl) dX11_night_14 (fun x_14 I_14 J_14 h_14 => ?_)
    obtain ⟨rfl, rfl, h_14⟩ := h_14
    refine ww_if_eq hX (pc := 17) (tgt := 27) dX11_night_17 (by decide) (fun h_17 => ?_) (fun h_17 => ?_)
    · simp only [w32_mod] at h_17
      refine ww_aload_n hX (pc := 27) dX11_night_27 rfl ?_
      refine ww_iconst hX (pc := 28) (x := (-1)) dX11_night_28 rfl ?_
      refine vI1 hX (pc := 29) sX11_105 (xs_49 hL) (c8_X11_refuses l0 hL hQ (by omega) (by omega)) (by decide) (Nat.le_refl 0) (Nat.le_refl 0) (Nat.le_of_ble_eq_true rfl) dX11_night_29 (fun x_29 I_29 J_29 h_29 => ?_)
      have kJ_29 : Kp 49 73 Ja J_29 := Kp_tr (Kp_rf (a := 49) (b := 73)) h_29.2.1
      have kI_29 : Ch [50, 61, 72] [0, 1, 25, 39, 40, 41] Ia I_29 := Ch_tr Ch_rf (Ch_wd h_29.1 (by decide) (by decide))
      have cI_29 : RX I_29 := h_29.2.2.1
      have qI_29 := RX_n cI_29
      have r304_I_29 : I_29 51 304 = Ia 51 304 := by rw [h_29.1.1 51 (by decide) (by decide)]
      have r305_I_29 : I_29 51 305 = Ia 51 305 := by rw [h_29.1.1 51 (by decide) (by decide)]
      have f39_I_29 : I_29 49 39 = Ia 49 39 := h_29.1.2 39 (by decide)
      have f40_I_29 : I_29 49 40 = Ia 49 40 := h_29.1.2 40 (by decide)
      have f41_I_29 : I_29 49 41 = Ia 49 41 := h_29.1.2 41 (by decide)
      have rf_I_29 : FU (I_29 51 304) = FU (Ia 51 304) := by rw [r304_I_29]
      refine rI hX (pc := 32) hT (Nat.le_refl 0) (Nat.le_refl 0) dX11_night_32 ?_
      exact ⟨kI_29, kJ_29, cI_29, h_29.1.1 51 (by decide) (by decide), (QF_kp hq (h_29.1.2 1 (by decide)) (h_29.1.2 25 (by decide)) (h_29.1.1 51 (by decide) (by decide)) (h_29.1.1 61 (by decide) (by decide)) (by rw [h_29.2.2.2.2.2.2]) (by omega)), (fun _ => ⟨h_29.2.2.2.1, h_29.2.2.2.2.1, h_29.2.2.2.2.2.1, h_29.1.2 39 (by decide), h_29.1.2 40 (by decide), h_29.1.1 72 (by decide) (by decide)⟩), (fun h9 => absurd h9 (by omega))⟩
    · simp only [w32_mod] at h_17
      have k_14 := h_14.2.mp (by omega)
      clear h_14
      refine ww_iload_n hX (pc := 20) dX11_night_20 rfl ?_
      refine sI1 hX (pc := 21) sX11_308 (c_X11_isManner l0 (by omega) (by omega)) (by decide) (Nat.le_refl 0) (Nat.le_refl 0) (Nat.le_of_ble_eq_true rfl) dX11_night_21 (fun x_21 I_21 J_21 h_21 => ?_)
      obtain ⟨rfl, rfl, h_21⟩ := h_21
      refine ww_if_ne hX (pc := 24) (tgt := 33) dX11_night_24 (by decide) (fun h_24 => ?_) (fun h_24 => ?_)
      · simp only [w32_mod] at h_24
        have k_21 := h_21.2.mp (by omega)
        clear h_21
        refine ww_aload_n hX (pc := 33) dX11_night_33 rfl ?_
        refine vV0 hX (pc := 34) sX11_294 (xs_49 hL) (c8_X11_looks l0 hL hQ hcr hK hq hv9) (by decide) (Nat.le_refl 0) (Nat.le_refl 0) (Nat.le_of_ble_eq_true rfl) dX11_night_34 (fun I_34 J_34 h_34 => ?_)
        have kJ_34 : Kp 49 73 Ja J_34 := Kp_tr (Kp_rf (a := 49) (b := 73)) h_34.2.1
        have kI_34 : Ch [50, 61, 72] [0, 1, 25, 39, 40, 41] Ia I_34 := Ch_tr Ch_rf (Ch_wd h_34.1 (by decide) (by decide))
        have cI_34 : RX I_34 := h_34.2.2.1
        have qI_34 := RX_n cI_34
        have r304_I_34 : I_34 51 304 = Ia 51 304 := by rw [h_34.1.1 51 (by decide) (by decide)]
        have r305_I_34 : I_34 51 305 = Ia 51 305 := by rw [h_34.1.1 51 (by decide) (by decide)]
        have f39_I_34 : I_34 49 39 = Ia 49 39 := h_34.1.2 39 (by decide)
        have f40_I_34 : I_34 49 40 = Ia 49 40 := h_34.1.2 40 (by decide)
        have f41_I_34 : I_34 49 41 = Ia 49 41 := h_34.1.2 41 (by decide)
        have rf_I_34 : FU (I_34 51 304) = FU (Ia 51 304) := by rw [r304_I_34]
        have e51_34 : I_34 51 = Ia 51 := h_34.2.2.2.1
        have hq9_34 := h_34.2.2.2.2.1
        have hq8_34 := h_34.1.2 1 (by decide)
        have hq7 := hq.1
        have hrt9 := h_34.2.2.2.2.2
        have hqf : QF I_34 J_34 vv := ⟨by omega, by omega, fun _ => hrt9⟩
        unfold RT at hrt9
        rw [e51_34] at hrt9
        have hzl := hrt9.1
        have hmr := hrt9.2
        clear hrt9
        have efu : FU (I_34 51 304) = FU (Ia 51 304) := by rw [e51_34]
        have kp_I_34 : I_34 51 = Ia 51 ∧ I_34 61 = I_34 61 ∧ I_34 49 1 = Ia 49 1 ∧ I_34 49 25 = I_34 49 25 ∧ I_34 50 = Ia 50 := ⟨e51_34, rfl, hq8_34, rfl, h_34.1.1 50 (by decide) (by decide)⟩
        refine ww_aload_n hX (pc := 37) dX11_night_37 rfl ?_
        refine ww_iload_n hX (pc := 38) dX11_night_38 rfl ?_
        refine ww_putI hX (pc := 39) (fun h9 => absurd h9 (by decide)) gX11_344 rfl (xs_49 hL) dX11_night_39 ?_
        refine ww_nmH (fun I_39 eI_39 => ?_)
        have kI_39 : Ch [50, 61, 72] [0, 1, 25, 39, 40, 41] Ia I_39 := by rw [eI_39]; exact Ch_f kI_34 (by decide)
        have cI_39 : RX I_39 := by rw [eI_39]; exact RX_f cI_34 (by decide)
        have qI_39 := RX_n cI_39
        have r304_I_39 : I_39 51 304 = I_34 51 304 := by rw [eI_39, up2_off _ _ _ (by decide)]
        have r305_I_39 : I_39 51 305 = I_34 51 305 := by rw [eI_39, up2_off _ _ _ (by decide)]
        have f39_I_39 : I_39 49 39 = I_34 49 39 := by rw [eI_39, up2_n _ _ (Or.inr (by decide))]
        have f40_I_39 : I_39 49 40 = I_34 49 40 := by rw [eI_39, up2_n _ _ (Or.inr (by decide))]
        have rf_I_39 : FU (I_39 51 304) = FU (I_34 51 304) := by rw [r304_I_39]
        have kp_I_39 : I_39 51 = Ia 51 ∧ I_39 61 = I_34 61 ∧ I_39 49 1 = Ia 49 1 ∧ I_39 49 25 = I_34 49 25 ∧ I_39 50 = Ia 50 := ⟨Eq.trans (by first | rw [eI_39, up2_off _ _ _ (by decide)] | rw [eI_39, up2_n _ _ (Or.inr (by decide))]) kp_I_34.1, Eq.trans (by first | rw [eI_39, up2_off _ _ _ (by decide)] | rw [eI_39, up2_n _ _ (Or.inr (by decide))]) kp_I_34.2.1, Eq.trans (by first | rw [eI_39, up2_off _ _ _ (by decide)] | rw [eI_39, up2_n _ _ (Or.inr (by decide))]) kp_I_34.2.2.1, Eq.trans (by first | rw [eI_39, up2_off _ _ _ (by decide)] | rw [eI_39, up2_n _ _ (Or.inr (by decide))]) kp_I_34.2.2.2.1, Eq.trans (by first | rw [eI_39, up2_off _ _ _ (by decide)] | rw [eI_39, up2_n _ _ (Or.inr (by decide))]) kp_I_34.2.2.2.2⟩
        have f41 : I_39 49 41 = a := by rw [eI_39, up2_s]
        refine ww_aload_n hX (pc := 42) dX11_night_42 rfl ?_
        refine ww_iconst hX (pc := 43) (x := 0) dX11_night_43 rfl ?_
        refine ww_putI hX (pc := 44) (fun h9 => absurd h9 (by decide)) gX11_95 rfl (xs_49 hL) dX11_night_44 ?_
        refine ww_nmH (fun I_44 eI_44 => ?_)
        have kI_44 : Ch [50, 61, 72] [0, 1, 25, 39, 40, 41] Ia I_44 := by rw [eI_44]; exact Ch_f kI_39 (by decide)
        have cI_44 : RX I_44 := by rw [eI_44]; exact RX_39 cI_39 (by omega) (by omega)
        have qI_44 := RX_n cI_44
        have r304_I_44 : I_44 51 304 = I_39 51 304 := by rw [eI_44, up2_off _ _ _ (by decide)]
        have r305_I_44 : I_44 51 305 = I_39 51 305 := by rw [eI_44, up2_off _ _ _ (by decide)]
        have f40_I_44 : I_44 49 40 = I_39 49 40 := by rw [eI_44, up2_n _ _ (Or.inr (by decide))]
        have f41_I_44 : I_44 49 41 = I_39 49 41 := by rw [eI_44, up2_n _ _ (Or.inr (by decide))]
        have rf_I_44 : FU (I_44 51 304) = FU (I_39 51 304) := by rw [r304_I_44]
        have kp_I_44 : I_44 51 = Ia 51 ∧ I_44 61 = I_34 61 ∧ I_44 49 1 = Ia 49 1 ∧ I_44 49 25 = I_34 49 25 ∧ I_44 50 = Ia 50 := ⟨Eq.trans (by first | rw [eI_44, up2_off _ _ _ (by decide)] | rw [eI_44, up2_n _ _ (Or.inr (by decide))]) kp_I_39.1, Eq.trans (by first | rw [eI_44, up2_off _ _ _ (by decide)] | rw [eI_44, up2_n _ _ (Or.inr (by decide))]) kp_I_39.2.1, Eq.trans (by first | rw [eI_44, up2_off _ _ _ (by decide)] | rw [eI_44, up2_n _ _ (Or.inr (by decide))]) kp_I_39.2.2.1, Eq.trans (by first | rw [eI_44, up2_off _ _ _ (by decide)] | rw [eI_44, up2_n _ _ (Or.inr (by decide))]) kp_I_39.2.2.2.1, Eq.trans (by first | rw [eI_44, up2_off _ _ _ (by decide)] | rw [eI_44, up2_n _ _ (Or.inr (by decide))]) kp_I_39.2.2.2.2⟩
        have f39 : I_44 49 39 = 0 := by rw [eI_44, up2_s]
        refine ww_aload_n hX (pc := 47) dX11_night_47 rfl ?_
        refine ww_iconst hX (pc := 48) (x := (-1)) dX11_night_48 rfl ?_
        refine ww_putI hX (pc := 49) (fun h9 => absurd h9 (by decide)) gX11_347 rfl (xs_49 hL) dX11_night_49 ?_
        refine ww_nmH (fun I_49 eI_49 => ?_)
        have kI_49 : Ch [50, 61, 72] [0, 1, 25, 39, 40, 41] Ia I_49 := by rw [eI_49]; exact Ch_f kI_44 (by decide)
        have cI_49 : RX I_49 := by rw [eI_49]; exact RX_f cI_44 (by decide)
        have qI_49 := RX_n cI_49
        have r304_I_49 : I_49 51 304 = I_44 51 304 := by rw [eI_49, up2_off _ _ _ (by decide)]
        have r305_I_49 : I_49 51 305 = I_44 51 305 := by rw [eI_49, up2_off _ _ _ (by decide)]
        have f39_I_49 : I_49 49 39 = I_44 49 39 := by rw [eI_49, up2_n _ _ (Or.inr (by decide))]
        have f41_I_49 : I_49 49 41 = I_44 49 41 := by rw [eI_49, up2_n _ _ (Or.inr (by decide))]
        have rf_I_49 : FU (I_49 51 304) = FU (I_44 51 304) := by rw [r304_I_49]
        have kp_I_49 : I_49 51 = Ia 51 ∧ I_49 61 = I_34 61 ∧ I_49 49 1 = Ia 49 1 ∧ I_49 49 25 = I_34 49 25 ∧ I_49 50 = Ia 50 := ⟨Eq.trans (by first | rw [eI_49, up2_off _ _ _ (by decide)] | rw [eI_49, up2_n _ _ (Or.inr (by decide))]) kp_I_44.1, Eq.trans (by first | rw [eI_49, up2_off _ _ _ (by decide)] | rw [eI_49, up2_n _ _ (Or.inr (by decide))]) kp_I_44.2.1, Eq.trans (by first | rw [eI_49, up2_off _ _ _ (by decide)] | rw [eI_49, up2_n _ _ (Or.inr (by decide))]) kp_I_44.2.2.1, Eq.trans (by first | rw [eI_49, up2_off _ _ _ (by decide)] | rw [eI_49, up2_n _ _ (Or.inr (by decide))]) kp_I_44.2.2.2.1, Eq.trans (by first | rw [eI_49, up2_off _ _ _ (by decide)] | rw [eI_49, up2_n _ _ (Or.inr (by decide))]) kp_I_44.2.2.2.2⟩
        have f40 : I_49 49 40 = -1 := by rw [eI_49, up2_s]
        refine ww_iconst hX (pc := 52) (x := 0) dX11_night_52 rfl ?_
        refine ww_istore hX (pc := 53) (lv' := [some (kR (some 49)), some (kI a), some (kI b), some (kI c), some (kI 0), none, none]) dX11_night_53 (by decide) rfl rfl ?_
        have hl_55 : ∀ (n_55 : Nat) (sa : Int) (I55 : aI1), (2 * (24 - I55 49 39) - I55 49 40).toNat = n_55 → (Ch [50, 61, 72] [0, 1, 25, 39, 40, 41] Ia I55 ∧ RX I55 ∧ I55 51 304 = I_49 51 304 ∧ I55 51 305 = I_49 51 305 ∧ (0 ≤ sa ∧ sa ≤ FU (Ia 51 304)) ∧ (0 ≤ I55 49 39 ∧ I55 49 39 ≤ b) ∧ (-1 ≤ I55 49 40 ∧ I55 49 40 ≤ 8) ∧ (0 ≤ I55 49 41 ∧ I55 49 41 ≤ 1000003) ∧ (I55 51 = Ia 51 ∧ I55 61 = I_34 61 ∧ I55 49 1 = Ia 49 1 ∧ I55 49 25 = I_34 49 25 ∧ I55 50 = Ia 50) ∧ NGi (fun s x => NX (bR c s (Ia 51 304) (Ia 51 305) (Ia 51) (I_34 61) (J_34 62)) (Ia 51) (Ia 51 306) s (FU (Ia 51 304) + 1) x) a (Ia 51 305) b (I55 49 39) sa (I55 49 41) (I55 72) (I55 49 39) (I55 49 40)) → WW X 55 [some (kR (some 49)), some (kI a), some (kI b), some (kI c), some (kI sa), none, none] [] I55 J_34 Ra Sa 0 0 := by
          intro n_55
          induction n_55 using Nat.strongRecOn with
          | ind n_55 ih_55 =>
            intro sa I55 hm_55 hv_55
            have hq_55 := Sh0_i hm_55
            clear hm_55
            obtain ⟨kI55, cI55, r304_I55, r305_I55, hv, hv1, hv2, hv3, kp_I55, hng⟩ := hv_55
            have qI55 := RX_n cI55
            have rf_I55 : FU (I55 51 304) = FU (I_49 51 304) := by rw [r304_I55]
            refine ww_aload_n hX (pc := 55) dX11_night_55 rfl ?_
            refine ww_getI hX (pc := 56) fX11_95 (by decide) (xs_49 hL) dX11_night_56 ?_
            refine ww_iload_n hX (pc := 59) dX11_night_59 rfl ?_
            refine ww_icmp_ge hX (pc := 60) (tgt := 162) dX11_night_60 (by decide) (fun h_60 => ?_) (fun h_60 => ?_)
            · simp only [w32_mod] at h_60
              refine ww_aload_n hX (pc := 162) dX11_night_162 rfl ?_
              refine ww_aload_n hX (pc := 163) dX11_night_163 rfl ?_
              refine ww_getI hX (pc := 164) fX11_95 (by decide) (xs_49 hL) dX11_night_164 ?_
              refine vI1 hX (pc := 167) sX11_109 (xs_49 hL) (c8_X11_good l0 hL cI55 ) (by decide) (Nat.le_refl 0) (Nat.le_refl 0) (Nat.le_of_ble_eq_true rfl) dX11_night_167 (fun x_167 I_167 J_167 h_167 => ?_)
              have kJ_167 : Kp 49 73 Ja J_167 := Kp_tr kJ_34 h_167.2.1
              have kI_167 : Ch [50, 61, 72] [0, 1, 25, 39, 40, 41] Ia I_167 := Ch_tr kI55 (Ch_wd h_167.1 (by decide) (by decide))
              have cI_167 : RX I_167 := h_167.2.2.1
              have qI_167 := RX_n cI_167
              have r304_I_167 : I_167 51 304 = I55 51 304 := by rw [h_167.1.1 51 (by decide) (by decide)]
              have r305_I_167 : I_167 51 305 = I55 51 305 := by rw [h_167.1.1 51 (by decide) (by decide)]
              have f39_I_167 : I_167 49 39 = I55 49 39 := h_167.1.2 39 (by decide)
              have f40_I_167 : I_167 49 40 = I55 49 40 := h_167.1.2 40 (by decide)
              have f41_I_167 : I_167 49 41 = I55 49 41 := h_167.1.2 41 (by decide)
              have rf_I_167 : FU (I_167 51 304) = FU (I55 51 304) := by rw [r304_I_167]
              refine rI hX (pc := 170) hT (Nat.le_refl 0) (Nat.le_refl 0) dX11_night_170 ?_
              exact ⟨kI_167, kJ_167, cI_167, (h_167.1.1 51 (by decide) (by decide)).trans kp_I55.1, (QF_up hqf (by rw [h_167.2.2.2.2.2.1, kp_I55.2.2.1, hq8_34]) ((h_167.1.2 25 (by decide)).trans kp_I55.2.2.2.1) (Int.le_refl _)), (fun h9 => absurd (by omega) h9), (fun _ => ⟨h_167.2.2.2.1.trans (h_167.1.2 39 (by decide)).symm, h_167.2.2.2.2.1, (h_167.1.1 50 (by decide) (by decide)).trans kp_I55.2.2.2.2, _, _, hzl, hmr, (by rw [h_167.1.1 72 (by decide) (by decide), h_167.1.2 39 (by decide), h_167.1.2 40 (by decide)]; exact NGi_end hng hv1 (by first | exact Or.inl (by omega) | exact Or.inr (by omega)))⟩)⟩
            · simp only [w32_mod] at h_60
              refine ww_aload_n hX (pc := 63) dX11_night_63 rfl ?_
              refine ww_getI hX (pc := 64) fX11_347 (by decide) (xs_49 hL) dX11_night_64 ?_
              refine ww_iconst hX (pc := 67) (x := (-1)) dX11_night_67 rfl ?_
              refine ww_icmp_ne hX (pc := 68) (tgt := 162) dX11_night_68 (by decide) (fun h_68 => ?_) (fun h_68 => ?_)
              · simp only [w32_mod] at h_68
                refine ww_aload_n hX (pc := 162) dX11_night_162 rfl ?_
                refine ww_aload_n hX (pc := 163) dX11_night_163 rfl ?_
                refine ww_getI hX (pc := 164) fX11_95 (by decide) (xs_49 hL) dX11_night_164 ?_
                refine vI1 hX (pc := 167) sX11_109 (xs_49 hL) (c8_X11_good l0 hL cI55 ) (by decide) (Nat.le_refl 0) (Nat.le_refl 0) (Nat.le_of_ble_eq_true rfl) dX11_night_167 (fun x_167 I_167 J_167 h_167 => ?_)
                have kJ_167 : Kp 49 73 Ja J_167 := Kp_tr kJ_34 h_167.2.1
                have kI_167 : Ch [50, 61, 72] [0, 1, 25, 39, 40, 41] Ia I_167 := Ch_tr kI55 (Ch_wd h_167.1 (by decide) (by decide))
                have cI_167 : RX I_167 := h_167.2.2.1
                have qI_167 := RX_n cI_167
                have r304_I_167 : I_167 51 304 = I55 51 304 := by rw [h_167.1.1 51 (by decide) (by decide)]
                have r305_I_167 : I_167 51 305 = I55 51 305 := by rw [h_167.1.1 51 (by decide) (by decide)]
                have f39_I_167 : I_167 49 39 = I55 49 39 := h_167.1.2 39 (by decide)
                have f40_I_167 : I_167 49 40 = I55 49 40 := h_167.1.2 40 (by decide)
                have f41_I_167 : I_167 49 41 = I55 49 41 := h_167.1.2 41 (by decide)
                have rf_I_167 : FU (I_167 51 304) = FU (I55 51 304) := by rw [r304_I_167]
                refine rI hX (pc := 170) hT (Nat.le_refl 0) (Nat.le_refl 0) dX11_night_170 ?_
                exact ⟨kI_167, kJ_167, cI_167, (h_167.1.1 51 (by decide) (by decide)).trans kp_I55.1, (QF_up hqf (by rw [h_167.2.2.2.2.2.1, kp_I55.2.2.1, hq8_34]) ((h_167.1.2 25 (by decide)).trans kp_I55.2.2.2.1) (Int.le_refl _)), (fun h9 => absurd (by omega) h9), (fun _ => ⟨h_167.2.2.2.1.trans (h_167.1.2 39 (by decide)).symm, h_167.2.2.2.2.1, (h_167.1.1 50 (by decide) (by decide)).trans kp_I55.2.2.2.2, _, _, hzl, hmr, (by rw [h_167.1.1 72 (by decide) (by decide), h_167.1.2 39 (by decide), h_167.1.2 40 (by decide)]; exact NGi_end hng hv1 (by first | exact Or.inl (by omega) | exact Or.inr (by omega)))⟩)⟩
              · simp only [w32_mod] at h_68
                refine ww_aload_n hX (pc := 71) dX11_night_71 rfl ?_
                refine ww_ldc2 hX (pc := 72) (x := 1103) dX11_night_72 tb_1615 ?_
                refine ww_aload_n hX (pc := 75) dX11_night_75 rfl ?_
                refine ww_getI hX (pc := 76) fX11_344 (by decide) (xs_49 hL) dX11_night_76 ?_
                refine ww_i2l hX (pc := 79) dX11_night_79 ?_
                refine ww_lmul hX (pc := 80) dX11_night_80 ?_
                refine ww_ldc2 hX (pc := 81) (x := 12345) dX11_night_81 tb_1616 ?_
                refine ww_ladd hX (pc := 84) dX11_night_84 ?_
                refine ww_ldc2 hX (pc := 85) (x := 1000003) dX11_night_85 tb_1617 ?_
                refine ww_lrem hX (pc := 88) dX11_night_88 (by decide) ?_
                refine ww_l2i hX (pc := 89) dX11_night_89 ?_
                refine ww_putI hX (pc := 90) (fun h9 => absurd h9 (by decide)) gX11_344 rfl (xs_49 hL) dX11_night_90 ?_
                refine ww_nmH (fun I_90 eI_90 => ?_)
                have kI_90 : Ch [50, 61, 72] [0, 1, 25, 39, 40, 41] Ia I_90 := by rw [eI_90]; exact Ch_f kI55 (by decide)
                have cI_90 : RX I_90 := by rw [eI_90]; exact RX_f cI55 (by decide)
                have qI_90 := RX_n cI_90
                have r304_I_90 : I_90 51 304 = I55 51 304 := by rw [eI_90, up2_off _ _ _ (by decide)]
                have r305_I_90 : I_90 51 305 = I55 51 305 := by rw [eI_90, up2_off _ _ _ (by decide)]
                have f39_I_90 : I_90 49 39 = I55 49 39 := by rw [eI_90, up2_n _ _ (Or.inr (by decide))]
                have f40_I_90 : I_90 49 40 = I55 49 40 := by rw [eI_90, up2_n _ _ (Or.inr (by decide))]
                have rf_I_90 : FU (I_90 51 304) = FU (I55 51 304) := by rw [r304_I_90]
                have kp_I_90 : I_90 51 = Ia 51 ∧ I_90 61 = I_34 61 ∧ I_90 49 1 = Ia 49 1 ∧ I_90 49 25 = I_34 49 25 ∧ I_90 50 = Ia 50 := ⟨Eq.trans (by first | rw [eI_90, up2_off _ _ _ (by decide)] | rw [eI_90, up2_n _ _ (Or.inr (by decide))]) kp_I55.1, Eq.trans (by first | rw [eI_90, up2_off _ _ _ (by decide)] | rw [eI_90, up2_n _ _ (Or.inr (by decide))]) kp_I55.2.1, Eq.trans (by first | rw [eI_90, up2_off _ _ _ (by decide)] | rw [eI_90, up2_n _ _ (Or.inr (by decide))]) kp_I55.2.2.1, Eq.trans (by first | rw [eI_90, up2_off _ _ _ (by decide)] | rw [eI_90, up2_n _ _ (Or.inr (by decide))]) kp_I55.2.2.2.1, Eq.trans (by first | rw [eI_90, up2_off _ _ _ (by decide)] | rw [eI_90, up2_n _ _ (Or.inr (by decide))]) kp_I55.2.2.2.2⟩
                have f41 : I_90 49 41 = l_rem (1103 * w32 (I55 49 41) + 12345) 1000003 := by rw [eI_90, up2_s]
                rw [w32_id (by omega) (by omega), l_rem_v (by omega) (by omega) (by decide) (by decide)] at f41
                have f72_90 : I_90 72 = I55 72 := by rw [eI_90, up2_off _ _ _ (by decide)]
                have efu90 : FU (I_90 51 304) = FU (Ia 51 304) := by rw [kp_I_90.1]
                have e305_90 : I_90 51 305 = Ia 51 305 := by rw [kp_I_90.1]
                have u55 : I55 49 40 = -1 := by omega
                refine ww_aload_n hX (pc := 93) dX11_night_93 rfl ?_
                refine ww_getI hX (pc := 94) fX11_344 (by decide) (xs_49 hL) dX11_night_94 ?_
                refine ww_aload_n hX (pc := 97) dX11_night_97 rfl ?_
                refine ww_getR hX (pc := 98) fX11_20 (by decide) (xs_49 hL) (xr_49_3 hL) dX11_night_98 ?_
                refine ww_sipush hX (pc := 101) (x := 305) dX11_night_101 (by decide) ?_
                refine ww_iald hX (pc := 104) (xs_51 hL) (by decide) (by omega) (by omega) dX11_night_104 ?_
                refine ww_toI (b := I_90 51 305) rfl ?_
                refine ww_irem hX (pc := 105) dX11_night_105 (by rw [w32_id (by omega) (by omega)]; omega) ?_
                refine ww_nmI (fun v_106 hv_106 => ?_)
                refine ww_istore hX (pc := 106) (lv' := [some (kR (some 49)), some (kI a), some (kI b), some (kI c), some (kI sa), some (kI v_106), none]) dX11_night_106 (by decide) rfl rfl ?_
                rw [i_rem_v (by omega) (by omega) (by omega) (by omega)] at hv_106
                have hx1 := Int.emod_nonneg (I_90 49 41) (show I_90 51 305 ≠ 0 by omega)
                have hx2 := Int.emod_lt_of_pos (I_90 49 41) (show 0 < I_90 51 305 by omega)
                have hv106 : v_106 = I_90 49 41 % Ia 51 305 := by rw [← e305_90]; exact hv_106
                refine ww_aload_n hX (pc := 108) dX11_night_108 rfl ?_
                refine ww_iload hX (pc := 109) dX11_night_109 rfl ?_
                refine ww_iload hX (pc := 111) dX11_night_111 rfl ?_
                refine ww_iload_n hX (pc := 113) dX11_night_113 rfl ?_
                refine vI3 hX (pc := 114) sX11_311 (xs_49 hL) (c8_X11_nextOf l0 hL cI_90 (by omega) (by omega) (by omega) (by omega) (by omega) (by omega) (by rw [kp_I_90.1]; exact hO) (by rw [kp_I_90.1]; exact hcr) (by rw [kp_I_90.1]; exact fun t ht => (hmr t ht).2)) (by decide) (Nat.le_refl 0) (Nat.le_refl 0) (Nat.le_of_ble_eq_true rfl) dX11_night_114 (fun x_114 I_114 J_114 h_114 => ?_)
                obtain ⟨rfl, rfl, h_114⟩ := h_114
                rw [kp_I_90.1, kp_I_90.2.1] at h_114
                have hxn : (fun s x => NX (bR c s (Ia 51 304) (Ia 51 305) (Ia 51) (I_34 61) (J_34 62)) (Ia 51) (Ia 51 306) s (FU (Ia 51 304) + 1) x) sa v_106 = x_114 := h_114.symm
                have hnr := NX_r (bt := bR c sa (Ia 51 304) (Ia 51 305) (Ia 51) (I_34 61) (J_34 62)) (code := Ia 51) (g := Ia 51 306) (s := sa) (N := (FU (Ia 51 304) + 1)) (x := v_106) (by omega)
                rw [← h_114] at hnr
                have hnr2 : -1 ≤ x_114 ∧ x_114 ≤ FU (Ia 51 304) := by
                  rcases hnr with h9 | h9 <;> omega
                clear hnr
                refine ww_istore hX (pc := 117) (lv' := [some (kR (some 49)), some (kI a), some (kI b), some (kI c), some (kI sa), some (kI v_106), some (kI x_114)]) dX11_night_117 (by decide) rfl rfl ?_
                refine ww_iload hX (pc := 119) dX11_night_119 rfl ?_
                refine ww_iconst hX (pc := 121) (x := (-1)) dX11_night_121 rfl ?_
                refine ww_icmp_ne hX (pc := 122) (tgt := 134) dX11_night_122 (by decide) (fun h_122 => ?_) (fun h_122 => ?_)
                · simp only [w32_mod] at h_122
                  refine ww_iload hX (pc := 134) dX11_night_134 rfl ?_
                  refine ww_istore hX (pc := 136) (lv' := [some (kR (some 49)), some (kI a), some (kI b), some (kI c), some (kI x_114), some (kI v_106), some (kI x_114)]) dX11_night_136 (by decide) rfl rfl ?_
                  refine ww_aload_n hX (pc := 138) dX11_night_138 rfl ?_
                  refine ww_getR hX (pc := 139) fX11_92 (by decide) (xs_49 hL) (xr_49_38 hL) dX11_night_139 ?_
                  refine ww_aload_n hX (pc := 142) dX11_night_142 rfl ?_
                  refine ww_getI hX (pc := 143) fX11_95 (by decide) (xs_49 hL) dX11_night_143 ?_
                  refine ww_iload hX (pc := 146) dX11_night_146 rfl ?_
                  refine ww_iast hX (pc := 148) (xs_72 hL) (by decide) (by omega) (by omega) dX11_night_148 ?_
                  refine ww_nmH (fun I_148 eI_148 => ?_)
                  have kI_148 : Ch [50, 61, 72] [0, 1, 25, 39, 40, 41] Ia I_148 := by rw [eI_148]; exact Ch_r kI_90 (by decide) (by decide)
                  have cI_148 : RX I_148 := by rw [eI_148]; exact RX_r cI_90 (by decide)
                  have qI_148 := RX_n cI_148
                  have r304_I_148 : I_148 51 304 = I_90 51 304 := by rw [eI_148, up2_off _ _ _ (by decide)]
                  have r305_I_148 : I_148 51 305 = I_90 51 305 := by rw [eI_148, up2_off _ _ _ (by decide)]
                  have f39_I_148 : I_148 49 39 = I_90 49 39 := by rw [eI_148, up2_off _ _ _ (by decide)]
                  have f40_I_148 : I_148 49 40 = I_90 49 40 := by rw [eI_148, up2_off _ _ _ (by decide)]
                  have f41_I_148 : I_148 49 41 = I_90 49 41 := by rw [eI_148, up2_off _ _ _ (by decide)]
                  have rf_I_148 : FU (I_148 51 304) = FU (I_90 51 304) := by rw [r304_I_148]
                  have kp_I_148 : I_148 51 = Ia 51 ∧ I_148 61 = I_34 61 ∧ I_148 49 1 = Ia 49 1 ∧ I_148 49 25 = I_34 49 25 ∧ I_148 50 = Ia 50 := ⟨Eq.trans (by first | rw [eI_148, up2_off _ _ _ (by decide)] | rw [eI_148, up2_n _ _ (Or.inr (by decide))]) kp_I_90.1, Eq.trans (by first | rw [eI_148, up2_off _ _ _ (by decide)] | rw [eI_148, up2_n _ _ (Or.inr (by decide))]) kp_I_90.2.1, Eq.trans (by first | rw [eI_148, up2_off _ _ _ (by decide)] | rw [eI_148, up2_n _ _ (Or.inr (by decide))]) kp_I_90.2.2.1, Eq.trans (by first | rw [eI_148, up2_off _ _ _ (by decide)] | rw [eI_148, up2_n _ _ (Or.inr (by decide))]) kp_I_90.2.2.2.1, Eq.trans (by first | rw [eI_148, up2_off _ _ _ (by decide)] | rw [eI_148, up2_n _ _ (Or.inr (by decide))]) kp_I_90.2.2.2.2⟩
                  have f72_148 : I_148 72 = up1 (I55 72) (I55 49 39).toNat x_114 := (by rw [eI_148, up2_row, f72_90, f39_I_90])
                  refine ww_aload_n hX (pc := 149) dX11_night_149 rfl ?_
                  refine ww_dupR hX (pc := 150) dX11_night_150 ?_
                  refine ww_getI hX (pc := 151) fX11_95 (by decide) (xs_49 hL) dX11_night_151 ?_
                  refine ww_iconst hX (pc := 154) (x := 1) dX11_night_154 rfl ?_
                  refine ww_iadd hX (pc := 155) dX11_night_155 ?_
                  refine ww_putI hX (pc := 156) (fun h9 => absurd h9 (by decide)) gX11_95 rfl (xs_49 hL) dX11_night_156 ?_
                  refine ww_nmH (fun I_156 eI_156 => ?_)
                  have kI_156 : Ch [50, 61, 72] [0, 1, 25, 39, 40, 41] Ia I_156 := by rw [eI_156]; exact Ch_f kI_148 (by decide)
                  have cI_156 : RX I_156 := by rw [eI_156]; exact RX_39 cI_148 (by omega) (by omega)
                  have qI_156 := RX_n cI_156
                  have r304_I_156 : I_156 51 304 = I_148 51 304 := by rw [eI_156, up2_off _ _ _ (by decide)]
                  have r305_I_156 : I_156 51 305 = I_148 51 305 := by rw [eI_156, up2_off _ _ _ (by decide)]
                  have f40_I_156 : I_156 49 40 = I_148 49 40 := by rw [eI_156, up2_n _ _ (Or.inr (by decide))]
                  have f41_I_156 : I_156 49 41 = I_148 49 41 := by rw [eI_156, up2_n _ _ (Or.inr (by decide))]
                  have rf_I_156 : FU (I_156 51 304) = FU (I_148 51 304) := by rw [r304_I_156]
                  have kp_I_156 : I_156 51 = Ia 51 ∧ I_156 61 = I_34 61 ∧ I_156 49 1 = Ia 49 1 ∧ I_156 49 25 = I_34 49 25 ∧ I_156 50 = Ia 50 := ⟨Eq.trans (by first | rw [eI_156, up2_off _ _ _ (by decide)] | rw [eI_156, up2_n _ _ (Or.inr (by decide))]) kp_I_148.1, Eq.trans (by first | rw [eI_156, up2_off _ _ _ (by decide)] | rw [eI_156, up2_n _ _ (Or.inr (by decide))]) kp_I_148.2.1, Eq.trans (by first | rw [eI_156, up2_off _ _ _ (by decide)] | rw [eI_156, up2_n _ _ (Or.inr (by decide))]) kp_I_148.2.2.1, Eq.trans (by first | rw [eI_156, up2_off _ _ _ (by decide)] | rw [eI_156, up2_n _ _ (Or.inr (by decide))]) kp_I_148.2.2.2.1, Eq.trans (by first | rw [eI_156, up2_off _ _ _ (by decide)] | rw [eI_156, up2_n _ _ (Or.inr (by decide))]) kp_I_148.2.2.2.2⟩
                  have f39b : I_156 49 39 = I_148 49 39 + 1 := by rw [eI_156, up2_s]
                  have f39c : I_156 49 39 = I55 49 39 + 1 := by omega
                  have hnc : NGi (fun s x => NX (bR c s (Ia 51 304) (Ia 51 305) (Ia 51) (I_34 61) (J_34 62)) (Ia 51) (Ia 51 306) s (FU (Ia 51 304) + 1) x) a (Ia 51 305) b (I_156 49 39) x_114 (I_156 49 41) (I_156 72) (I_156 49 39) (I_156 49 40) := by
                    have h9 := NGi_go hng u55 (by omega) (show I_156 49 41 = (I55 49 41 * 1103 + 12345) % 1000003 by omega) (show v_106 = I_156 49 41 % Ia 51 305 by rw [f41_I_156, f41_I_148]; exact hv106) hxn (by omega) (show I_156 72 = up1 (I55 72) (I55 49 39).toNat x_114 by rw [eI_156, up2_off _ _ _ (by decide), f72_148]) f39c (show I_156 49 40 = -1 by omega)
                    rw [← f39c] at h9
                    exact h9
                  refine ww_goto hX (pc := 159) (tgt := 55) dX11_night_159 (by decide) ?_
                  refine ww_sub [some (kR (some 49)), some (kI a), some (kI b), some (kI c), some (kI x_114), none, none] (aLe_s (aLe_s (aLe_s (aLe_s (aLe_s (aLe_n (aLe_n aLe_0))))))) ?_
                  exact ih_55 _ (by have hm9 := Sh0_e hq_55; omega) x_114 I_156 rfl ⟨kI_156, cI_156, by omega, by omega, by omega, by omega, by omega, by omega, (by first | exact kp_I_156 | exact kp_I_128), hnc⟩
                · simp only [w32_mod] at h_122
                  refine ww_aload_n hX (pc := 125) dX11_night_125 rfl ?_
                  refine ww_iload hX (pc := 126) dX11_night_126 rfl ?_
                  refine ww_putI hX (pc := 128) (fun h9 => absurd h9 (by decide)) gX11_347 rfl (xs_49 hL) dX11_night_128 ?_
                  refine ww_nmH (fun I_128 eI_128 => ?_)
                  have kI_128 : Ch [50, 61, 72] [0, 1, 25, 39, 40, 41] Ia I_128 := by rw [eI_128]; exact Ch_f kI_90 (by decide)
                  have cI_128 : RX I_128 := by rw [eI_128]; exact RX_f cI_90 (by decide)
                  have qI_128 := RX_n cI_128
                  have r304_I_128 : I_128 51 304 = I_90 51 304 := by rw [eI_128, up2_off _ _ _ (by decide)]
                  have r305_I_128 : I_128 51 305 = I_90 51 305 := by rw [eI_128, up2_off _ _ _ (by decide)]
                  have f39_I_128 : I_128 49 39 = I_90 49 39 := by rw [eI_128, up2_n _ _ (Or.inr (by decide))]
                  have f41_I_128 : I_128 49 41 = I_90 49 41 := by rw [eI_128, up2_n _ _ (Or.inr (by decide))]
                  have rf_I_128 : FU (I_128 51 304) = FU (I_90 51 304) := by rw [r304_I_128]
                  have kp_I_128 : I_128 51 = Ia 51 ∧ I_128 61 = I_34 61 ∧ I_128 49 1 = Ia 49 1 ∧ I_128 49 25 = I_34 49 25 ∧ I_128 50 = Ia 50 := ⟨Eq.trans (by first | rw [eI_128, up2_off _ _ _ (by decide)] | rw [eI_128, up2_n _ _ (Or.inr (by decide))]) kp_I_90.1, Eq.trans (by first | rw [eI_128, up2_off _ _ _ (by decide)] | rw [eI_128, up2_n _ _ (Or.inr (by decide))]) kp_I_90.2.1, Eq.trans (by first | rw [eI_128, up2_off _ _ _ (by decide)] | rw [eI_128, up2_n _ _ (Or.inr (by decide))]) kp_I_90.2.2.1, Eq.trans (by first | rw [eI_128, up2_off _ _ _ (by decide)] | rw [eI_128, up2_n _ _ (Or.inr (by decide))]) kp_I_90.2.2.2.1, Eq.trans (by first | rw [eI_128, up2_off _ _ _ (by decide)] | rw [eI_128, up2_n _ _ (Or.inr (by decide))]) kp_I_90.2.2.2.2⟩
                  have f40b : I_128 49 40 = v_106 := by rw [eI_128, up2_s]
                  have hnc : NGi (fun s x => NX (bR c s (Ia 51 304) (Ia 51 305) (Ia 51) (I_34 61) (J_34 62)) (Ia 51) (Ia 51 306) s (FU (Ia 51 304) + 1) x) a (Ia 51 305) b (I_128 49 39) sa (I_128 49 41) (I_128 72) (I_128 49 39) (I_128 49 40) := NGi_any (NGi_un hng u55 (by omega) (by omega) (by omega) (show I_90 49 41 = (I55 49 41 * 1103 + 12345) % 1000003 by omega) hv106 (hxn.trans (by omega)) (by rw [eI_128, up2_off _ _ _ (by decide), f72_90]) (f39_I_128.trans f39_I_90) f40b) (by omega)
                  refine ww_goto hX (pc := 131) (tgt := 55) dX11_night_131 (by decide) ?_
                  refine ww_sub [some (kR (some 49)), some (kI a), some (kI b), some (kI c), some (kI sa), none, none] (aLe_s (aLe_s (aLe_s (aLe_s (aLe_s (aLe_n (aLe_n aLe_0))))))) ?_
                  exact ih_55 _ (by have hm9 := Sh0_e hq_55; omega) sa I_128 rfl ⟨kI_128, cI_128, by omega, by omega, by omega, by omega, by omega, by omega, (by first | exact kp_I_156 | exact kp_I_128), hnc⟩
        exact hl_55 _ 0 I_49 rfl ⟨kI_49, cI_49, rfl, rfl, by omega, by omega, by omega, by omega, kp_I_49, (by rw [show I_49 49 39 = 0 by omega, show I_49 49 41 = a by omega]; exact NGi_0 rfl f40)⟩
      · simp only [w32_mod] at h_24
        refine ww_aload_n hX (pc := 27) dX11_night_27 rfl ?_
        refine ww_iconst hX (pc := 28) (x := (-1)) dX11_night_28 rfl ?_
        refine vI1 hX (pc := 29) sX11_105 (xs_49 hL) (c8_X11_refuses l0 hL hQ (by omega) (by omega)) (by decide) (Nat.le_refl 0) (Nat.le_refl 0) (Nat.le_of_ble_eq_true rfl) dX11_night_29 (fun x_29 I_29 J_29 h_29 => ?_)
        have kJ_29 : Kp 49 73 Ja J_29 := Kp_tr (Kp_rf (a := 49) (b := 73)) h_29.2.1
        have kI_29 : Ch [50, 61, 72] [0, 1, 25, 39, 40, 41] Ia I_29 := Ch_tr Ch_rf (Ch_wd h_29.1 (by decide) (by decide))
        have cI_29 : RX I_29 := h_29.2.2.1
        have qI_29 := RX_n cI_29
        have r304_I_29 : I_29 51 304 = Ia 51 304 := by rw [h_29.1.1 51 (by decide) (by decide)]
        have r305_I_29 : I_29 51 305 = Ia 51 305 := by rw [h_29.1.1 51 (by decide) (by decide)]
        have f39_I_29 : I_29 49 39 = Ia 49 39 := h_29.1.2 39 (by decide)
        have f40_I_29 : I_29 49 40 = Ia 49 40 := h_29.1.2 40 (by decide)
        have f41_I_29 : I_29 49 41 = Ia 49 41 := h_29.1.2 41 (by decide)
        have rf_I_29 : FU (I_29 51 304) = FU (Ia 51 304) := by rw [r304_I_29]
        refine rI hX (pc := 32) hT (Nat.le_refl 0) (Nat.le_refl 0) dX11_night_32 ?_
        exact ⟨kI_29, kJ_29, cI_29, h_29.1.1 51 (by decide) (by decide), (QF_kp hq (h_29.1.2 1 (by decide)) (h_29.1.2 25 (by decide)) (h_29.1.1 51 (by decide) (by decide)) (h_29.1.1 61 (by decide) (by decide)) (by rw [h_29.2.2.2.2.2.2]) (by omega)), (fun _ => ⟨h_29.2.2.2.1, h_29.2.2.2.2.1, h_29.2.2.2.2.2.1, h_29.1.2 39 (by decide), h_29.1.2 40 (by decide), h_29.1.1 72 (by decide) (by decide)⟩), (fun h9 => absurd h9 (by omega))⟩
end
section
/-- the least that was seen, and by which NEWS -/
def LEi (nx : Int → Int) (L : Nat → Int) (ne le : Int) : Prop := (ne = -1 ∧ le = 1000000000) ∨ (0 ≤ ne ∧ le = lbv L (nx ne))
theorem WS_o {nx : Int → Int} {L : Nat → Int} {own ne i : Int} (hw : ne = fW (wsF nx L own) (-1) i.toNat) (hi : 0 ≤ i) (ho : i = own) : ne = fW (wsF nx L own) (-1) (i + 1).toNat := by
  rw [fW_s _ _ hi, ← hw]
  unfold wsF
  rw [if_neg (fun h9 => h9.1 (by omega))]
theorem WS_n {nx : Int → Int} {L : Nat → Int} {own ne le lb i : Int} (hw : ne = fW (wsF nx L own) (-1) i.toNat) (hi : 0 ≤ i) (hl : LEi nx L ne le) (hb : lbv L (nx i) = lb) (hle : le ≤ lb) (hr : lb ≤ 8) : ne = fW (wsF nx L own) (-1) (i + 1).toNat := by
  rw [fW_s _ _ hi, ← hw]
  unfold wsF
  rw [show ((i.toNat : Nat) : Int) = i by omega, hb, if_neg]
  intro h9
  rcases hl with ⟨h1, h2⟩ | ⟨h1, h2⟩
  · omega
  · have h3 := h9.2
    rw [← h2] at h3
    omega
theorem WS_y {nx : Int → Int} {L : Nat → Int} {own ne le lb i : Int} (hw : ne = fW (wsF nx L own) (-1) i.toNat) (hi : 0 ≤ i) (hl : LEi nx L ne le) (hb : lbv L (nx i) = lb) (hle : lb < le) (ho : ¬ i = own) : i = fW (wsF nx L own) (-1) (i + 1).toNat ∧ LEi nx L i lb := by
  refine ⟨?_, Or.inr ⟨hi, hb.symm⟩⟩
  rw [fW_s _ _ hi, ← hw]
  unfold wsF
  rw [show ((i.toNat : Nat) : Int) = i by omega, hb, if_pos]
  refine ⟨ho, ?_⟩
  rcases hl with ⟨h1, h2⟩ | ⟨h1, h2⟩
  · exact Or.inl h1
  · exact Or.inr (by rw [← h2]; exact hle)

set_option maxHeartbeats 4000000 in
set_option maxRecDepth 20000 in
theorem c8_X11_failing0 (l0 : Launch) {Ia Ja : aI1} {Ra : aR1} {Sa : aS1} (hL : LY Ra Sa) (hQ : RX Ia) (hO : ∀ l, l < 8 → 0 ≤ Ia 51 (256 + l) ∧ Ia 51 (256 + l) ≤ 99) (hcr : ∀ t : Nat, (t : Int) ≤ FU (Ia 51 304) → -1 ≤ Ia 51 t ∧ Ia 51 t ≤ 7) (hK : ∀ s : Nat, (s : Int) ≤ FU (Ia 51 304) → Ia 51 s < Ia 51 305) {vv : Int} (hq : QF Ia Ja vv) (hv9 : vv ≤ 1000000)  : CT l0 5 0 0 mX11_failing0 [kR (some 49)] Ia Ja Ra Sa (cV (fun I' J' => Ch [61, 64] [25, 28] Ia I' ∧ Kp 49 73 Ja J' ∧ RX I' ∧ I' 51 = Ia 51 ∧ QF I' J' vv ∧ ∃ L M, zLV (Ia 51) (Ia 51 306) (FU (Ia 51 304) + 1) (Ia 51 305) (-1) L ∧ MRc (Ia 51) (Ia 51 306) (Ia 51 304) (Ia 51 305) M ∧ FLg (fun s x => NX (bR 2 s (Ia 51 304) (Ia 51 305) (Ia 51) L M) (Ia 51) (Ia 51 306) s (FU (Ia 51 304) + 1) x) L (Ia 51) (Ia 51 305) (I' 64) (I' 49 28)) Ra Sa) := by
  refine ct_in pn_X11 (Nat.le_of_ble_eq_true rfl) (fun X hX hT hIn => ?_)
  have hX : aK l0 X cX11_failing0 7 RX11 none 5 0 0 := hX
  change WW X 0 [some (kR (some 49)), none, none, none, none, none, none] [] Ia Ja Ra Sa 0 0
  have qIa := RX_s hQ
  refine ww_aload_n hX (pc := 0) dX11_failing0_0 rfl ?_
  refine vV0 hX (pc := 1) sX11_294 (xs_49 hL) (c8_X11_looks l0 hL hQ hcr hK hq hv9) (by decide) (Nat.le_refl 0) (Nat.le_refl 0) (Nat.le_of_ble_eq_true rfl) dX11_failing0_1 (fun I_1 J_1 h_1 => ?_)
  have kJ_1 : Kp 49 73 Ja J_1 := Kp_tr (Kp_rf (a := 49) (b := 73)) h_1.2.1
  have kI_1 : Ch [61, 64] [25, 28] Ia I_1 := Ch_tr Ch_rf (Ch_wd h_1.1 (by decide) (by decide))
  have cI_1 : RX I_1 := h_1.2.2.1
  have qI_1 := RX_s cI_1
  have r304_I_1 : I_1 51 304 = Ia 51 304 := by rw [h_1.1.1 51 (by decide) (by decide)]
  have r305_I_1 : I_1 51 305 = Ia 51 305 := by rw [h_1.1.1 51 (by decide) (by decide)]
  have rf_I_1 : FU (I_1 51 304) = FU (Ia 51 304) := by rw [r304_I_1]
  have e51_1 : I_1 51 = Ia 51 := h_1.2.2.2.1
  have hq9_1 := h_1.2.2.2.2.1
  have hq8_1 := h_1.1.2 1 (by decide)
  have hq7 := hq.1
  have hrt9 := h_1.2.2.2.2.2
  have hqf : QF I_1 J_1 vv := ⟨by omega, by omega, fun _ => hrt9⟩
  unfold RT at hrt9
  rw [e51_1] at hrt9
  have hzl := hrt9.1
  have hmr := hrt9.2
  clear hrt9
  have efu : FU (I_1 51 304) = FU (Ia 51 304) := by rw [e51_1]
  have kp_I_1 : I_1 51 = Ia 51 ∧ I_1 61 = I_1 61 ∧ I_1 49 1 = Ia 49 1 ∧ I_1 49 25 = I_1 49 25 ∧ I_1 50 = Ia 50 := ⟨e51_1, rfl, hq8_1, rfl, h_1.1.1 50 (by decide) (by decide)⟩
  refine ww_aload_n hX (pc := 4) dX11_failing0_4 rfl ?_
  refine ww_iconst hX (pc := 5) (x := 0) dX11_failing0_5 rfl ?_
  refine ww_putI hX (pc := 6) (fun h9 => absurd h9 (by decide)) gX11_318 rfl (xs_49 hL) dX11_failing0_6 ?_
  refine ww_nmH (fun I_6 eI_6 => ?_)
  have kI_6 : Ch [61, 64] [25, 28] Ia I_6 := by rw [eI_6]; exact Ch_f kI_1 (by decide)
  have cI_6 : RX I_6 := by rw [eI_6]; exact RX_f cI_1 (by decide)
  have qI_6 := RX_s cI_6
  have r304_I_6 : I_6 51 304 = I_1 51 304 := by rw [eI_6, up2_off _ _ _ (by decide)]
  have r305_I_6 : I_6 51 305 = I_1 51 305 := by rw [eI_6, up2_off _ _ _ (by decide)]
  have rf_I_6 : FU (I_6 51 304) = FU (I_1 51 304) := by rw [r304_I_6]
  have kp_I_6 : I_6 51 = Ia 51 ∧ I_6 61 = I_1 61 ∧ I_6 49 1 = Ia 49 1 ∧ I_6 49 25 = I_1 49 25 ∧ I_6 50 = Ia 50 := ⟨Eq.trans (by first | rw [eI_6, up2_off _ _ _ (by decide)] | rw [eI_6, up2_n _ _ (Or.inr (by decide))]) kp_I_1.1, Eq.trans (by first | rw [eI_6, up2_off _ _ _ (by decide)] | rw [eI_6, up2_n _ _ (Or.inr (by decide))]) kp_I_1.2.1, Eq.trans (by first | rw [eI_6, up2_off _ _ _ (by decide)] | rw [eI_6, up2_n _ _ (Or.inr (by decide))]) kp_I_1.2.2.1, Eq.trans (by first | rw [eI_6, up2_off _ _ _ (by decide)] | rw [eI_6, up2_n _ _ (Or.inr (by decide))]) kp_I_1.2.2.2.1, Eq.trans (by first | rw [eI_6, up2_off _ _ _ (by decide)] | rw [eI_6, up2_n _ _ (Or.inr (by decide))]) kp_I_1.2.2.2.2⟩
  have hf28 : I_6 49 28 = 0 := by rw [eI_6, up2_s]
  refine ww_iconst hX (pc := 9) (x := 0) dX11_failing0_9 rfl ?_
  refine ww_istore_n hX (pc := 10) (lv' := [some (kR (some 49)), some (kI 0), none, none, none, none, none]) dX11_failing0_10 (by decide) rfl rfl ?_
  have hl_11 : ∀ (n_11 : Nat) (sa : Int) (I11 : aI1), (10 - I11 49 28).toNat = n_11 → (Ch [61, 64] [25, 28] Ia I11 ∧ RX I11 ∧ I11 51 304 = I_6 51 304 ∧ I11 51 305 = I_6 51 305 ∧ ((sa = -1 ∧ 1 ≤ I11 49 28) ∨ (0 ≤ sa ∧ sa ≤ FU (Ia 51 304) ∧ I11 49 28 ≤ pcn sa.toNat)) ∧ 0 ≤ I11 49 28 ∧ I11 49 28 ≤ 9 ∧ (I11 51 = Ia 51 ∧ I11 61 = I_1 61 ∧ I11 49 1 = Ia 49 1 ∧ I11 49 25 = I_1 49 25 ∧ I11 50 = Ia 50) ∧ sa = cSt (fun s x => NX (bR 2 s (Ia 51 304) (Ia 51 305) (Ia 51) (I_1 61) (J_1 62)) (Ia 51) (Ia 51 306) s (FU (Ia 51 304) + 1) x) (I_1 61) (Ia 51) (Ia 51 305) (I11 49 28).toNat ∧ (∀ j : Nat, (j : Int) < I11 49 28 → I11 64 j = wst ((fun s x => NX (bR 2 s (Ia 51 304) (Ia 51 305) (Ia 51) (I_1 61) (J_1 62)) (Ia 51) (Ia 51 306) s (FU (Ia 51 304) + 1) x) (cSt (fun s x => NX (bR 2 s (Ia 51 304) (Ia 51 305) (Ia 51) (I_1 61) (J_1 62)) (Ia 51) (Ia 51 306) s (FU (Ia 51 304) + 1) x) (I_1 61) (Ia 51) (Ia 51 305) j)) (I_1 61) (Ia 51 (cSt (fun s x => NX (bR 2 s (Ia 51 304) (Ia 51 305) (Ia 51) (I_1 61) (J_1 62)) (Ia 51) (Ia 51 306) s (FU (Ia 51 304) + 1) x) (I_1 61) (Ia 51) (Ia 51 305) j).toNat) (Ia 51 305) ∧ 0 ≤ cSt (fun s x => NX (bR 2 s (Ia 51 304) (Ia 51 305) (Ia 51) (I_1 61) (J_1 62)) (Ia 51) (Ia 51 306) s (FU (Ia 51 304) + 1) x) (I_1 61) (Ia 51) (Ia 51 305) j)) → WW X 11 [some (kR (some 49)), some (kI sa), none, none, none, none, none] [] I11 J_1 Ra Sa 0 0 := by
    intro n_11
    induction n_11 using Nat.strongRecOn with
    | ind n_11 ih_11 =>
      intro sa I11 hm_11 hv_11
      have hq_11 := Sh0_i hm_11
      clear hm_11
      obtain ⟨kI11, cI11, r304_I11, r305_I11, hv, hv1, hv2, kp_I11, hsc, hfj⟩ := hv_11
      have qI11 := RX_s cI11
      have rf_I11 : FU (I11 51 304) = FU (I_6 51 304) := by rw [r304_I11]
      have hp8 := pcn_r sa.toNat
      have efu11 : FU (I11 51 304) = FU (Ia 51 304) := by rw [kp_I11.1]
      have e305_11 : I11 51 305 = Ia 51 305 := by rw [kp_I11.1]
      refine ww_iload_n hX (pc := 11) dX11_failing0_11 rfl ?_
      refine ww_iconst hX (pc := 12) (x := (-1)) dX11_failing0_12 rfl ?_
      refine ww_icmp_eq hX (pc := 13) (tgt := 143) dX11_failing0_13 (by decide) (fun h_13 => ?_) (fun h_13 => ?_)
      · simp only [w32_mod] at h_13
        refine rV hX (pc := 143) hT (Nat.le_refl 0) (Nat.le_refl 0) dX11_failing0_143 ?_
        exact ⟨kI11, kJ_1, cI11, kp_I11.1, QF_kp hqf (kp_I11.2.2.1.trans hq8_1.symm) kp_I11.2.2.2.1 (kp_I11.1.trans e51_1.symm) kp_I11.2.1 rfl (Int.le_refl _), _, _, hzl, hmr, ⟨by omega, by omega, hfj, by rw [← hsc]; omega⟩⟩
      · simp only [w32_mod] at h_13
        refine ww_ldcw hX (pc := 16) (x := 1000000000) dX11_failing0_16 tb_1457 ?_
        refine ww_istore_n hX (pc := 19) (lv' := [some (kR (some 49)), some (kI sa), some (kI 1000000000), none, none, none, none]) dX11_failing0_19 (by decide) rfl rfl ?_
        refine ww_iconst hX (pc := 20) (x := (-1)) dX11_failing0_20 rfl ?_
        refine ww_istore_n hX (pc := 21) (lv' := [some (kR (some 49)), some (kI sa), some (kI 1000000000), some (kI (-1)), none, none, none]) dX11_failing0_21 (by decide) rfl rfl ?_
        refine ww_iconst hX (pc := 22) (x := 0) dX11_failing0_22 rfl ?_
        refine ww_istore hX (pc := 23) (lv' := [some (kR (some 49)), some (kI sa), some (kI 1000000000), some (kI (-1)), some (kI 0), none, none]) dX11_failing0_23 (by decide) rfl rfl ?_
        have hl_25 : ∀ (n_25 : Nat) (le : Int) (ne : Int) (i : Int), (I11 51 305 - i).toNat = n_25 → (((0 ≤ i ∧ i ≤ I11 51 305) ∧ (-1 ≤ le ∧ le ≤ 1000000000)) ∧ ne = fW (wsF ((fun s x => NX (bR 2 s (Ia 51 304) (Ia 51 305) (Ia 51) (I_1 61) (J_1 62)) (Ia 51) (Ia 51 306) s (FU (Ia 51 304) + 1) x) sa) (I_1 61) (Ia 51 sa.toNat)) (-1) i.toNat ∧ LEi ((fun s x => NX (bR 2 s (Ia 51 304) (Ia 51 305) (Ia 51) (I_1 61) (J_1 62)) (Ia 51) (Ia 51 306) s (FU (Ia 51 304) + 1) x) sa) (I_1 61) ne le) → WW X 25 [some (kR (some 49)), some (kI sa), some (kI le), some (kI ne), some (kI i), none, none] [] I11 J_1 Ra Sa 0 0 := by
          intro n_25
          induction n_25 using Nat.strongRecOn with
          | ind n_25 ih_25 =>
            intro le ne i hm_25 hv_25
            have hq_25 := Sh0_i hm_25
            clear hm_25
            obtain ⟨hu, hws, hle⟩ := hv_25
            refine ww_iload hX (pc := 25) dX11_failing0_25 rfl ?_
            refine ww_aload_n hX (pc := 27) dX11_failing0_27 rfl ?_
            refine ww_getR hX (pc := 28) fX11_20 (by decide) (xs_49 hL) (xr_49_3 hL) dX11_failing0_28 ?_
            refine ww_sipush hX (pc := 31) (x := 305) dX11_failing0_31 (by decide) ?_
            refine ww_iald hX (pc := 34) (xs_51 hL) (by decide) (by omega) (by omega) dX11_failing0_34 ?_
            refine ww_toI (b := I11 51 305) rfl ?_
            refine ww_icmp_ge hX (pc := 35) (tgt := 112) dX11_failing0_35 (by decide) (fun h_35 => ?_) (fun h_35 => ?_)
            · simp only [w32_mod] at h_35
              refine ww_aload_n hX (pc := 112) dX11_failing0_112 rfl ?_
              refine ww_getR hX (pc := 113) fX11_68 (by decide) (xs_49 hL) (xr_49_27 hL) dX11_failing0_113 ?_
              refine ww_aload_n hX (pc := 116) dX11_failing0_116 rfl ?_
              refine ww_getI hX (pc := 117) fX11_318 (by decide) (xs_49 hL) dX11_failing0_117 ?_
              refine ww_iload_n hX (pc := 120) dX11_failing0_120 rfl ?_
              refine ww_iast hX (pc := 121) (xs_64 hL) (by decide) (by omega) (by omega) dX11_failing0_121 ?_
              refine ww_nmH (fun I_121 eI_121 => ?_)
              have kI_121 : Ch [61, 64] [25, 28] Ia I_121 := by rw [eI_121]; exact Ch_r kI11 (by decide) (by decide)
              have cI_121 : RX I_121 := by rw [eI_121]; exact RX_r cI11 (by decide)
              have qI_121 := RX_s cI_121
              have r304_I_121 : I_121 51 304 = I11 51 304 := by rw [eI_121, up2_off _ _ _ (by decide)]
              have r305_I_121 : I_121 51 305 = I11 51 305 := by rw [eI_121, up2_off _ _ _ (by decide)]
              have rf_I_121 : FU (I_121 51 304) = FU (I11 51 304) := by rw [r304_I_121]
              have kp_I_121 : I_121 51 = Ia 51 ∧ I_121 61 = I_1 61 ∧ I_121 49 1 = Ia 49 1 ∧ I_121 49 25 = I_1 49 25 ∧ I_121 50 = Ia 50 := ⟨Eq.trans (by first | rw [eI_121, up2_off _ _ _ (by decide)] | rw [eI_121, up2_n _ _ (Or.inr (by decide))]) kp_I11.1, Eq.trans (by first | rw [eI_121, up2_off _ _ _ (by decide)] | rw [eI_121, up2_n _ _ (Or.inr (by decide))]) kp_I11.2.1, Eq.trans (by first | rw [eI_121, up2_off _ _ _ (by decide)] | rw [eI_121, up2_n _ _ (Or.inr (by decide))]) kp_I11.2.2.1, Eq.trans (by first | rw [eI_121, up2_off _ _ _ (by decide)] | rw [eI_121, up2_n _ _ (Or.inr (by decide))]) kp_I11.2.2.2.1, Eq.trans (by first | rw [eI_121, up2_off _ _ _ (by decide)] | rw [eI_121, up2_n _ _ (Or.inr (by decide))]) kp_I11.2.2.2.2⟩
              have hws9 : ne = wst ((fun s x => NX (bR 2 s (Ia 51 304) (Ia 51 305) (Ia 51) (I_1 61) (J_1 62)) (Ia 51) (Ia 51 306) s (FU (Ia 51 304) + 1) x) sa) (I_1 61) (Ia 51 sa.toNat) (Ia 51 305) := by
                rw [show i = Ia 51 305 by omega] at hws
                exact hws
              have hwr9 := wst_r (nx := (fun s x => NX (bR 2 s (Ia 51 304) (Ia 51 305) (Ia 51) (I_1 61) (J_1 62)) (Ia 51) (Ia 51 306) s (FU (Ia 51 304) + 1) x) sa) (L := I_1 61) (own := (Ia 51 sa.toNat)) (K := Ia 51 305) (by omega)
              rw [← hws9] at hwr9
              have hf64_ : I_121 64 = up1 (I11 64) (I11 49 28).toNat ne := by rw [eI_121, up2_row]
              refine ww_aload_n hX (pc := 122) dX11_failing0_122 rfl ?_
              refine ww_dupR hX (pc := 123) dX11_failing0_123 ?_
              refine ww_getI hX (pc := 124) fX11_318 (by decide) (xs_49 hL) dX11_failing0_124 ?_
              refine ww_iconst hX (pc := 127) (x := 1) dX11_failing0_127 rfl ?_
              refine ww_iadd hX (pc := 128) dX11_failing0_128 ?_
              refine ww_putI hX (pc := 129) (fun h9 => absurd h9 (by decide)) gX11_318 rfl (xs_49 hL) dX11_failing0_129 ?_
              refine ww_nmH (fun I_129 eI_129 => ?_)
              have kI_129 : Ch [61, 64] [25, 28] Ia I_129 := by rw [eI_129]; exact Ch_f kI_121 (by decide)
              have cI_129 : RX I_129 := by rw [eI_129]; exact RX_f cI_121 (by decide)
              have qI_129 := RX_s cI_129
              have r304_I_129 : I_129 51 304 = I_121 51 304 := by rw [eI_129, up2_off _ _ _ (by decide)]
              have r305_I_129 : I_129 51 305 = I_121 51 305 := by rw [eI_129, up2_off _ _ _ (by decide)]
              have rf_I_129 : FU (I_129 51 304) = FU (I_121 51 304) := by rw [r304_I_129]
              have kp_I_129 : I_129 51 = Ia 51 ∧ I_129 61 = I_1 61 ∧ I_129 49 1 = Ia 49 1 ∧ I_129 49 25 = I_1 49 25 ∧ I_129 50 = Ia 50 := ⟨Eq.trans (by first | rw [eI_129, up2_off _ _ _ (by decide)] | rw [eI_129, up2_n _ _ (Or.inr (by decide))]) kp_I_121.1, Eq.trans (by first | rw [eI_129, up2_off _ _ _ (by decide)] | rw [eI_129, up2_n _ _ (Or.inr (by decide))]) kp_I_121.2.1, Eq.trans (by first | rw [eI_129, up2_off _ _ _ (by decide)] | rw [eI_129, up2_n _ _ (Or.inr (by decide))]) kp_I_121.2.2.1, Eq.trans (by first | rw [eI_129, up2_off _ _ _ (by decide)] | rw [eI_129, up2_n _ _ (Or.inr (by decide))]) kp_I_121.2.2.2.1, Eq.trans (by first | rw [eI_129, up2_off _ _ _ (by decide)] | rw [eI_129, up2_n _ _ (Or.inr (by decide))]) kp_I_121.2.2.2.2⟩
              have hf28 : I_129 49 28 = I11 49 28 + 1 := by rw [eI_129, up2_s, eI_121, up2_off _ _ _ (by decide)]
              have hf64 : I_129 64 = up1 (I11 64) (I11 49 28).toNat ne := by rw [eI_129, up2_off _ _ _ (by decide), hf64_]
              have efu129 : FU (I_129 51 304) = FU (Ia 51 304) := by rw [kp_I_129.1]
              refine ww_aload_n hX (pc := 132) dX11_failing0_132 rfl ?_
              refine ww_iload_n hX (pc := 133) dX11_failing0_133 rfl ?_
              refine ww_iload_n hX (pc := 134) dX11_failing0_134 rfl ?_
              refine ww_iconst hX (pc := 135) (x := 2) dX11_failing0_135 rfl ?_
              refine vI3 hX (pc := 136) sX11_311 (xs_49 hL) (c8_X11_nextOf l0 hL cI_129 (by omega) (by omega) (by omega) (by omega) (by omega) (by omega) (by rw [kp_I_129.1]; exact hO) (by rw [kp_I_129.1]; exact hcr) (by rw [kp_I_129.1]; exact fun t ht => (hmr t ht).2)) (by decide) (Nat.le_refl 0) (Nat.le_refl 0) (Nat.le_of_ble_eq_true rfl) dX11_failing0_136 (fun x_136 I_136 J_136 h_136 => ?_)
              obtain ⟨rfl, rfl, h_136⟩ := h_136
              rw [kp_I_129.1, kp_I_129.2.1] at h_136
              have hst : x_136 = -1 ∨ (0 ≤ x_136 ∧ x_136 ≤ FU (Ia 51 304) ∧ pcn sa.toNat + 1 ≤ pcn x_136.toNat) := by
                have hnr := NX_r (bt := bR 2 sa (Ia 51 304) (Ia 51 305) (Ia 51) (I_1 61) (J_1 62)) (code := Ia 51) (g := Ia 51 306) (s := sa) (N := (FU (Ia 51 304) + 1)) (x := ne) (by omega)
                rw [← h_136] at hnr
                rcases hnr with h9 | ⟨g1, g2, g3, g4, g5⟩
                · exact Or.inl h9
                · refine Or.inr ⟨by omega, by omega, pcn_lt g4 ?_ (by omega)⟩
                  have : ¬ x_136 = sa := fun e9 => by
                    rw [e9] at g3
                    omega
                  omega
              have hpx := pcn_r x_136.toNat
              have hsc2 : x_136 = cSt (fun s x => NX (bR 2 s (Ia 51 304) (Ia 51 305) (Ia 51) (I_1 61) (J_1 62)) (Ia 51) (Ia 51 306) s (FU (Ia 51 304) + 1) x) (I_1 61) (Ia 51) (Ia 51 305) (I_129 49 28).toNat := by
                rw [hf28, show (I11 49 28 + 1).toNat = (I11 49 28).toNat + 1 by omega]
                show x_136 = (fun s x => NX (bR 2 s (Ia 51 304) (Ia 51 305) (Ia 51) (I_1 61) (J_1 62)) (Ia 51) (Ia 51 306) s (FU (Ia 51 304) + 1) x) (cSt (fun s x => NX (bR 2 s (Ia 51 304) (Ia 51 305) (Ia 51) (I_1 61) (J_1 62)) (Ia 51) (Ia 51 306) s (FU (Ia 51 304) + 1) x) (I_1 61) (Ia 51) (Ia 51 305) (I11 49 28).toNat) (wst ((fun s x => NX (bR 2 s (Ia 51 304) (Ia 51 305) (Ia 51) (I_1 61) (J_1 62)) (Ia 51) (Ia 51 306) s (FU (Ia 51 304) + 1) x) (cSt (fun s x => NX (bR 2 s (Ia 51 304) (Ia 51 305) (Ia 51) (I_1 61) (J_1 62)) (Ia 51) (Ia 51 306) s (FU (Ia 51 304) + 1) x) (I_1 61) (Ia 51) (Ia 51 305) (I11 49 28).toNat)) (I_1 61) (Ia 51 (cSt (fun s x => NX (bR 2 s (Ia 51 304) (Ia 51 305) (Ia 51) (I_1 61) (J_1 62)) (Ia 51) (Ia 51 306) s (FU (Ia 51 304) + 1) x) (I_1 61) (Ia 51) (Ia 51 305) (I11 49 28).toNat).toNat) (Ia 51 305))
                rw [← hsc, ← hws9]
                exact h_136
              have hfj2 : ∀ j : Nat, (j : Int) < I_129 49 28 → I_129 64 j = wst ((fun s x => NX (bR 2 s (Ia 51 304) (Ia 51 305) (Ia 51) (I_1 61) (J_1 62)) (Ia 51) (Ia 51 306) s (FU (Ia 51 304) + 1) x) (cSt (fun s x => NX (bR 2 s (Ia 51 304) (Ia 51 305) (Ia 51) (I_1 61) (J_1 62)) (Ia 51) (Ia 51 306) s (FU (Ia 51 304) + 1) x) (I_1 61) (Ia 51) (Ia 51 305) j)) (I_1 61) (Ia 51 (cSt (fun s x => NX (bR 2 s (Ia 51 304) (Ia 51 305) (Ia 51) (I_1 61) (J_1 62)) (Ia 51) (Ia 51 306) s (FU (Ia 51 304) + 1) x) (I_1 61) (Ia 51) (Ia 51 305) j).toNat) (Ia 51 305) ∧ 0 ≤ cSt (fun s x => NX (bR 2 s (Ia 51 304) (Ia 51 305) (Ia 51) (I_1 61) (J_1 62)) (Ia 51) (Ia 51 306) s (FU (Ia 51 304) + 1) x) (I_1 61) (Ia 51) (Ia 51 305) j := fun j hj => by
                rw [hf64]
                by_cases e9 : j = (I11 49 28).toNat
                · rw [e9, up1_s, ← hsc]
                  exact ⟨hws9, by omega⟩
                · rw [up1_n _ _ e9]
                  exact hfj j (by omega)
              refine ww_istore_n hX (pc := 139) (lv' := [some (kR (some 49)), some (kI x_136), some (kI le), some (kI ne), some (kI i), none, none]) dX11_failing0_139 (by decide) rfl rfl ?_
              refine ww_goto hX (pc := 140) (tgt := 11) dX11_failing0_140 (by decide) ?_
              refine ww_sub [some (kR (some 49)), some (kI x_136), none, none, none, none, none] (aLe_s (aLe_s (aLe_n (aLe_n (aLe_n (aLe_n (aLe_n aLe_0))))))) ?_
              exact ih_11 _ (by have hm9 := Sh0_e hq_11; omega) x_136 I_129 rfl ⟨kI_129, cI_129, by omega, by omega, by omega, by omega, by omega, kp_I_129, hsc2, hfj2⟩
            · simp only [w32_mod] at h_35
              refine ww_iload hX (pc := 38) dX11_failing0_38 rfl ?_
              refine ww_aload_n hX (pc := 40) dX11_failing0_40 rfl ?_
              refine ww_iload_n hX (pc := 41) dX11_failing0_41 rfl ?_
              refine vI1 hX (pc := 42) sX11_126 (xs_49 hL) (c_X11_readOf l0 hL cI11 (by omega) (by omega)) (by decide) (Nat.le_refl 0) (Nat.le_refl 0) (Nat.le_of_ble_eq_true rfl) dX11_failing0_42 (fun x_42 I_42 J_42 h_42 => ?_)
              obtain ⟨rfl, rfl, h_42⟩ := h_42
              rw [kp_I11.1] at h_42
              have hc42 := hcr sa.toNat (by omega)
              refine ww_icmp_ne hX (pc := 45) (tgt := 52) dX11_failing0_45 (by decide) (fun h_45 => ?_) (fun h_45 => ?_)
              · simp only [w32_mod] at h_45
                refine ww_aload_n hX (pc := 52) dX11_failing0_52 rfl ?_
                refine ww_iload_n hX (pc := 53) dX11_failing0_53 rfl ?_
                refine ww_iload hX (pc := 54) dX11_failing0_54 rfl ?_
                refine ww_iconst hX (pc := 56) (x := 2) dX11_failing0_56 rfl ?_
                refine vI3 hX (pc := 57) sX11_311 (xs_49 hL) (c8_X11_nextOf l0 hL cI11 (by omega) (by omega) (by omega) (by omega) (by omega) (by omega) (by rw [kp_I11.1]; exact hO) (by rw [kp_I11.1]; exact hcr) (by rw [kp_I11.1]; exact fun t ht => (hmr t ht).2)) (by decide) (Nat.le_refl 0) (Nat.le_refl 0) (Nat.le_of_ble_eq_true rfl) dX11_failing0_57 (fun x_57 I_57 J_57 h_57 => ?_)
                obtain ⟨rfl, rfl, h_57⟩ := h_57
                rw [kp_I11.1, kp_I11.2.1] at h_57
                have hxn : (fun s x => NX (bR 2 s (Ia 51 304) (Ia 51 305) (Ia 51) (I_1 61) (J_1 62)) (Ia 51) (Ia 51 306) s (FU (Ia 51 304) + 1) x) sa i = x_57 := h_57.symm
                have hnr := NX_r (bt := bR 2 sa (Ia 51 304) (Ia 51 305) (Ia 51) (I_1 61) (J_1 62)) (code := Ia 51) (g := Ia 51 306) (s := sa) (N := (FU (Ia 51 304) + 1)) (x := i) (by omega)
                rw [← h_57] at hnr
                have hnr2 : -1 ≤ x_57 ∧ x_57 ≤ FU (Ia 51 304) := by
                  rcases hnr with h9 | h9 <;> omega
                clear hnr
                refine ww_istore hX (pc := 60) (lv' := [some (kR (some 49)), some (kI sa), some (kI le), some (kI ne), some (kI i), some (kI x_57), none]) dX11_failing0_60 (by decide) rfl rfl ?_
                refine ww_iload hX (pc := 62) dX11_failing0_62 rfl ?_
                refine ww_iconst hX (pc := 64) (x := (-1)) dX11_failing0_64 rfl ?_
                refine ww_icmp_ne hX (pc := 65) (tgt := 72) dX11_failing0_65 (by decide) (fun h_65 => ?_) (fun h_65 => ?_)
                · simp only [w32_mod] at h_65
                  have hlb := cI11.2.2.1 x_57.toNat (by omega)
                  have hz9 := (hzl x_57.toNat (by omega) (by omega)).2.2
                  have hp9 := pcn_r x_57.toNat
                  refine ww_aload_n hX (pc := 72) dX11_failing0_72 rfl ?_
                  refine ww_getR hX (pc := 73) fX11_55 (by decide) (xs_49 hL) (xr_49_23 hL) dX11_failing0_73 ?_
                  refine ww_iload hX (pc := 76) dX11_failing0_76 rfl ?_
                  refine ww_iald hX (pc := 78) (xs_61 hL) (by decide) (by omega) (by omega) dX11_failing0_78 ?_
                  refine ww_nmI (fun v_79 hv_79 => ?_)
                  refine ww_istore hX (pc := 79) (lv' := [some (kR (some 49)), some (kI sa), some (kI le), some (kI ne), some (kI i), some (kI x_57), some (kI v_79)]) dX11_failing0_79 (by decide) rfl rfl ?_
                  have hv79 : v_79 = I_1 61 x_57.toNat := by rw [hv_79, kp_I11.2.1]
                  have hlb9 : lbv (I_1 61) ((fun s x => NX (bR 2 s (Ia 51 304) (Ia 51 305) (Ia 51) (I_1 61) (J_1 62)) (Ia 51) (Ia 51 306) s (FU (Ia 51 304) + 1) x) sa i) = v_79 := by
                    first
                    | (rw [hxn, show x_57 = -1 by omega]; rfl)
                    | (rw [hxn]; unfold lbv; rw [if_neg (by omega), hv_79, kp_I11.2.1])
                  refine ww_iload hX (pc := 81) dX11_failing0_81 rfl ?_
                  refine ww_aload_n hX (pc := 83) dX11_failing0_83 rfl ?_
                  refine ww_iload_n hX (pc := 84) dX11_failing0_84 rfl ?_
                  refine vI1 hX (pc := 85) sX11_126 (xs_49 hL) (c_X11_readOf l0 hL cI11 (by omega) (by omega)) (by decide) (Nat.le_refl 0) (Nat.le_refl 0) (Nat.le_of_ble_eq_true rfl) dX11_failing0_85 (fun x_85 I_85 J_85 h_85 => ?_)
                  obtain ⟨rfl, rfl, h_85⟩ := h_85
                  rw [kp_I11.1] at h_85
                  refine ww_icmp_eq hX (pc := 88) (tgt := 106) dX11_failing0_88 (by decide) (fun h_88 => ?_) (fun h_88 => ?_)
                  · simp only [w32_mod] at h_88
                    refine ww_iinc hX (pc := 106) (lv' := [some (kR (some 49)), some (kI sa), some (kI le), some (kI ne), some (kI (i + 1)), some (kI x_57), some (kI v_79)]) dX11_failing0_106 rfl (by decide) rfl rfl ?_
                    refine ww_goto hX (pc := 109) (tgt := 25) dX11_failing0_109 (by decide) ?_
                    refine ww_sub [some (kR (some 49)), some (kI sa), some (kI le), some (kI ne), some (kI (i + 1)), none, none] (aLe_s (aLe_s (aLe_s (aLe_s (aLe_s (aLe_n (aLe_n aLe_0))))))) ?_
                    exact ih_25 _ (by have hm9 := Sh0_e hq_25; omega) le ne (i + 1) rfl ⟨by omega, (by first | exact hws2 | exact WS_o hws (by omega) (by omega) | exact WS_n hws (by omega) hle hlb9 (by omega) (by omega)), (by first | exact hle2 | exact hle)⟩
                  · simp only [w32_mod] at h_88
                    refine ww_iload hX (pc := 91) dX11_failing0_91 rfl ?_
                    refine ww_iload_n hX (pc := 93) dX11_failing0_93 rfl ?_
                    refine ww_icmp_lt hX (pc := 94) (tgt := 100) dX11_failing0_94 (by decide) (fun h_94 => ?_) (fun h_94 => ?_)
                    · simp only [w32_mod] at h_94
                      have hwy := WS_y hws (by omega) hle hlb9 (by omega) (by omega)
                      have hws2 := hwy.1
                      have hle2 := hwy.2
                      refine ww_iload hX (pc := 100) dX11_failing0_100 rfl ?_
                      refine ww_istore_n hX (pc := 102) (lv' := [some (kR (some 49)), some (kI sa), some (kI v_79), some (kI ne), some (kI i), some (kI x_57), some (kI v_79)]) dX11_failing0_102 (by decide) rfl rfl ?_
                      refine ww_iload hX (pc := 103) dX11_failing0_103 rfl ?_
                      refine ww_istore_n hX (pc := 105) (lv' := [some (kR (some 49)), some (kI sa), some (kI v_79), some (kI i), some (kI i), some (kI x_57), some (kI v_79)]) dX11_failing0_105 (by decide) rfl rfl ?_
                      refine ww_iinc hX (pc := 106) (lv' := [some (kR (some 49)), some (kI sa), some (kI v_79), some (kI i), some (kI (i + 1)), some (kI x_57), some (kI v_79)]) dX11_failing0_106 rfl (by decide) rfl rfl ?_
                      refine ww_goto hX (pc := 109) (tgt := 25) dX11_failing0_109 (by decide) ?_
                      refine ww_sub [some (kR (some 49)), some (kI sa), some (kI v_79), some (kI i), some (kI (i + 1)), none, none] (aLe_s (aLe_s (aLe_s (aLe_s (aLe_s (aLe_n (aLe_n aLe_0))))))) ?_
                      exact ih_25 _ (by have hm9 := Sh0_e hq_25; omega) v_79 i (i + 1) rfl ⟨by omega, (by first | exact hws2 | exact WS_o hws (by omega) (by omega) | exact WS_n hws (by omega) hle hlb9 (by omega) (by omega)), (by first | exact hle2 | exact hle)⟩
                    · simp only [w32_mod] at h_94
                      refine ww_goto hX (pc := 97) (tgt := 106) dX11_failing0_97 (by decide) ?_
                      refine ww_iinc hX (pc := 106) (lv' := [some (kR (some 49)), some (kI sa), some (kI le), some (kI ne), some (kI (i + 1)), some (kI x_57), some (kI v_79)]) dX11_failing0_106 rfl (by decide) rfl rfl ?_
                      refine ww_goto hX (pc := 109) (tgt := 25) dX11_failing0_109 (by decide) ?_
                      refine ww_sub [some (kR (some 49)), some (kI sa), some (kI le), some (kI ne), some (kI (i + 1)), none, none] (aLe_s (aLe_s (aLe_s (aLe_s (aLe_s (aLe_n (aLe_n aLe_0))))))) ?_
                      exact ih_25 _ (by have hm9 := Sh0_e hq_25; omega) le ne (i + 1) rfl ⟨by omega, (by first | exact hws2 | exact WS_o hws (by omega) (by omega) | exact WS_n hws (by omega) hle hlb9 (by omega) (by omega)), (by first | exact hle2 | exact hle)⟩
                · simp only [w32_mod] at h_65
                  refine ww_iconst hX (pc := 68) (x := (-1)) dX11_failing0_68 rfl ?_
                  refine ww_goto hX (pc := 69) (tgt := 79) dX11_failing0_69 (by decide) ?_
                  refine ww_istore hX (pc := 79) (lv' := [some (kR (some 49)), some (kI sa), some (kI le), some (kI ne), some (kI i), some (kI x_57), some (kI (-1))]) dX11_failing0_79 (by decide) rfl rfl ?_
                  have hlb9 : lbv (I_1 61) ((fun s x => NX (bR 2 s (Ia 51 304) (Ia 51 305) (Ia 51) (I_1 61) (J_1 62)) (Ia 51) (Ia 51 306) s (FU (Ia 51 304) + 1) x) sa i) = (-1) := by
                    first
                    | (rw [hxn, show x_57 = -1 by omega]; rfl)
                    | (rw [hxn]; unfold lbv; rw [if_neg (by omega), hv_79, kp_I11.2.1])
                  refine ww_iload hX (pc := 81) dX11_failing0_81 rfl ?_
                  refine ww_aload_n hX (pc := 83) dX11_failing0_83 rfl ?_
                  refine ww_iload_n hX (pc := 84) dX11_failing0_84 rfl ?_
                  refine vI1 hX (pc := 85) sX11_126 (xs_49 hL) (c_X11_readOf l0 hL cI11 (by omega) (by omega)) (by decide) (Nat.le_refl 0) (Nat.le_refl 0) (Nat.le_of_ble_eq_true rfl) dX11_failing0_85 (fun x_85 I_85 J_85 h_85 => ?_)
                  obtain ⟨rfl, rfl, h_85⟩ := h_85
                  rw [kp_I11.1] at h_85
                  refine ww_icmp_eq hX (pc := 88) (tgt := 106) dX11_failing0_88 (by decide) (fun h_88 => ?_) (fun h_88 => ?_)
                  · simp only [w32_mod] at h_88
                    refine ww_iinc hX (pc := 106) (lv' := [some (kR (some 49)), some (kI sa), some (kI le), some (kI ne), some (kI (i + 1)), some (kI x_57), some (kI (-1))]) dX11_failing0_106 rfl (by decide) rfl rfl ?_
                    refine ww_goto hX (pc := 109) (tgt := 25) dX11_failing0_109 (by decide) ?_
                    refine ww_sub [some (kR (some 49)), some (kI sa), some (kI le), some (kI ne), some (kI (i + 1)), none, none] (aLe_s (aLe_s (aLe_s (aLe_s (aLe_s (aLe_n (aLe_n aLe_0))))))) ?_
                    exact ih_25 _ (by have hm9 := Sh0_e hq_25; omega) le ne (i + 1) rfl ⟨by omega, (by first | exact hws2 | exact WS_o hws (by omega) (by omega) | exact WS_n hws (by omega) hle hlb9 (by omega) (by omega)), (by first | exact hle2 | exact hle)⟩
                  · simp only [w32_mod] at h_88
                    refine ww_iload hX (pc := 91) dX11_failing0_91 rfl ?_
                    refine ww_iload_n hX (pc := 93) dX11_failing0_93 rfl ?_
                    refine ww_icmp_lt hX (pc := 94) (tgt := 100) dX11_failing0_94 (by decide) (fun h_94 => ?_) (fun h_94 => ?_)
                    · simp only [w32_mod] at h_94
                      have hwy := WS_y hws (by omega) hle hlb9 (by omega) (by omega)
                      have hws2 := hwy.1
                      have hle2 := hwy.2
                      refine ww_iload hX (pc := 100) dX11_failing0_100 rfl ?_
                      refine ww_istore_n hX (pc := 102) (lv' := [some (kR (some 49)), some (kI sa), some (kI (-1)), some (kI ne), some (kI i), some (kI x_57), some (kI (-1))]) dX11_failing0_102 (by decide) rfl rfl ?_
                      refine ww_iload hX (pc := 103) dX11_failing0_103 rfl ?_
                      refine ww_istore_n hX (pc := 105) (lv' := [some (kR (some 49)), some (kI sa), some (kI (-1)), some (kI i), some (kI i), some (kI x_57), some (kI (-1))]) dX11_failing0_105 (by decide) rfl rfl ?_
                      refine ww_iinc hX (pc := 106) (lv' := [some (kR (some 49)), some (kI sa), some (kI (-1)), some (kI i), some (kI (i + 1)), some (kI x_57), some (kI (-1))]) dX11_failing0_106 rfl (by decide) rfl rfl ?_
                      refine ww_goto hX (pc := 109) (tgt := 25) dX11_failing0_109 (by decide) ?_
                      refine ww_sub [some (kR (some 49)), some (kI sa), some (kI (-1)), some (kI i), some (kI (i + 1)), none, none] (aLe_s (aLe_s (aLe_s (aLe_s (aLe_s (aLe_n (aLe_n aLe_0))))))) ?_
                      exact ih_25 _ (by have hm9 := Sh0_e hq_25; omega) (-1) i (i + 1) rfl ⟨by omega, (by first | exact hws2 | exact WS_o hws (by omega) (by omega) | exact WS_n hws (by omega) hle hlb9 (by omega) (by omega)), (by first | exact hle2 | exact hle)⟩
                    · simp only [w32_mod] at h_94
                      refine ww_goto hX (pc := 97) (tgt := 106) dX11_failing0_97 (by decide) ?_
                      refine ww_iinc hX (pc := 106) (lv' := [some (kR (some 49)), some (kI sa), some (kI le), some (kI ne), some (kI (i + 1)), some (kI x_57), some (kI (-1))]) dX11_failing0_106 rfl (by decide) rfl rfl ?_
                      refine ww_goto hX (pc := 109) (tgt := 25) dX11_failing0_109 (by decide) ?_
                      refine ww_sub [some (kR (some 49)), some (kI sa), some (kI le), some (kI ne), some (kI (i + 1)), none, none] (aLe_s (aLe_s (aLe_s (aLe_s (aLe_s (aLe_n (aLe_n aLe_0))))))) ?_
                      exact ih_25 _ (by have hm9 := Sh0_e hq_25; omega) le ne (i + 1) rfl ⟨by omega, (by first | exact hws2 | exact WS_o hws (by omega) (by omega) | exact WS_n hws (by omega) hle hlb9 (by omega) (by omega)), (by first | exact hle2 | exact hle)⟩
              · simp only [w32_mod] at h_45
                refine ww_iconst hX (pc := 48) (x := (-1)) dX11_failing0_48 rfl ?_
                refine ww_goto hX (pc := 49) (tgt := 60) dX11_failing0_49 (by decide) ?_
                refine ww_istore hX (pc := 60) (lv' := [some (kR (some 49)), some (kI sa), some (kI le), some (kI ne), some (kI i), some (kI (-1)), none]) dX11_failing0_60 (by decide) rfl rfl ?_
                refine ww_iload hX (pc := 62) dX11_failing0_62 rfl ?_
                refine ww_iconst hX (pc := 64) (x := (-1)) dX11_failing0_64 rfl ?_
                refine ww_icmp_ne hX (pc := 65) (tgt := 72) dX11_failing0_65 (by decide) (fun h_65 => ?_) (fun h_65 => ?_)
                · simp only [w32_mod] at h_65
                  exfalso
                  first | omega | exact h_65 rfl | exact h_65 trivial
                · simp only [w32_mod] at h_65
                  refine ww_iconst hX (pc := 68) (x := (-1)) dX11_failing0_68 rfl ?_
                  refine ww_goto hX (pc := 69) (tgt := 79) dX11_failing0_69 (by decide) ?_
                  refine ww_istore hX (pc := 79) (lv' := [some (kR (some 49)), some (kI sa), some (kI le), some (kI ne), some (kI i), some (kI (-1)), some (kI (-1))]) dX11_failing0_79 (by decide) rfl rfl ?_
                  refine ww_iload hX (pc := 81) dX11_failing0_81 rfl ?_
                  refine ww_aload_n hX (pc := 83) dX11_failing0_83 rfl ?_
                  refine ww_iload_n hX (pc := 84) dX11_failing0_84 rfl ?_
                  refine vI1 hX (pc := 85) sX11_126 (xs_49 hL) (c_X11_readOf l0 hL cI11 (by omega) (by omega)) (by decide) (Nat.le_refl 0) (Nat.le_refl 0) (Nat.le_of_ble_eq_true rfl) dX11_failing0_85 (fun x_85 I_85 J_85 h_85 => ?_)
                  obtain ⟨rfl, rfl, h_85⟩ := h_85
                  rw [kp_I11.1] at h_85
                  refine ww_icmp_eq hX (pc := 88) (tgt := 106) dX11_failing0_88 (by decide) (fun h_88 => ?_) (fun h_88 => ?_)
                  · simp only [w32_mod] at h_88
                    refine ww_iinc hX (pc := 106) (lv' := [some (kR (some 49)), some (kI sa), some (kI le), some (kI ne), some (kI (i + 1)), some (kI (-1)), some (kI (-1))]) dX11_failing0_106 rfl (by decide) rfl rfl ?_
                    refine ww_goto hX (pc := 109) (tgt := 25) dX11_failing0_109 (by decide) ?_
                    refine ww_sub [some (kR (some 49)), some (kI sa), some (kI le), some (kI ne), some (kI (i + 1)), none, none] (aLe_s (aLe_s (aLe_s (aLe_s (aLe_s (aLe_n (aLe_n aLe_0))))))) ?_
                    exact ih_25 _ (by have hm9 := Sh0_e hq_25; omega) le ne (i + 1) rfl ⟨by omega, (by first | exact hws2 | exact WS_o hws (by omega) (by omega) | exact WS_n hws (by omega) hle hlb9 (by omega) (by omega)), (by first | exact hle2 | exact hle)⟩
                  · simp only [w32_mod] at h_88
                    exfalso
                    first | omega | (simp only [h_42] at *; omega)
        exact hl_25 _ 1000000000 (-1) 0 rfl ⟨by omega, rfl, Or.inl ⟨rfl, rfl⟩⟩
  exact hl_11 _ 0 I_6 rfl ⟨kI_6, cI_6, rfl, rfl, Or.inr ⟨by omega, by omega, by have := pcn_r (Int.toNat 0); omega⟩, by omega, by omega, kp_I_6, (by rw [hf28]; rfl), (fun j hj => absurd hj (by omega))⟩
set_option maxHeartbeats 4000000 in
set_option maxRecDepth 20000 in
theorem c8_X11_failing (l0 : Launch) {Ia Ja : aI1} {Ra : aR1} {Sa : aS1} (hL : LY Ra Sa) (hQ : RX Ia) {a : Int} (ha0 : -2147483648 ≤ a) (ha1 : a < 2147483648) (hO : ∀ l, l < 8 → 0 ≤ Ia 51 (256 + l) ∧ Ia 51 (256 + l) ≤ 99) (hcr : ∀ t : Nat, (t : Int) ≤ FU (Ia 51 304) → -1 ≤ Ia 51 t ∧ Ia 51 t ≤ 7) (hK : ∀ s : Nat, (s : Int) ≤ FU (Ia 51 304) → Ia 51 s < Ia 51 305) {vv : Int} (hq : QF Ia Ja vv) (hv9 : vv ≤ 1000000)  : CT l0 6 0 0 mX11_failing [kR (some 49), kI a] Ia Ja Ra Sa (cI (fun x I' J' => Ch [61, 64] [25, 28] Ia I' ∧ Kp 49 73 Ja J' ∧ RX I' ∧ I' 51 = Ia 51 ∧ QF I' J' vv ∧ ∃ L M F n, zLV (Ia 51) (Ia 51 306) (FU (Ia 51 304) + 1) (Ia 51 305) (-1) L ∧ MRc (Ia 51) (Ia 51 306) (Ia 51 304) (Ia 51 305) M ∧ FLg (fun s x => NX (bR 2 s (Ia 51 304) (Ia 51 305) (Ia 51) L M) (Ia 51) (Ia 51 306) s (FU (Ia 51 304) + 1) x) L (Ia 51) (Ia 51 305) F n ∧ (a = -1 → x = n) ∧ (0 ≤ a → a < n → x = F a.toNat) ∧ (a < -1 → x = -1) ∧ (n ≤ a → x = -1)) Ra Sa) := by
  refine ct_in pn_X11 (Nat.le_of_ble_eq_true rfl) (fun X hX hT hIn => ?_)
  have hX : aK l0 X cX11_failing 2 RX11 (some .int) 6 0 0 := hX
  change WW X 0 [some (kR (some 49)), some (kI a)] [] Ia Ja Ra Sa 0 0
  have qIa := RX_o hQ
  refine ww_aload_n hX (pc := 0) dX11_failing_0 rfl ?_
  refine vV0 hX (pc := 1) sX11_321 (xs_49 hL) (c8_X11_failing0 l0 hL hQ hO hcr hK hq hv9) (by decide) (Nat.le_refl 0) (Nat.le_refl 0) (Nat.le_of_ble_eq_true rfl) dX11_failing_1 (fun I_1 J_1 h_1 => ?_)
  have kJ_1 : Kp 49 73 Ja J_1 := Kp_tr (Kp_rf (a := 49) (b := 73)) h_1.2.1
  have kI_1 : Ch [61, 64] [25, 28] Ia I_1 := Ch_tr Ch_rf (Ch_wd h_1.1 (by decide) (by decide))
  have cI_1 : RX I_1 := h_1.2.2.1
  have qI_1 := RX_o cI_1
  have r304_I_1 : I_1 51 304 = Ia 51 304 := by rw [h_1.1.1 51 (by decide) (by decide)]
  have r305_I_1 : I_1 51 305 = Ia 51 305 := by rw [h_1.1.1 51 (by decide) (by decide)]
  have rf_I_1 : FU (I_1 51 304) = FU (Ia 51 304) := by rw [r304_I_1]
  obtain ⟨L1, M1, z1, m1, fl1⟩ := h_1.2.2.2.2.2
  have e51_1 := h_1.2.2.2.1
  have qf1 := h_1.2.2.2.2.1
  have n1a := fl1.1
  have n1b := fl1.2.1
  clear h_1
  refine ww_iload_n hX (pc := 4) dX11_failing_4 rfl ?_
  refine ww_iconst hX (pc := 5) (x := (-1)) dX11_failing_5 rfl ?_
  refine ww_icmp_ne hX (pc := 6) (tgt := 16) dX11_failing_6 (by decide) (fun h_6 => ?_) (fun h_6 => ?_)
  · simp only [w32_mod] at h_6
    refine ww_iload_n hX (pc := 16) dX11_failing_16 rfl ?_
    refine ww_iconst hX (pc := 17) (x := 0) dX11_failing_17 rfl ?_
    refine ww_aload_n hX (pc := 18) dX11_failing_18 rfl ?_
    refine ww_getI hX (pc := 19) fX11_318 (by decide) (xs_49 hL) dX11_failing_19 ?_
    refine ww_iconst hX (pc := 22) (x := 1) dX11_failing_22 rfl ?_
    refine ww_isub hX (pc := 23) dX11_failing_23 ?_
    refine sI3 hX (pc := 24) sX11_101 (c_X11_lies l0 (by omega) (by omega) (by omega) (by omega) (by omega) (by omega)) (by decide) (Nat.le_refl 0) (Nat.le_refl 0) (Nat.le_of_ble_eq_true rfl) dX11_failing_24 (fun x_24 I_24 J_24 h_24 => ?_)
    obtain ⟨rfl, rfl, h_24⟩ := h_24
    refine ww_if_eq hX (pc := 27) (tgt := 39) dX11_failing_27 (by decide) (fun h_27 => ?_) (fun h_27 => ?_)
    · simp only [w32_mod] at h_27
      refine ww_iconst hX (pc := 39) (x := (-1)) dX11_failing_39 rfl ?_
      refine rI hX (pc := 40) hT (Nat.le_refl 0) (Nat.le_refl 0) dX11_failing_40 ?_
      exact ⟨kI_1, kJ_1, cI_1, e51_1, qf1, L1, M1, I_1 64, I_1 49 28, z1, m1, fl1, (fun h9 => by first | rfl | (exfalso; omega)), (fun h9 h8 => by first | rfl | (exfalso; omega)), (fun h9 => by first | rfl | (exfalso; omega)), (fun h9 => by first | rfl | (exfalso; omega))⟩
    · simp only [w32_mod] at h_27
      have k_24 := h_24.2.mp (by omega)
      clear h_24
      refine ww_aload_n hX (pc := 30) dX11_failing_30 rfl ?_
      refine ww_getR hX (pc := 31) fX11_68 (by decide) (xs_49 hL) (xr_49_27 hL) dX11_failing_31 ?_
      refine ww_iload_n hX (pc := 34) dX11_failing_34 rfl ?_
      refine ww_iald hX (pc := 35) (xs_64 hL) (by decide) (by omega) (by omega) dX11_failing_35 ?_
      refine ww_goto hX (pc := 36) (tgt := 40) dX11_failing_36 (by decide) ?_
      refine rI hX (pc := 40) hT (Nat.le_refl 0) (Nat.le_refl 0) dX11_failing_40 ?_
      exact ⟨kI_1, kJ_1, cI_1, e51_1, qf1, L1, M1, I_1 64, I_1 49 28, z1, m1, fl1, (fun h9 => by first | rfl | (exfalso; omega)), (fun h9 h8 => by first | rfl | (exfalso; omega)), (fun h9 => by first | rfl | (exfalso; omega)), (fun h9 => by first | rfl | (exfalso; omega))⟩
  · simp only [w32_mod] at h_6
    refine ww_aload_n hX (pc := 9) dX11_failing_9 rfl ?_
    refine ww_getI hX (pc := 10) fX11_318 (by decide) (xs_49 hL) dX11_failing_10 ?_
    refine ww_goto hX (pc := 13) (tgt := 40) dX11_failing_13 (by decide) ?_
    refine rI hX (pc := 40) hT (Nat.le_refl 0) (Nat.le_refl 0) dX11_failing_40 ?_
    exact ⟨kI_1, kJ_1, cI_1, e51_1, qf1, L1, M1, I_1 64, I_1 49 28, z1, m1, fl1, (fun h9 => by first | rfl | (exfalso; omega)), (fun h9 h8 => by first | rfl | (exfalso; omega)), (fun h9 => by first | rfl | (exfalso; omega)), (fun h9 => by first | rfl | (exfalso; omega))⟩
end
section
set_option maxHeartbeats 4000000 in
set_option maxRecDepth 20000 in
theorem c8_X11_burnt (l0 : Launch) {Ia Ja : aI1} {Ra : aR1} {Sa : aS1} (hL : LY Ra Sa) (hQ : RX Ia)  : CT l0 1 0 0 mX11_burnt [kR (some 49)] Ia Ja Ra Sa (cI (fun x I' J' => Ia = I' ∧ Ja = J' ∧ x = oilF (Ia 51) (Ia 51 307) (Ia 51 304).toNat) Ra Sa) := by
  refine ct_in pn_X11 (Nat.le_of_ble_eq_true rfl) (fun X hX hT hIn => ?_)
  have hX : aK l0 X cX11_burnt 1 RX11 (some .int) 1 0 0 := hX
  change WW X 0 [some (kR (some 49))] [] Ia Ja Ra Sa 0 0
  have qIa := RX_o hQ
  refine ww_aload_n hX (pc := 0) dX11_burnt_0 rfl ?_
  refine ww_aload_n hX (pc := 1) dX11_burnt_1 rfl ?_
  refine ww_getR hX (pc := 2) fX11_20 (by decide) (xs_49 hL) (xr_49_3 hL) dX11_burnt_2 ?_
  refine ww_sipush hX (pc := 5) (x := 307) dX11_burnt_5 (by decide) ?_
  refine ww_iald hX (pc := 8) (xs_51 hL) (by decide) (by omega) (by omega) dX11_burnt_8 ?_
  refine ww_toI (b := Ia 51 307) rfl ?_
  refine vI1 hX (pc := 9) sX11_301 (xs_49 hL) (c_X11_oilOf l0 hL hQ ) (by decide) (Nat.le_refl 0) (Nat.le_refl 0) (Nat.le_of_ble_eq_true rfl) dX11_burnt_9 (fun x_9 I_9 J_9 h_9 => ?_)
  obtain ⟨rfl, rfl, h_9⟩ := h_9
  refine rI hX (pc := 12) hT (Nat.le_refl 0) (Nat.le_refl 0) dX11_burnt_12 ?_
  exact ⟨rfl, rfl, h_9⟩
set_option maxHeartbeats 4000000 in
set_option maxRecDepth 20000 in
theorem c8_X11_log (l0 : Launch) {Ia Ja : aI1} {Ra : aR1} {Sa : aS1} (hL : LY Ra Sa) (hQ : RX Ia) {a : Int} (ha0 : -2147483648 ≤ a) (ha1 : a < 2147483648)  : CT l0 1 0 0 mX11_log [kR (some 49), kI a] Ia Ja Ra Sa (cI (fun x I' J' => Ia = I' ∧ Ja = J' ∧ x = if a = -1 then Ia 51 307 else if 0 ≤ a ∧ a < Ia 51 308 then Ia 51 (264 + a).toNat else -1) Ra Sa) := by
  refine ct_in pn_X11 (Nat.le_of_ble_eq_true rfl) (fun X hX hT hIn => ?_)
  have hX : aK l0 X cX11_log 2 RX11 (some .int) 1 0 0 := hX
  change WW X 0 [some (kR (some 49)), some (kI a)] [] Ia Ja Ra Sa 0 0
  have qIa := RX_o hQ
  refine ww_iload_n hX (pc := 0) dX11_log_0 rfl ?_
  refine ww_iconst hX (pc := 1) (x := (-1)) dX11_log_1 rfl ?_
  refine ww_icmp_ne hX (pc := 2) (tgt := 16) dX11_log_2 (by decide) (fun h_2 => ?_) (fun h_2 => ?_)
  · simp only [w32_mod] at h_2
    refine ww_iload_n hX (pc := 16) dX11_log_16 rfl ?_
    refine ww_iconst hX (pc := 17) (x := 0) dX11_log_17 rfl ?_
    refine ww_aload_n hX (pc := 18) dX11_log_18 rfl ?_
    refine ww_getR hX (pc := 19) fX11_20 (by decide) (xs_49 hL) (xr_49_3 hL) dX11_log_19 ?_
    refine ww_sipush hX (pc := 22) (x := 308) dX11_log_22 (by decide) ?_
    refine ww_iald hX (pc := 25) (xs_51 hL) (by decide) (by omega) (by omega) dX11_log_25 ?_
    refine ww_toI (b := Ia 51 308) rfl ?_
    refine ww_iconst hX (pc := 26) (x := 1) dX11_log_26 rfl ?_
    refine ww_isub hX (pc := 27) dX11_log_27 ?_
    refine sI3 hX (pc := 28) sX11_101 (c_X11_lies l0 (by omega) (by omega) (by omega) (by omega) (by omega) (by omega)) (by decide) (Nat.le_refl 0) (Nat.le_refl 0) (Nat.le_of_ble_eq_true rfl) dX11_log_28 (fun x_28 I_28 J_28 h_28 => ?_)
    obtain ⟨rfl, rfl, h_28⟩ := h_28
    refine ww_if_eq hX (pc := 31) (tgt := 47) dX11_log_31 (by decide) (fun h_31 => ?_) (fun h_31 => ?_)
    · simp only [w32_mod] at h_31
      refine ww_iconst hX (pc := 47) (x := (-1)) dX11_log_47 rfl ?_
      refine rI hX (pc := 48) hT (Nat.le_refl 0) (Nat.le_refl 0) dX11_log_48 ?_
      exact ⟨rfl, rfl, (by (repeat (first | rw [if_pos (by omega)] | rw [if_neg (by omega)])) <;> rfl)⟩
    · simp only [w32_mod] at h_31
      have k_28 := h_28.2.mp (by omega)
      clear h_28
      refine ww_aload_n hX (pc := 34) dX11_log_34 rfl ?_
      refine ww_getR hX (pc := 35) fX11_20 (by decide) (xs_49 hL) (xr_49_3 hL) dX11_log_35 ?_
      refine ww_sipush hX (pc := 38) (x := 264) dX11_log_38 (by decide) ?_
      refine ww_iload_n hX (pc := 41) dX11_log_41 rfl ?_
      refine ww_iadd hX (pc := 42) dX11_log_42 ?_
      refine ww_iald hX (pc := 43) (xs_51 hL) (by decide) (by omega) (by omega) dX11_log_43 ?_
      refine ww_goto hX (pc := 44) (tgt := 48) dX11_log_44 (by decide) ?_
      refine rI hX (pc := 48) hT (Nat.le_refl 0) (Nat.le_refl 0) dX11_log_48 ?_
      exact ⟨rfl, rfl, (by (repeat (first | rw [if_pos (by omega)] | rw [if_neg (by omega)])) <;> rfl)⟩
  · simp only [w32_mod] at h_2
    refine ww_aload_n hX (pc := 5) dX11_log_5 rfl ?_
    refine ww_getR hX (pc := 6) fX11_20 (by decide) (xs_49 hL) (xr_49_3 hL) dX11_log_6 ?_
    refine ww_sipush hX (pc := 9) (x := 307) dX11_log_9 (by decide) ?_
    refine ww_iald hX (pc := 12) (xs_51 hL) (by decide) (by omega) (by omega) dX11_log_12 ?_
    refine ww_toI (b := Ia 51 307) rfl ?_
    refine ww_goto hX (pc := 13) (tgt := 48) dX11_log_13 (by decide) ?_
    refine rI hX (pc := 48) hT (Nat.le_refl 0) (Nat.le_refl 0) dX11_log_48 ?_
    exact ⟨rfl, rfl, (by (repeat (first | rw [if_pos (by omega)] | rw [if_neg (by omega)])) <;> rfl)⟩
set_option maxHeartbeats 4000000 in
set_option maxRecDepth 20000 in
theorem c8_X11_drawn (l0 : Launch) {Ia Ja : aI1} {Ra : aR1} {Sa : aS1} (hL : LY Ra Sa) (hQ : RX Ia) {a : Int} (ha0 : -2147483648 ≤ a) (ha1 : a < 2147483648)  : CT l0 1 0 0 mX11_drawn [kR (some 49), kI a] Ia Ja Ra Sa (cI (fun x I' J' => Ia = I' ∧ Ja = J' ∧ x = if Ia 49 39 = -1 then -1 else if a = -1 then Ia 49 40 else if 0 ≤ a ∧ a < Ia 49 39 then Ia 72 a.toNat else -1) Ra Sa) := by
  refine ct_in pn_X11 (Nat.le_of_ble_eq_true rfl) (fun X hX hT hIn => ?_)
  have hX : aK l0 X cX11_drawn 2 RX11 (some .int) 1 0 0 := hX
  change WW X 0 [some (kR (some 49)), some (kI a)] [] Ia Ja Ra Sa 0 0
  have qIa := RX_o hQ
  refine ww_aload_n hX (pc := 0) dX11_drawn_0 rfl ?_
  refine ww_getI hX (pc := 1) fX11_95 (by decide) (xs_49 hL) dX11_drawn_1 ?_
  refine ww_iconst hX (pc := 4) (x := (-1)) dX11_drawn_4 rfl ?_
  refine ww_icmp_ne hX (pc := 5) (tgt := 12) dX11_drawn_5 (by decide) (fun h_5 => ?_) (fun h_5 => ?_)
  · simp only [w32_mod] at h_5
    refine ww_iload_n hX (pc := 12) dX11_drawn_12 rfl ?_
    refine ww_iconst hX (pc := 13) (x := (-1)) dX11_drawn_13 rfl ?_
    refine ww_icmp_ne hX (pc := 14) (tgt := 24) dX11_drawn_14 (by decide) (fun h_14 => ?_) (fun h_14 => ?_)
    · simp only [w32_mod] at h_14
      refine ww_iload_n hX (pc := 24) dX11_drawn_24 rfl ?_
      refine ww_iconst hX (pc := 25) (x := 0) dX11_drawn_25 rfl ?_
      refine ww_aload_n hX (pc := 26) dX11_drawn_26 rfl ?_
      refine ww_getI hX (pc := 27) fX11_95 (by decide) (xs_49 hL) dX11_drawn_27 ?_
      refine ww_iconst hX (pc := 30) (x := 1) dX11_drawn_30 rfl ?_
      refine ww_isub hX (pc := 31) dX11_drawn_31 ?_
      refine sI3 hX (pc := 32) sX11_101 (c_X11_lies l0 (by omega) (by omega) (by omega) (by omega) (by omega) (by omega)) (by decide) (Nat.le_refl 0) (Nat.le_refl 0) (Nat.le_of_ble_eq_true rfl) dX11_drawn_32 (fun x_32 I_32 J_32 h_32 => ?_)
      obtain ⟨rfl, rfl, h_32⟩ := h_32
      refine ww_if_eq hX (pc := 35) (tgt := 47) dX11_drawn_35 (by decide) (fun h_35 => ?_) (fun h_35 => ?_)
      · simp only [w32_mod] at h_35
        refine ww_iconst hX (pc := 47) (x := (-1)) dX11_drawn_47 rfl ?_
        refine rI hX (pc := 48) hT (Nat.le_refl 0) (Nat.le_refl 0) dX11_drawn_48 ?_
        exact ⟨rfl, rfl, (by (repeat (first | rw [if_pos (by omega)] | rw [if_neg (by omega)])) <;> rfl)⟩
      · simp only [w32_mod] at h_35
        have k_32 := h_32.2.mp (by omega)
        clear h_32
        refine ww_aload_n hX (pc := 38) dX11_drawn_38 rfl ?_
        refine ww_getR hX (pc := 39) fX11_92 (by decide) (xs_49 hL) (xr_49_38 hL) dX11_drawn_39 ?_
        refine ww_iload_n hX (pc := 42) dX11_drawn_42 rfl ?_
        refine ww_iald hX (pc := 43) (xs_72 hL) (by decide) (by omega) (by omega) dX11_drawn_43 ?_
        refine ww_goto hX (pc := 44) (tgt := 48) dX11_drawn_44 (by decide) ?_
        refine rI hX (pc := 48) hT (Nat.le_refl 0) (Nat.le_refl 0) dX11_drawn_48 ?_
        exact ⟨rfl, rfl, (by (repeat (first | rw [if_pos (by omega)] | rw [if_neg (by omega)])) <;> rfl)⟩
    · simp only [w32_mod] at h_14
      refine ww_aload_n hX (pc := 17) dX11_drawn_17 rfl ?_
      refine ww_getI hX (pc := 18) fX11_347 (by decide) (xs_49 hL) dX11_drawn_18 ?_
      refine ww_goto hX (pc := 21) (tgt := 48) dX11_drawn_21 (by decide) ?_
      refine rI hX (pc := 48) hT (Nat.le_refl 0) (Nat.le_refl 0) dX11_drawn_48 ?_
      exact ⟨rfl, rfl, (by (repeat (first | rw [if_pos (by omega)] | rw [if_neg (by omega)])) <;> rfl)⟩
  · simp only [w32_mod] at h_5
    refine ww_iconst hX (pc := 8) (x := (-1)) dX11_drawn_8 rfl ?_
    refine ww_goto hX (pc := 9) (tgt := 48) dX11_drawn_9 (by decide) ?_
    refine rI hX (pc := 48) hT (Nat.le_refl 0) (Nat.le_refl 0) dX11_drawn_48 ?_
    exact ⟨rfl, rfl, (by (repeat (first | rw [if_pos (by omega)] | rw [if_neg (by omega)])) <;> rfl)⟩
set_option maxHeartbeats 4000000 in
set_option maxRecDepth 20000 in
theorem c8_X11_dawn (l0 : Launch) {Ia Ja : aI1} {Ra : aR1} {Sa : aS1} (hL : LY Ra Sa) (hQ : RX Ia)  : CT l0 1 0 0 mX11_dawn [kR (some 49)] Ia Ja Ra Sa (cI (fun x I' J' => Ch [51] [1] Ia I' ∧ Kp 49 73 Ja J' ∧ RX I' ∧ x = pcn (Ia 51 307).toNat ∧ I' 51 = up1 (up1 (Ia 51) 307 0) 308 0 ∧ I' 49 1 = Ia 49 1 + 1 ∧ J' = Ja) Ra Sa) := by
  refine ct_in pn_X11 (Nat.le_of_ble_eq_true rfl) (fun X hX hT hIn => ?_)
  have hX : aK l0 X cX11_dawn 2 RX11 (some .int) 1 0 0 := hX
  change WW X 0 [some (kR (some 49)), none] [] Ia Ja Ra Sa 0 0
  have qIa := RX_o hQ
  refine ww_aload_n hX (pc := 0) dX11_dawn_0 rfl ?_
  refine ww_getR hX (pc := 1) fX11_20 (by decide) (xs_49 hL) (xr_49_3 hL) dX11_dawn_1 ?_
  refine ww_sipush hX (pc := 4) (x := 307) dX11_dawn_4 (by decide) ?_
  refine ww_iald hX (pc := 7) (xs_51 hL) (by decide) (by omega) (by omega) dX11_dawn_7 ?_
  refine ww_toI (b := Ia 51 307) rfl ?_
  refine sI1 hX (pc := 8) sX11_259 (c7_X11_ones l0 (by omega) (by omega)) (by decide) (Nat.le_refl 0) (Nat.le_refl 0) (Nat.le_of_ble_eq_true rfl) dX11_dawn_8 (fun x_8 I_8 J_8 h_8 => ?_)
  obtain ⟨rfl, rfl, h_8⟩ := h_8
  refine ww_istore_n hX (pc := 11) (lv' := [some (kR (some 49)), some (kI x_8)]) dX11_dawn_11 (by decide) rfl rfl ?_
  refine ww_aload_n hX (pc := 12) dX11_dawn_12 rfl ?_
  refine ww_getR hX (pc := 13) fX11_20 (by decide) (xs_49 hL) (xr_49_3 hL) dX11_dawn_13 ?_
  refine ww_sipush hX (pc := 16) (x := 307) dX11_dawn_16 (by decide) ?_
  refine ww_iconst hX (pc := 19) (x := 0) dX11_dawn_19 rfl ?_
  refine ww_iast hX (pc := 20) (xs_51 hL) (by decide) (by omega) (by omega) dX11_dawn_20 ?_
  refine ww_nmH (fun I_20 eI_20 => ?_)
  have kI_20 : Ch [51] [1] Ia I_20 := by rw [eI_20]; exact Ch_r Ch_rf (by decide) (by decide)
  have cI_20 : RX I_20 := by rw [eI_20]; exact RX_307 hQ (by omega) (by omega)
  have qI_20 := RX_o cI_20
  have g20 : I_20 51 = up1 (Ia 51) 307 0 := by rw [eI_20, up2_row]; rfl
  have v20 : I_20 49 1 = Ia 49 1 := by rw [eI_20, up2_off _ _ _ (by decide)]
  refine ww_aload_n hX (pc := 21) dX11_dawn_21 rfl ?_
  refine ww_getR hX (pc := 22) fX11_20 (by decide) (xs_49 hL) (xr_49_3 hL) dX11_dawn_22 ?_
  refine ww_sipush hX (pc := 25) (x := 308) dX11_dawn_25 (by decide) ?_
  refine ww_iconst hX (pc := 28) (x := 0) dX11_dawn_28 rfl ?_
  refine ww_iast hX (pc := 29) (xs_51 hL) (by decide) (by omega) (by omega) dX11_dawn_29 ?_
  refine ww_nmH (fun I_29 eI_29 => ?_)
  have kI_29 : Ch [51] [1] Ia I_29 := by rw [eI_29]; exact Ch_r kI_20 (by decide) (by decide)
  have cI_29 : RX I_29 := by rw [eI_29]; exact RX_308 cI_20 (by omega) (by omega)
  have qI_29 := RX_o cI_29
  have r307_I_29 : I_29 51 307 = I_20 51 307 := by rw [eI_29, up2_n _ _ (Or.inr (by decide))]
  have g29 : I_29 51 = up1 (up1 (Ia 51) 307 0) 308 0 := by rw [eI_29, up2_row, g20]; rfl
  have v29 : I_29 49 1 = Ia 49 1 := by rw [eI_29, up2_off _ _ _ (by decide), v20]
  refine ww_aload_n hX (pc := 30) dX11_dawn_30 rfl ?_
  refine ww_dupR hX (pc := 31) dX11_dawn_31 ?_
  refine ww_getI hX (pc := 32) fX11_11 (by decide) (xs_49 hL) dX11_dawn_32 ?_
  refine ww_iconst hX (pc := 35) (x := 1) dX11_dawn_35 rfl ?_
  refine ww_iadd hX (pc := 36) dX11_dawn_36 ?_
  refine ww_putI hX (pc := 37) (fun h9 => absurd h9 (by decide)) gX11_11 rfl (xs_49 hL) dX11_dawn_37 ?_
  refine ww_nmH (fun I_37 eI_37 => ?_)
  have kI_37 : Ch [51] [1] Ia I_37 := by rw [eI_37]; exact Ch_f kI_29 (by decide)
  have cI_37 : RX I_37 := by rw [eI_37]; exact RX_f cI_29 (by decide)
  have qI_37 := RX_o cI_37
  have r307_I_37 : I_37 51 307 = I_29 51 307 := by rw [eI_37, up2_off _ _ _ (by decide)]
  have g37 : I_37 51 = I_29 51 := by rw [eI_37, up2_off _ _ _ (by decide)]
  have v37 : I_37 49 1 = I_29 49 1 + 1 := by rw [eI_37, up2_s]
  refine ww_iload_n hX (pc := 40) dX11_dawn_40 rfl ?_
  refine rI hX (pc := 41) hT (Nat.le_refl 0) (Nat.le_refl 0) dX11_dawn_41 ?_
  exact ⟨kI_37, (Kp_rf (a := 49) (b := 73)), cI_37, h_8, g37.trans g29, (by rw [v37, v29]), rfl⟩
end
section
/-! NIGHTS, JUDGED TRAILS and FAILING of class and reference are alike -/
def LK9 (m n K g : Int) (code k o o2 L T L' M : Nat → Int) : Prop := (0 ≤ m ∧ m ≤ 3) ∧ (1 ≤ n ∧ n ≤ 8) ∧ 2 ≤ K ∧ (∀ t : Nat, (t : Int) < FU n + 1 → code t = k t) ∧ (m = 1 → ∀ t : Nat, (t : Int) ≤ FU n → o t = oilS o2 t n.toNat) ∧ (∀ l, l < 8 → o2 l = k (256 + l)) ∧ (m = 2 → zLV code g (FU n + 1) K (-1) L) ∧ (m = 3 → MTc code g n K T) ∧ zLV k g (FU n + 1) K (-1) L' ∧ MRc k g n K M
theorem NX_l9 {m n K g s x : Int} {code k o o2 L T L' M : Nat → Int} (h : LK9 m n K g code k o o2 L T L' M) (hs : 0 ≤ s ∧ s ≤ FU n) (hx : ¬ x = -1) : NX (bC m o L T) code g s (FU n + 1) x = NX (bR m s n K k L' M) k g s (FU n + 1) x := by
  obtain ⟨h1, h2, h3, h4, h5, h6, h7, h8, h9, h10⟩ := h
  exact NX_lk h1 h2.1 h2.2 h3 h4 h5 h6 h7 h8 h9 h10 hs hx
theorem NX_r9 {bt : Nat → Nat → Bool} {code : Nat → Int} {g s N x B : Int} (h0 : 0 ≤ s) (hB : 0 ≤ B) (hN : N = B + 1) : -1 ≤ NX bt code g s N x ∧ NX bt code g s N x ≤ B := by
  rcases NX_r (bt := bt) (code := code) (g := g) (N := N) (x := x) h0 with h | h
  · omega
  · have h1 := h.1
    have h2 := h.2.1
    omega
theorem dN_cg {nx nx' : Int → Int → Int} {a K B : Int} (hK : 0 < K) (hB : 0 ≤ B) (h : ∀ s x, 0 ≤ s → s ≤ B → 0 ≤ x → x < K → nx s x = nx' s x ∧ nx s x ≤ B) : ∀ j : Nat, (∀ i : Nat, i < j → 0 ≤ dN nx a K i) → dN nx a K j = dN nx' a K j ∧ dN nx a K j ≤ B := by
  intro j
  induction j with
  | zero => exact fun _ => ⟨rfl, hB⟩
  | succ j ih =>
    intro hp
    have ih2 := ih (fun i hi => hp i (by omega))
    have h0 := hp j (by omega)
    have g := h (dN nx a K j) (dS a (j + 1) % K) h0 ih2.2 (Int.emod_nonneg _ (by omega)) (Int.emod_lt_of_pos _ hK)
    show nx (dN nx a K j) (dS a (j + 1) % K) = nx' (dN nx' a K j) (dS a (j + 1) % K) ∧ nx (dN nx a K j) (dS a (j + 1) % K) ≤ B
    rw [← ih2.1]
    exact g
theorem NGc_cg {nx nx' : Int → Int → Int} {a K B b n u : Int} {F : Nat → Int} (hK : 0 < K) (hB : 0 ≤ B) (h : ∀ s x, 0 ≤ s → s ≤ B → 0 ≤ x → x < K → nx s x = nx' s x ∧ nx s x ≤ B) (k : NGc nx a K b F n u) : NGc nx' a K b F n u := by
  obtain ⟨h1, h2, h3⟩ := k
  have hp : ∀ i : Nat, (i : Int) ≤ n → 0 ≤ dN nx a K i := fun i hi => by
    cases i with
    | zero => exact Int.le_refl 0
    | succ i => exact (h2 i (by omega)).2
  have he : ∀ j : Nat, (j : Int) ≤ n + 1 → dN nx a K j = dN nx' a K j := fun j hj => (dN_cg hK hB h j (fun i hi => hp i (by omega))).1
  refine ⟨h1, fun j hj => ?_, ?_⟩
  · rw [← he (j + 1) (by omega)]
    exact h2 j hj
  · rcases h3 with h3 | ⟨h3, h4, h5⟩
    · exact Or.inl h3
    · exact Or.inr ⟨h3, by rw [← he (n.toNat + 1) (by omega)]; exact h4, h5⟩
end
