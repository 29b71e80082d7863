theorem QF_sJ {I J : aI1} {v w : Int} {k j : Nat} (h : QF I J v) (hk : k ≠ 62) : QF I (up2 J k j w) v := QF_kp h rfl rfl rfl rfl (up2_off _ _ _ (by omega)) (Int.le_refl _)
set_option maxHeartbeats 4000000 in
set_option maxRecDepth 20000 in
theorem c8_X11_rowsOf (l0 : Launch) {Ia Ja : aI1} {Ra : aR1} {Sa : aS1} (hL : LY Ra Sa) (hQ : RX Ia) {a b m e g : Int} (ha0 : 0 ≤ a) (ha1 : a ≤ 8) (hb0 : 0 ≤ b) (hb1 : b ≤ FU (Ia 51 304)) (hm0 : 0 ≤ m) (hm1 : m ≤ 3) (he0 : -1 ≤ e) (he1 : e ≤ 7) (hg0 : 0 ≤ g) (hg1 : g ≤ 7) (hO : ∀ l, l < 8 → 0 ≤ Ia 51 (256 + l) ∧ Ia 51 (256 + l) ≤ 99) (hcr : ∀ t : Nat, (t : Int) ≤ FU (Ia 51 304) → -1 ≤ Ia 51 t ∧ Ia 51 t ≤ 7) (hK : ∀ s : Nat, (s : Int) ≤ FU (Ia 51 304) → Ia 51 s < Ia 51 305) {vv : Int} (hq : QF Ia Ja vv) (hv9 : vv ≤ 1000000)  : CT l0 5 0 0 mX11_rowsOf [kR (some 49), kI a, kI b, kI m, kI e, kI g] Ia Ja Ra Sa (cJ (fun x I' J' => Ch [61] [25] Ia I' ∧ Kp 49 73 Ja J' ∧ RX I' ∧ I' 51 = Ia 51 ∧ QF I' J' vv ∧ ∃ L M, (zLV (Ia 51) (Ia 51 306) (FU (Ia 51 304) + 1) (Ia 51 305) (-1) L ∧ MRc (Ia 51) (Ia 51 306) (Ia 51 304) (Ia 51 305) M) ∧ x = RW (Ia 51) (nxRf m Ia L M) e g (Ia 51 305).toNat (FU (Ia 51 304) + 1).toNat a.toNat b.toNat) Ra Sa) := by
  refine ct_in pn_X11 (Nat.le_of_ble_eq_true rfl) (fun X hX hT hIn => ?_)
  have hX : aK l0 X cX11_rowsOf 10 RX11 (some .long) 5 0 0 := hX
  change WW X 0 [some (kR (some 49)), some (kI a), some (kI b), some (kI m), some (kI e), some (kI g), none, none, none, none] [] Ia Ja Ra Sa 0 0
  have qIa := RX_s hQ
  refine ww_aload_n hX (pc := 0) dX11_rowsOf_0 rfl ?_
  refine vV0 hX (pc := 1) sX11_294 (xs_49 hL) (c8_X11_looks l0 hL hQ hcr hK hq hv9) (by decide) (Nat.le_refl 0) (Nat.le_refl 0) (Nat.le_of_ble_eq_true rfl) dX11_rowsOf_1 (fun I_1 J_1 h_1 => ?_)
  have kJ_1 : Kp 49 73 Ja J_1 := Kp_tr (Kp_rf (a := 49) (b := 73)) h_1.2.1
  have kI_1 : Ch [61] [25] Ia I_1 := Ch_tr Ch_rf (Ch_wd h_1.1 (by decide) (by decide))
  have cI_1 : RX I_1 := h_1.2.2.1
  have qI_1 := RX_s cI_1
  have r304_I_1 : I_1 51 304 = Ia 51 304 := by rw [h_1.1.1 51 (by decide) (by decide)]
  have r305_I_1 : I_1 51 305 = Ia 51 305 := by rw [h_1.1.1 51 (by decide) (by decide)]
  have rf_I_1 : FU (I_1 51 304) = FU (Ia 51 304) := by rw [r304_I_1]
  have e51_1 : I_1 51 = Ia 51 := h_1.2.2.2.1
  have hq9_1 := h_1.2.2.2.2.1
  have hq8_1 := h_1.1.2 1 (by decide)
  have hq7 := hq.1
  have hrt9 := h_1.2.2.2.2.2
  have hqf : QF I_1 J_1 vv := ⟨by omega, by omega, fun _ => hrt9⟩
  unfold RT at hrt9
  rw [e51_1] at hrt9
  have hzl := hrt9.1
  have hmr := hrt9.2
  clear hrt9
  have efu : FU (I_1 51 304) = FU (Ia 51 304) := by rw [e51_1]
  refine ww_iconst hX (pc := 4) (x := 0) dX11_rowsOf_4 rfl ?_
  refine ww_istore hX (pc := 5) (lv' := [some (kR (some 49)), some (kI a), some (kI b), some (kI m), some (kI e), some (kI g), some (kI 0), none, none, none]) dX11_rowsOf_5 (by decide) rfl rfl ?_
  have hl_7 : ∀ (n_7 : Nat) (i : Int) (J7 : aI1), (256 - i).toNat = n_7 → (QF I_1 J7 vv ∧ (Kp 49 73 Ja J7 ∧ (0 ≤ i ∧ i ≤ FU (Ia 51 304) + 1) ∧ J7 62 = J_1 62 ∧ JW (RW (Ia 51) (nxRf m Ia (I_1 61) (J_1 62)) e g (Ia 51 305).toNat (FU (Ia 51 304) + 1).toNat 0) i.toNat (J7 68))) → WW X 7 [some (kR (some 49)), some (kI a), some (kI b), some (kI m), some (kI e), some (kI g), some (kI i), none, none, none] [] I_1 J7 Ra Sa 0 0 := by
    intro n_7
    induction n_7 using Nat.strongRecOn with
    | ind n_7 ih_7 =>
      intro i J7 hm_7 hv_7
      have hq_7 := Sh0_i hm_7
      clear hm_7
      obtain ⟨qfl7, hv_7⟩ := hv_7
      obtain ⟨kJ7, hv, j7, jw7⟩ := hv_7
      refine ww_iload hX (pc := 7) dX11_rowsOf_7 rfl ?_
      refine ww_aload_n hX (pc := 9) dX11_rowsOf_9 rfl ?_
      refine vI0 hX (pc := 10) sX11_112 (xs_49 hL) (c_X11_states l0 hL cI_1 ) (by decide) (Nat.le_refl 0) (Nat.le_refl 0) (Nat.le_of_ble_eq_true rfl) dX11_rowsOf_10 (fun x_10 I_10 J_10 h_10 => ?_)
      obtain ⟨rfl, rfl, h_10⟩ := h_10
      refine ww_icmp_ge hX (pc := 13) (tgt := 39) dX11_rowsOf_13 (by decide) (fun h_13 => ?_) (fun h_13 => ?_)
      · simp only [w32_mod] at h_13
        refine ww_iconst hX (pc := 39) (x := 0) dX11_rowsOf_39 rfl ?_
        refine ww_istore hX (pc := 40) (lv' := [some (kR (some 49)), some (kI a), some (kI b), some (kI m), some (kI e), some (kI g), some (kI 0), none, none, none]) dX11_rowsOf_40 (by decide) rfl rfl ?_
        have hl_42 : ∀ (n_42 : Nat) (i : Int) (J42 : aI1), (8 - i).toNat = n_42 → (QF I_1 J42 vv ∧ (Kp 49 73 Ja J42 ∧ (0 ≤ i ∧ i ≤ a) ∧ J42 62 = J_1 62 ∧ JW (RW (Ia 51) (nxRf m Ia (I_1 61) (J_1 62)) e g (Ia 51 305).toNat (FU (Ia 51 304) + 1).toNat i.toNat) (FU (Ia 51 304) + 1).toNat (J42 68))) → WW X 42 [some (kR (some 49)), some (kI a), some (kI b), some (kI m), some (kI e), some (kI g), some (kI i), none, none, none] [] I_1 J42 Ra Sa 0 0 := by
          intro n_42
          induction n_42 using Nat.strongRecOn with
          | ind n_42 ih_42 =>
            intro i J42 hm_42 hv_42
            have hq_42 := Sh0_i hm_42
            clear hm_42
            obtain ⟨qfl42, hv_42⟩ := hv_42
            obtain ⟨kJ42, hv, j42, jw42⟩ := hv_42
            refine ww_iload hX (pc := 42) dX11_rowsOf_42 rfl ?_
            refine ww_iload_n hX (pc := 44) dX11_rowsOf_44 rfl ?_
            refine ww_icmp_ge hX (pc := 45) (tgt := 226) dX11_rowsOf_45 (by decide) (fun h_45 => ?_) (fun h_45 => ?_)
            · simp only [w32_mod] at h_45
              refine ww_aload_n hX (pc := 226) dX11_rowsOf_226 rfl ?_
              refine ww_getR hX (pc := 227) fX11_80 (by decide) (xs_49 hL) (xr_49_34 hL) dX11_rowsOf_227 ?_
              refine ww_iload_n hX (pc := 230) dX11_rowsOf_230 rfl ?_
              refine ww_lald hX (pc := 231) (xs_68 hL) (by decide) (by omega) (by omega) dX11_rowsOf_231 ?_
              refine rJ hX (pc := 232) hT (Nat.le_refl 0) (Nat.le_refl 0) dX11_rowsOf_232 ?_
              exact ⟨kI_1, kJ42, cI_1, e51_1, qfl42, _, _, ⟨hzl, hmr⟩, by
                    rw [show i.toNat = a.toNat by omega] at jw42
                    exact jw42 b.toNat (by omega)⟩
            · simp only [w32_mod] at h_45
              refine ww_iconst hX (pc := 48) (x := 0) dX11_rowsOf_48 rfl ?_
              refine ww_istore hX (pc := 49) (lv' := [some (kR (some 49)), some (kI a), some (kI b), some (kI m), some (kI e), some (kI g), some (kI i), some (kI 0), none, none]) dX11_rowsOf_49 (by decide) rfl rfl ?_
              have hl_51 : ∀ (n_51 : Nat) (q : Int) (J51 : aI1), (256 - q).toNat = n_51 → (QF I_1 J51 vv ∧ (Kp 49 73 Ja J51 ∧ (0 ≤ q ∧ q ≤ FU (Ia 51 304) + 1) ∧ J51 62 = J_1 62 ∧ JW (RW (Ia 51) (nxRf m Ia (I_1 61) (J_1 62)) e g (Ia 51 305).toNat (FU (Ia 51 304) + 1).toNat i.toNat) (FU (Ia 51 304) + 1).toNat (J51 68) ∧ JW (fun _ => 0) q.toNat (J51 69))) → WW X 51 [some (kR (some 49)), some (kI a), some (kI b), some (kI m), some (kI e), some (kI g), some (kI i), some (kI q), none, none] [] I_1 J51 Ra Sa 0 0 := by
                intro n_51
                induction n_51 using Nat.strongRecOn with
                | ind n_51 ih_51 =>
                  intro q J51 hm_51 hv_51
                  have hq_51 := Sh0_i hm_51
                  clear hm_51
                  obtain ⟨qfl51, hv_51⟩ := hv_51
                  obtain ⟨kJ51, hu, j51, jw51, jz51⟩ := hv_51
                  refine ww_iload hX (pc := 51) dX11_rowsOf_51 rfl ?_
                  refine ww_aload_n hX (pc := 53) dX11_rowsOf_53 rfl ?_
                  refine vI0 hX (pc := 54) sX11_112 (xs_49 hL) (c_X11_states l0 hL cI_1 ) (by decide) (Nat.le_refl 0) (Nat.le_refl 0) (Nat.le_of_ble_eq_true rfl) dX11_rowsOf_54 (fun x_54 I_54 J_54 h_54 => ?_)
                  obtain ⟨rfl, rfl, h_54⟩ := h_54
                  refine ww_icmp_ge hX (pc := 57) (tgt := 74) dX11_rowsOf_57 (by decide) (fun h_57 => ?_) (fun h_57 => ?_)
                  · simp only [w32_mod] at h_57
                    refine ww_iconst hX (pc := 74) (x := 0) dX11_rowsOf_74 rfl ?_
                    refine ww_istore hX (pc := 75) (lv' := [some (kR (some 49)), some (kI a), some (kI b), some (kI m), some (kI e), some (kI g), some (kI i), some (kI 0), none, none]) dX11_rowsOf_75 (by decide) rfl rfl ?_
                    have hl_77 : ∀ (n_77 : Nat) (q : Int) (J77 : aI1), (256 - q).toNat = n_77 → (QF I_1 J77 vv ∧ (Kp 49 73 Ja J77 ∧ (0 ≤ q ∧ q ≤ FU (Ia 51 304) + 1) ∧ J77 62 = J_1 62 ∧ JW (RW (Ia 51) (nxRf m Ia (I_1 61) (J_1 62)) e g (Ia 51 305).toNat (FU (Ia 51 304) + 1).toNat i.toNat) (FU (Ia 51 304) + 1).toNat (J77 68) ∧ JW (PW (Ia 51) (nxRf m Ia (I_1 61) (J_1 62)) e g (Ia 51 305).toNat (FU (Ia 51 304) + 1).toNat q.toNat (i.toNat + 1)) (FU (Ia 51 304) + 1).toNat (J77 69))) → WW X 77 [some (kR (some 49)), some (kI a), some (kI b), some (kI m), some (kI e), some (kI g), some (kI i), some (kI q), none, none] [] I_1 J77 Ra Sa 0 0 := by
                      intro n_77
                      induction n_77 using Nat.strongRecOn with
                      | ind n_77 ih_77 =>
                        intro q J77 hm_77 hv_77
                        have hq_77 := Sh0_i hm_77
                        clear hm_77
                        obtain ⟨qfl77, hv_77⟩ := hv_77
                        obtain ⟨kJ77, hu, j77, jw77, jp77⟩ := hv_77
                        refine ww_iload hX (pc := 77) dX11_rowsOf_77 rfl ?_
                        refine ww_aload_n hX (pc := 79) dX11_rowsOf_79 rfl ?_
                        refine vI0 hX (pc := 80) sX11_112 (xs_49 hL) (c_X11_states l0 hL cI_1 ) (by decide) (Nat.le_refl 0) (Nat.le_refl 0) (Nat.le_of_ble_eq_true rfl) dX11_rowsOf_80 (fun x_80 I_80 J_80 h_80 => ?_)
                        obtain ⟨rfl, rfl, h_80⟩ := h_80
                        refine ww_icmp_ge hX (pc := 83) (tgt := 188) dX11_rowsOf_83 (by decide) (fun h_83 => ?_) (fun h_83 => ?_)
                        · simp only [w32_mod] at h_83
                          refine ww_iconst hX (pc := 188) (x := 0) dX11_rowsOf_188 rfl ?_
                          refine ww_istore hX (pc := 189) (lv' := [some (kR (some 49)), some (kI a), some (kI b), some (kI m), some (kI e), some (kI g), some (kI i), some (kI 0), none, none]) dX11_rowsOf_189 (by decide) rfl rfl ?_
                          have hl_191 : ∀ (n_191 : Nat) (q : Int) (J191 : aI1), (256 - q).toNat = n_191 → (QF I_1 J191 vv ∧ (Kp 49 73 Ja J191 ∧ (0 ≤ q ∧ q ≤ FU (Ia 51 304) + 1) ∧ J191 62 = J_1 62 ∧ JW (RW (Ia 51) (nxRf m Ia (I_1 61) (J_1 62)) e g (Ia 51 305).toNat (FU (Ia 51 304) + 1).toNat (i.toNat + 1)) q.toNat (J191 68) ∧ JW (RW (Ia 51) (nxRf m Ia (I_1 61) (J_1 62)) e g (Ia 51 305).toNat (FU (Ia 51 304) + 1).toNat (i.toNat + 1)) (FU (Ia 51 304) + 1).toNat (J191 69))) → WW X 191 [some (kR (some 49)), some (kI a), some (kI b), some (kI m), some (kI e), some (kI g), some (kI i), some (kI q), none, none] [] I_1 J191 Ra Sa 0 0 := by
                            intro n_191
                            induction n_191 using Nat.strongRecOn with
                            | ind n_191 ih_191 =>
                              intro q J191 hm_191 hv_191
                              have hq_191 := Sh0_i hm_191
                              clear hm_191
                              obtain ⟨qfl191, hv_191⟩ := hv_191
                              obtain ⟨kJ191, hu, j191, jw191, jn191⟩ := hv_191
                              refine ww_iload hX (pc := 191) dX11_rowsOf_191 rfl ?_
                              refine ww_aload_n hX (pc := 193) dX11_rowsOf_193 rfl ?_
                              refine vI0 hX (pc := 194) sX11_112 (xs_49 hL) (c_X11_states l0 hL cI_1 ) (by decide) (Nat.le_refl 0) (Nat.le_refl 0) (Nat.le_of_ble_eq_true rfl) dX11_rowsOf_194 (fun x_194 I_194 J_194 h_194 => ?_)
                              obtain ⟨rfl, rfl, h_194⟩ := h_194
                              refine ww_icmp_ge hX (pc := 197) (tgt := 220) dX11_rowsOf_197 (by decide) (fun h_197 => ?_) (fun h_197 => ?_)
                              · simp only [w32_mod] at h_197
                                refine ww_iinc hX (pc := 220) (lv' := [some (kR (some 49)), some (kI a), some (kI b), some (kI m), some (kI e), some (kI g), some (kI (i + 1)), some (kI q), none, none]) dX11_rowsOf_220 rfl (by decide) rfl rfl ?_
                                refine ww_goto hX (pc := 223) (tgt := 42) dX11_rowsOf_223 (by decide) ?_
                                refine ww_sub [some (kR (some 49)), some (kI a), some (kI b), some (kI m), some (kI e), some (kI g), some (kI (i + 1)), none, none, none] (aLe_s (aLe_s (aLe_s (aLe_s (aLe_s (aLe_s (aLe_s (aLe_n (aLe_n (aLe_n aLe_0)))))))))) ?_
                                exact ih_42 _ (by have hm9 := Sh0_e hq_42; omega) (i + 1) J191 rfl ⟨qfl191, ⟨kJ191, by omega, j191, by rw [show (i + 1).toNat = i.toNat + 1 by omega]; rw [show q.toNat = (FU (Ia 51 304) + 1).toNat by omega] at jw191; exact jw191⟩⟩
                              · simp only [w32_mod] at h_197
                                refine ww_aload_n hX (pc := 200) dX11_rowsOf_200 rfl ?_
                                refine ww_getR hX (pc := 201) fX11_80 (by decide) (xs_49 hL) (xr_49_34 hL) dX11_rowsOf_201 ?_
                                refine ww_iload hX (pc := 204) dX11_rowsOf_204 rfl ?_
                                refine ww_aload_n hX (pc := 206) dX11_rowsOf_206 rfl ?_
                                refine ww_getR hX (pc := 207) fX11_83 (by decide) (xs_49 hL) (xr_49_35 hL) dX11_rowsOf_207 ?_
                                refine ww_iload hX (pc := 210) dX11_rowsOf_210 rfl ?_
                                refine ww_lald hX (pc := 212) (xs_69 hL) (by decide) (by omega) (by omega) dX11_rowsOf_212 ?_
                                refine ww_last hX (pc := 213) (xs_68 hL) (by decide) (by omega) (by omega) dX11_rowsOf_213 ?_
                                refine ww_nmK (fun J_213 eJ_213 => ?_)
                                have kJ_213 : Kp 49 73 Ja J_213 := by rw [eJ_213]; exact Kp_up kJ191 _ _ (by decide)
                                have qfJ_213 : QF I_1 J_213 vv := by rw [eJ_213]; exact QF_sJ qfl191 (by decide)
                                have j213 : J_213 62 = J_1 62 := by rw [eJ_213, up2_off _ _ _ (by decide)]; exact j191
                                have jw213 : JW (RW (Ia 51) (nxRf m Ia (I_1 61) (J_1 62)) e g (Ia 51 305).toNat (FU (Ia 51 304) + 1).toNat (i.toNat + 1)) (q.toNat + 1) (J_213 68) := by rw [eJ_213, up2_row]; exact JW_z jw191 (jn191 q.toNat (by omega))
                                have jm213 : JW (RW (Ia 51) (nxRf m Ia (I_1 61) (J_1 62)) e g (Ia 51 305).toNat (FU (Ia 51 304) + 1).toNat (i.toNat + 1)) (FU (Ia 51 304) + 1).toNat (J_213 69) := by rw [eJ_213, up2_off _ _ _ (by decide)]; exact jn191
                                refine ww_iinc hX (pc := 214) (lv' := [some (kR (some 49)), some (kI a), some (kI b), some (kI m), some (kI e), some (kI g), some (kI i), some (kI (q + 1)), none, none]) dX11_rowsOf_214 rfl (by decide) rfl rfl ?_
                                refine ww_goto hX (pc := 217) (tgt := 191) dX11_rowsOf_217 (by decide) ?_
                                exact ih_191 _ (by have hm9 := Sh0_e hq_191; omega) (q + 1) J_213 rfl ⟨qfJ_213, ⟨kJ_213, by omega, j213, by rw [show (q + 1).toNat = q.toNat + 1 by omega]; exact jw213, jm213⟩⟩
                          exact hl_191 _ 0 J77 rfl ⟨qfl77, ⟨kJ77, by omega, j77, fun t ht => absurd ht (Nat.not_lt_zero _), by rw [show q.toNat = (FU (Ia 51 304) + 1).toNat by omega] at jp77; exact JW_f jp77⟩⟩
                        · simp only [w32_mod] at h_83
                          refine ww_iconst hX (pc := 86) (x := 0) dX11_rowsOf_86 rfl ?_
                          refine ww_istore hX (pc := 87) (lv' := [some (kR (some 49)), some (kI a), some (kI b), some (kI m), some (kI e), some (kI g), some (kI i), some (kI q), some (kI 0), none]) dX11_rowsOf_87 (by decide) rfl rfl ?_
                          have hl_89 : ∀ (n_89 : Nat) (w : Int) (J89 : aI1), (8 - w).toNat = n_89 → (QF I_1 J89 vv ∧ (Kp 49 73 Ja J89 ∧ (0 ≤ w ∧ w ≤ Ia 51 305) ∧ J89 62 = J_1 62 ∧ JW (RW (Ia 51) (nxRf m Ia (I_1 61) (J_1 62)) e g (Ia 51 305).toNat (FU (Ia 51 304) + 1).toNat i.toNat) (FU (Ia 51 304) + 1).toNat (J89 68) ∧ JW (QW (Ia 51) (nxRf m Ia (I_1 61) (J_1 62)) e g (Ia 51 305).toNat (FU (Ia 51 304) + 1).toNat q.toNat w.toNat (i.toNat + 1)) (FU (Ia 51 304) + 1).toNat (J89 69))) → WW X 89 [some (kR (some 49)), some (kI a), some (kI b), some (kI m), some (kI e), some (kI g), some (kI i), some (kI q), some (kI w), none] [] I_1 J89 Ra Sa 0 0 := by
                            intro n_89
                            induction n_89 using Nat.strongRecOn with
                            | ind n_89 ih_89 =>
                              intro w J89 hm_89 hv_89
                              have hq_89 := Sh0_i hm_89
                              clear hm_89
                              obtain ⟨qfl89, hv_89⟩ := hv_89
                              obtain ⟨kJ89, hw, j89, jw89, jq89⟩ := hv_89
                              refine ww_iload hX (pc := 89) dX11_rowsOf_89 rfl ?_
                              refine ww_aload_n hX (pc := 91) dX11_rowsOf_91 rfl ?_
                              refine ww_getR hX (pc := 92) fX11_20 (by decide) (xs_49 hL) (xr_49_3 hL) dX11_rowsOf_92 ?_
                              refine ww_sipush hX (pc := 95) (x := 305) dX11_rowsOf_95 (by decide) ?_
                              refine ww_iald hX (pc := 98) (xs_51 hL) (by decide) (by omega) (by omega) dX11_rowsOf_98 ?_
                              refine ww_toI (b := I_1 51 305) rfl ?_
                              refine ww_icmp_ge hX (pc := 99) (tgt := 182) dX11_rowsOf_99 (by decide) (fun h_99 => ?_) (fun h_99 => ?_)
                              · simp only [w32_mod] at h_99
                                have jn77 : JW (PW (Ia 51) (nxRf m Ia (I_1 61) (J_1 62)) e g (Ia 51 305).toNat (FU (Ia 51 304) + 1).toNat (q.toNat + 1) (i.toNat + 1)) (FU (Ia 51 304) + 1).toNat (J89 69) := by
                                  rw [show w.toNat = (Ia 51 305).toNat by omega] at jq89
                                  exact JW_e jq89
                                refine ww_iinc hX (pc := 182) (lv' := [some (kR (some 49)), some (kI a), some (kI b), some (kI m), some (kI e), some (kI g), some (kI i), some (kI (q + 1)), some (kI w), none]) dX11_rowsOf_182 rfl (by decide) rfl rfl ?_
                                refine ww_goto hX (pc := 185) (tgt := 77) dX11_rowsOf_185 (by decide) ?_
                                refine ww_sub [some (kR (some 49)), some (kI a), some (kI b), some (kI m), some (kI e), some (kI g), some (kI i), some (kI (q + 1)), none, none] (aLe_s (aLe_s (aLe_s (aLe_s (aLe_s (aLe_s (aLe_s (aLe_s (aLe_n (aLe_n aLe_0)))))))))) ?_
                                exact ih_77 _ (by have hm9 := Sh0_e hq_77; omega) (q + 1) J89 rfl ⟨qfl89, ⟨kJ89, by omega, j89, jw89, by rw [show (q + 1).toNat = q.toNat + 1 by omega]; exact jn77⟩⟩
                              · simp only [w32_mod] at h_99
                                refine ww_aload_n hX (pc := 102) dX11_rowsOf_102 rfl ?_
                                refine ww_getR hX (pc := 103) fX11_80 (by decide) (xs_49 hL) (xr_49_34 hL) dX11_rowsOf_103 ?_
                                refine ww_iload hX (pc := 106) dX11_rowsOf_106 rfl ?_
                                refine ww_lald hX (pc := 108) (xs_68 hL) (by decide) (by omega) (by omega) dX11_rowsOf_108 ?_
                                refine ww_lconst hX (pc := 109) (x := 0) dX11_rowsOf_109 (by decide) ?_
                                refine ww_lcmp hX (pc := 110) dX11_rowsOf_110 ?_
                                refine ww_if_le hX (pc := 111) (tgt := 182) dX11_rowsOf_111 (by decide) (fun h_111 => ?_) (fun h_111 => ?_)
                                · simp only [w32_mod] at h_111
                                  have h8 := jw89 q.toNat (by omega)
                                  have h7 := RW_nn (own := Ia 51) (nx := nxRf m Ia (I_1 61) (J_1 62)) (j := e) (w := g) (K := (Ia 51 305).toNat) (N := (FU (Ia 51 304) + 1).toNat) i.toNat q.toNat
                                  have h6 := RW_b (own := Ia 51) (nx := nxRf m Ia (I_1 61) (J_1 62)) (j := e) (w := g) (K := (Ia 51 305).toNat) (N := (FU (Ia 51 304) + 1).toNat) (by omega) (i := i.toNat) (t := q.toNat) (by omega) (by omega)
                                  have hz : RW (Ia 51) (nxRf m Ia (I_1 61) (J_1 62)) e g (Ia 51 305).toNat (FU (Ia 51 304) + 1).toNat i.toNat q.toNat = 0 := by
                                    have h9 := l_cmp_v (J89 68 q.toNat) 0
                                    rw [show w64 0 = 0 from rfl, w64_id (x := J89 68 q.toNat) (by omega) (by omega)] at h9
                                    omega
                                  have jn77 : JW (PW (Ia 51) (nxRf m Ia (I_1 61) (J_1 62)) e g (Ia 51 305).toNat (FU (Ia 51 304) + 1).toNat (q.toNat + 1) (i.toNat + 1)) (FU (Ia 51 304) + 1).toNat (J89 69) := JW_n jq89 hz
                                  refine ww_iinc hX (pc := 182) (lv' := [some (kR (some 49)), some (kI a), some (kI b), some (kI m), some (kI e), some (kI g), some (kI i), some (kI (q + 1)), some (kI w), none]) dX11_rowsOf_182 rfl (by decide) rfl rfl ?_
                                  refine ww_goto hX (pc := 185) (tgt := 77) dX11_rowsOf_185 (by decide) ?_
                                  refine ww_sub [some (kR (some 49)), some (kI a), some (kI b), some (kI m), some (kI e), some (kI g), some (kI i), some (kI (q + 1)), none, none] (aLe_s (aLe_s (aLe_s (aLe_s (aLe_s (aLe_s (aLe_s (aLe_s (aLe_n (aLe_n aLe_0)))))))))) ?_
                                  exact ih_77 _ (by have hm9 := Sh0_e hq_77; omega) (q + 1) J89 rfl ⟨qfl89, ⟨kJ89, by omega, j89, jw89, by rw [show (q + 1).toNat = q.toNat + 1 by omega]; exact jn77⟩⟩
                                · simp only [w32_mod] at h_111
                                  refine ww_iload hX (pc := 114) dX11_rowsOf_114 rfl ?_
                                  refine ww_aload_n hX (pc := 116) dX11_rowsOf_116 rfl ?_
                                  refine ww_iload hX (pc := 117) dX11_rowsOf_117 rfl ?_
                                  refine vI1 hX (pc := 119) sX11_126 (xs_49 hL) (c_X11_readOf l0 hL cI_1 (by omega) (by omega)) (by decide) (Nat.le_refl 0) (Nat.le_refl 0) (Nat.le_of_ble_eq_true rfl) dX11_rowsOf_119 (fun x_119 I_119 J_119 h_119 => ?_)
                                  obtain ⟨rfl, rfl, h_119⟩ := h_119
                                  have hown : x_119 = Ia 51 q.toNat := by rw [h_119, e51_1]
                                  have hcq := hcr q.toNat (by omega)
                                  refine ww_icmp_eq hX (pc := 122) (tgt := 176) dX11_rowsOf_122 (by decide) (fun h_122 => ?_) (fun h_122 => ?_)
                                  · simp only [w32_mod] at h_122
                                    have jn89 : JW (QW (Ia 51) (nxRf m Ia (I_1 61) (J_1 62)) e g (Ia 51 305).toNat (FU (Ia 51 304) + 1).toNat q.toNat (w.toNat + 1) (i.toNat + 1)) (FU (Ia 51 304) + 1).toNat (J89 69) := JW_k jq89 (fun t => eW_own (by omega))
                                    skip
                                    refine ww_iinc hX (pc := 176) (lv' := [some (kR (some 49)), some (kI a), some (kI b), some (kI m), some (kI e), some (kI g), some (kI i), some (kI q), some (kI (w + 1)), none]) dX11_rowsOf_176 rfl (by decide) rfl rfl ?_
                                    refine ww_goto hX (pc := 179) (tgt := 89) dX11_rowsOf_179 (by decide) ?_
                                    exact ih_89 _ (by have hm9 := Sh0_e hq_89; omega) (w + 1) J89 rfl ⟨qfl89, ⟨kJ89, by omega, j89, jw89, by rw [show (w + 1).toNat = w.toNat + 1 by omega]; exact jn89⟩⟩
                                  · simp only [w32_mod] at h_122
                                    refine ww_iload hX (pc := 125) dX11_rowsOf_125 rfl ?_
                                    refine ww_iload hX (pc := 127) dX11_rowsOf_127 rfl ?_
                                    refine ww_icmp_ne hX (pc := 129) (tgt := 142) dX11_rowsOf_129 (by decide) (fun h_129 => ?_) (fun h_129 => ?_)
                                    · simp only [w32_mod] at h_129
                                      refine ww_aload_n hX (pc := 142) dX11_rowsOf_142 rfl ?_
                                      refine ww_iload hX (pc := 143) dX11_rowsOf_143 rfl ?_
                                      refine ww_iload hX (pc := 145) dX11_rowsOf_145 rfl ?_
                                      refine ww_iload_n hX (pc := 147) dX11_rowsOf_147 rfl ?_
                                      refine vI3 hX (pc := 148) sX11_311 (xs_49 hL) (c8_X11_nextOf l0 hL cI_1 (by omega) (by omega) (by omega) (by omega) (by omega) (by omega) (by rw [e51_1]; exact hO) (by rw [e51_1]; exact hcr) (by rw [e51_1, j89]; exact fun t ht => (hmr t ht).2)) (by decide) (Nat.le_refl 0) (Nat.le_refl 0) (Nat.le_of_ble_eq_true rfl) dX11_rowsOf_148 (fun x_148 I_148 J_148 h_148 => ?_)
                                      obtain ⟨rfl, rfl, h_148⟩ := h_148
                                      have hnx0 : nxRf m Ia (I_1 61) (J_1 62) q.toNat w.toNat = x_148 := by
                                        unfold nxRf
                                        rw [show ((q.toNat : Nat) : Int) = q by omega, show ((w.toNat : Nat) : Int) = w by omega, h_148, e51_1, j89]
                                      have hrg : -1 ≤ x_148 ∧ x_148 ≤ FU (Ia 51 304) := by rw [h_148, e51_1]; exact NX_r9 (by omega) (by omega) rfl
                                      refine ww_istore hX (pc := 151) (lv' := [some (kR (some 49)), some (kI a), some (kI b), some (kI m), some (kI e), some (kI g), some (kI i), some (kI q), some (kI w), some (kI x_148)]) dX11_rowsOf_151 (by decide) rfl rfl ?_
                                      refine ww_iload hX (pc := 153) dX11_rowsOf_153 rfl ?_
                                      refine ww_iconst hX (pc := 155) (x := (-1)) dX11_rowsOf_155 rfl ?_
                                      refine ww_icmp_eq hX (pc := 156) (tgt := 176) dX11_rowsOf_156 (by decide) (fun h_156 => ?_) (fun h_156 => ?_)
                                      · simp only [w32_mod] at h_156
                                        have jn89 : JW (QW (Ia 51) (nxRf m Ia (I_1 61) (J_1 62)) e g (Ia 51 305).toNat (FU (Ia 51 304) + 1).toNat q.toNat (w.toNat + 1) (i.toNat + 1)) (FU (Ia 51 304) + 1).toNat (J89 69) := JW_k jq89 (fun t => eW_t (by rw [hnx0]; omega))
                                        skip
                                        refine ww_iinc hX (pc := 176) (lv' := [some (kR (some 49)), some (kI a), some (kI b), some (kI m), some (kI e), some (kI g), some (kI i), some (kI q), some (kI (w + 1)), some (kI x_148)]) dX11_rowsOf_176 rfl (by decide) rfl rfl ?_
                                        refine ww_goto hX (pc := 179) (tgt := 89) dX11_rowsOf_179 (by decide) ?_
                                        refine ww_sub [some (kR (some 49)), some (kI a), some (kI b), some (kI m), some (kI e), some (kI g), some (kI i), some (kI q), some (kI (w + 1)), none] (aLe_s (aLe_s (aLe_s (aLe_s (aLe_s (aLe_s (aLe_s (aLe_s (aLe_s (aLe_n aLe_0)))))))))) ?_
                                        exact ih_89 _ (by have hm9 := Sh0_e hq_89; omega) (w + 1) J89 rfl ⟨qfl89, ⟨kJ89, by omega, j89, jw89, by rw [show (w + 1).toNat = w.toNat + 1 by omega]; exact jn89⟩⟩
                                      · simp only [w32_mod] at h_156
                                        refine ww_aload_n hX (pc := 159) dX11_rowsOf_159 rfl ?_
                                        refine ww_getR hX (pc := 160) fX11_83 (by decide) (xs_49 hL) (xr_49_35 hL) dX11_rowsOf_160 ?_
                                        refine ww_iload hX (pc := 163) dX11_rowsOf_163 rfl ?_
                                        refine ww_dup2 hX (pc := 165) dX11_rowsOf_165 ?_
                                        refine ww_lald hX (pc := 166) (xs_69 hL) (by decide) (by omega) (by omega) dX11_rowsOf_166 ?_
                                        refine ww_aload_n hX (pc := 167) dX11_rowsOf_167 rfl ?_
                                        refine ww_getR hX (pc := 168) fX11_80 (by decide) (xs_49 hL) (xr_49_34 hL) dX11_rowsOf_168 ?_
                                        refine ww_iload hX (pc := 171) dX11_rowsOf_171 rfl ?_
                                        refine ww_lald hX (pc := 173) (xs_68 hL) (by decide) (by omega) (by omega) dX11_rowsOf_173 ?_
                                        refine ww_ladd hX (pc := 174) dX11_rowsOf_174 ?_
                                        refine ww_last hX (pc := 175) (xs_69 hL) (by decide) (by omega) (by omega) dX11_rowsOf_175 ?_
                                        refine ww_nmK (fun J_175 eJ_175 => ?_)
                                        have kJ_175 : Kp 49 73 Ja J_175 := by rw [eJ_175]; exact Kp_up kJ89 _ _ (by decide)
                                        have qfJ_175 : QF I_1 J_175 vv := by rw [eJ_175]; exact QF_sJ qfl89 (by decide)
                                        have j175 : J_175 62 = J_1 62 := by rw [eJ_175, up2_off _ _ _ (by decide)]; exact j89
                                        have jw175 : JW (RW (Ia 51) (nxRf m Ia (I_1 61) (J_1 62)) e g (Ia 51 305).toNat (FU (Ia 51 304) + 1).toNat i.toNat) (FU (Ia 51 304) + 1).toNat (J_175 68) := by rw [eJ_175, up2_off _ _ _ (by decide)]; exact jw89
                                        have jn89 : JW (QW (Ia 51) (nxRf m Ia (I_1 61) (J_1 62)) e g (Ia 51 305).toNat (FU (Ia 51 304) + 1).toNat q.toNat (w.toNat + 1) (i.toNat + 1)) (FU (Ia 51 304) + 1).toNat (J_175 69) := by
                                          rw [eJ_175, up2_row]
                                          exact JW_add jq89 (to := x_148.toNat) (by rw [hnx0]; omega) (by omega) (by omega) (fun h9 => by omega) (jw89 q.toNat (by omega))
                                        refine ww_iinc hX (pc := 176) (lv' := [some (kR (some 49)), some (kI a), some (kI b), some (kI m), some (kI e), some (kI g), some (kI i), some (kI q), some (kI (w + 1)), some (kI x_148)]) dX11_rowsOf_176 rfl (by decide) rfl rfl ?_
                                        refine ww_goto hX (pc := 179) (tgt := 89) dX11_rowsOf_179 (by decide) ?_
                                        refine ww_sub [some (kR (some 49)), some (kI a), some (kI b), some (kI m), some (kI e), some (kI g), some (kI i), some (kI q), some (kI (w + 1)), none] (aLe_s (aLe_s (aLe_s (aLe_s (aLe_s (aLe_s (aLe_s (aLe_s (aLe_s (aLe_n aLe_0)))))))))) ?_
                                        exact ih_89 _ (by have hm9 := Sh0_e hq_89; omega) (w + 1) J_175 rfl ⟨qfJ_175, ⟨kJ_175, by omega, j175, jw175, by rw [show (w + 1).toNat = w.toNat + 1 by omega]; exact jn89⟩⟩
                                    · simp only [w32_mod] at h_129
                                      refine ww_iload hX (pc := 132) dX11_rowsOf_132 rfl ?_
                                      refine ww_iload hX (pc := 134) dX11_rowsOf_134 rfl ?_
                                      refine ww_icmp_eq hX (pc := 136) (tgt := 142) dX11_rowsOf_136 (by decide) (fun h_136 => ?_) (fun h_136 => ?_)
                                      · simp only [w32_mod] at h_136
                                        refine ww_aload_n hX (pc := 142) dX11_rowsOf_142 rfl ?_
                                        refine ww_iload hX (pc := 143) dX11_rowsOf_143 rfl ?_
                                        refine ww_iload hX (pc := 145) dX11_rowsOf_145 rfl ?_
                                        refine ww_iload_n hX (pc := 147) dX11_rowsOf_147 rfl ?_
                                        refine vI3 hX (pc := 148) sX11_311 (xs_49 hL) (c8_X11_nextOf l0 hL cI_1 (by omega) (by omega) (by omega) (by omega) (by omega) (by omega) (by rw [e51_1]; exact hO) (by rw [e51_1]; exact hcr) (by rw [e51_1, j89]; exact fun t ht => (hmr t ht).2)) (by decide) (Nat.le_refl 0) (Nat.le_refl 0) (Nat.le_of_ble_eq_true rfl) dX11_rowsOf_148 (fun x_148 I_148 J_148 h_148 => ?_)
                                        obtain ⟨rfl, rfl, h_148⟩ := h_148
                                        have hnx0 : nxRf m Ia (I_1 61) (J_1 62) q.toNat w.toNat = x_148 := by
                                          unfold nxRf
                                          rw [show ((q.toNat : Nat) : Int) = q by omega, show ((w.toNat : Nat) : Int) = w by omega, h_148, e51_1, j89]
                                        have hrg : -1 ≤ x_148 ∧ x_148 ≤ FU (Ia 51 304) := by rw [h_148, e51_1]; exact NX_r9 (by omega) (by omega) rfl
                                        refine ww_istore hX (pc := 151) (lv' := [some (kR (some 49)), some (kI a), some (kI b), some (kI m), some (kI e), some (kI g), some (kI i), some (kI q), some (kI w), some (kI x_148)]) dX11_rowsOf_151 (by decide) rfl rfl ?_
                                        refine ww_iload hX (pc := 153) dX11_rowsOf_153 rfl ?_
                                        refine ww_iconst hX (pc := 155) (x := (-1)) dX11_rowsOf_155 rfl ?_
                                        refine ww_icmp_eq hX (pc := 156) (tgt := 176) dX11_rowsOf_156 (by decide) (fun h_156 => ?_) (fun h_156 => ?_)
                                        · simp only [w32_mod] at h_156
                                          have jn89 : JW (QW (Ia 51) (nxRf m Ia (I_1 61) (J_1 62)) e g (Ia 51 305).toNat (FU (Ia 51 304) + 1).toNat q.toNat (w.toNat + 1) (i.toNat + 1)) (FU (Ia 51 304) + 1).toNat (J89 69) := JW_k jq89 (fun t => eW_t (by rw [hnx0]; omega))
                                          skip
                                          refine ww_iinc hX (pc := 176) (lv' := [some (kR (some 49)), some (kI a), some (kI b), some (kI m), some (kI e), some (kI g), some (kI i), some (kI q), some (kI (w + 1)), some (kI x_148)]) dX11_rowsOf_176 rfl (by decide) rfl rfl ?_
                                          refine ww_goto hX (pc := 179) (tgt := 89) dX11_rowsOf_179 (by decide) ?_
                                          refine ww_sub [some (kR (some 49)), some (kI a), some (kI b), some (kI m), some (kI e), some (kI g), some (kI i), some (kI q), some (kI (w + 1)), none] (aLe_s (aLe_s (aLe_s (aLe_s (aLe_s (aLe_s (aLe_s (aLe_s (aLe_s (aLe_n aLe_0)))))))))) ?_
                                          exact ih_89 _ (by have hm9 := Sh0_e hq_89; omega) (w + 1) J89 rfl ⟨qfl89, ⟨kJ89, by omega, j89, jw89, by rw [show (w + 1).toNat = w.toNat + 1 by omega]; exact jn89⟩⟩
                                        · simp only [w32_mod] at h_156
                                          refine ww_aload_n hX (pc := 159) dX11_rowsOf_159 rfl ?_
                                          refine ww_getR hX (pc := 160) fX11_83 (by decide) (xs_49 hL) (xr_49_35 hL) dX11_rowsOf_160 ?_
                                          refine ww_iload hX (pc := 163) dX11_rowsOf_163 rfl ?_
                                          refine ww_dup2 hX (pc := 165) dX11_rowsOf_165 ?_
                                          refine ww_lald hX (pc := 166) (xs_69 hL) (by decide) (by omega) (by omega) dX11_rowsOf_166 ?_
                                          refine ww_aload_n hX (pc := 167) dX11_rowsOf_167 rfl ?_
                                          refine ww_getR hX (pc := 168) fX11_80 (by decide) (xs_49 hL) (xr_49_34 hL) dX11_rowsOf_168 ?_
                                          refine ww_iload hX (pc := 171) dX11_rowsOf_171 rfl ?_
                                          refine ww_lald hX (pc := 173) (xs_68 hL) (by decide) (by omega) (by omega) dX11_rowsOf_173 ?_
                                          refine ww_ladd hX (pc := 174) dX11_rowsOf_174 ?_
                                          refine ww_last hX (pc := 175) (xs_69 hL) (by decide) (by omega) (by omega) dX11_rowsOf_175 ?_
                                          refine ww_nmK (fun J_175 eJ_175 => ?_)
                                          have kJ_175 : Kp 49 73 Ja J_175 := by rw [eJ_175]; exact Kp_up kJ89 _ _ (by decide)
                                          have qfJ_175 : QF I_1 J_175 vv := by rw [eJ_175]; exact QF_sJ qfl89 (by decide)
                                          have j175 : J_175 62 = J_1 62 := by rw [eJ_175, up2_off _ _ _ (by decide)]; exact j89
                                          have jw175 : JW (RW (Ia 51) (nxRf m Ia (I_1 61) (J_1 62)) e g (Ia 51 305).toNat (FU (Ia 51 304) + 1).toNat i.toNat) (FU (Ia 51 304) + 1).toNat (J_175 68) := by rw [eJ_175, up2_off _ _ _ (by decide)]; exact jw89
                                          have jn89 : JW (QW (Ia 51) (nxRf m Ia (I_1 61) (J_1 62)) e g (Ia 51 305).toNat (FU (Ia 51 304) + 1).toNat q.toNat (w.toNat + 1) (i.toNat + 1)) (FU (Ia 51 304) + 1).toNat (J_175 69) := by
                                            rw [eJ_175, up2_row]
                                            exact JW_add jq89 (to := x_148.toNat) (by rw [hnx0]; omega) (by omega) (by omega) (fun h9 => by omega) (jw89 q.toNat (by omega))
                                          refine ww_iinc hX (pc := 176) (lv' := [some (kR (some 49)), some (kI a), some (kI b), some (kI m), some (kI e), some (kI g), some (kI i), some (kI q), some (kI (w + 1)), some (kI x_148)]) dX11_rowsOf_176 rfl (by decide) rfl rfl ?_
                                          refine ww_goto hX (pc := 179) (tgt := 89) dX11_rowsOf_179 (by decide) ?_
                                          refine ww_sub [some (kR (some 49)), some (kI a), some (kI b), some (kI m), some (kI e), some (kI g), some (kI i), some (kI q), some (kI (w + 1)), none] (aLe_s (aLe_s (aLe_s (aLe_s (aLe_s (aLe_s (aLe_s (aLe_s (aLe_s (aLe_n aLe_0)))))))))) ?_
                                          exact ih_89 _ (by have hm9 := Sh0_e hq_89; omega) (w + 1) J_175 rfl ⟨qfJ_175, ⟨kJ_175, by omega, j175, jw175, by rw [show (w + 1).toNat = w.toNat + 1 by omega]; exact jn89⟩⟩
                                      · simp only [w32_mod] at h_136
                                        have jn89 : JW (QW (Ia 51) (nxRf m Ia (I_1 61) (J_1 62)) e g (Ia 51 305).toNat (FU (Ia 51 304) + 1).toNat q.toNat (w.toNat + 1) (i.toNat + 1)) (FU (Ia 51 304) + 1).toNat (J89 69) := JW_k jq89 (fun t => eW_j (by omega) (by omega))
                                        refine ww_goto hX (pc := 139) (tgt := 176) dX11_rowsOf_139 (by decide) ?_
                                        skip
                                        refine ww_iinc hX (pc := 176) (lv' := [some (kR (some 49)), some (kI a), some (kI b), some (kI m), some (kI e), some (kI g), some (kI i), some (kI q), some (kI (w + 1)), none]) dX11_rowsOf_176 rfl (by decide) rfl rfl ?_
                                        refine ww_goto hX (pc := 179) (tgt := 89) dX11_rowsOf_179 (by decide) ?_
                                        exact ih_89 _ (by have hm9 := Sh0_e hq_89; omega) (w + 1) J89 rfl ⟨qfl89, ⟨kJ89, by omega, j89, jw89, by rw [show (w + 1).toNat = w.toNat + 1 by omega]; exact jn89⟩⟩
                          exact hl_89 _ 0 J77 rfl ⟨qfl77, ⟨kJ77, by omega, j77, jw77, JW_s jp77⟩⟩
                    exact hl_77 _ 0 J51 rfl ⟨qfl51, ⟨kJ51, by omega, j51, jw51, by rw [show q.toNat = (FU (Ia 51 304) + 1).toNat by omega] at jz51; exact JW_a jz51⟩⟩
                  · simp only [w32_mod] at h_57
                    refine ww_aload_n hX (pc := 60) dX11_rowsOf_60 rfl ?_
                    refine ww_getR hX (pc := 61) fX11_83 (by decide) (xs_49 hL) (xr_49_35 hL) dX11_rowsOf_61 ?_
                    refine ww_iload hX (pc := 64) dX11_rowsOf_64 rfl ?_
                    refine ww_lconst hX (pc := 66) (x := 0) dX11_rowsOf_66 (by decide) ?_
                    refine ww_last hX (pc := 67) (xs_69 hL) (by decide) (by omega) (by omega) dX11_rowsOf_67 ?_
                    refine ww_nmK (fun J_67 eJ_67 => ?_)
                    have kJ_67 : Kp 49 73 Ja J_67 := by rw [eJ_67]; exact Kp_up kJ51 _ _ (by decide)
                    have qfJ_67 : QF I_1 J_67 vv := by rw [eJ_67]; exact QF_sJ qfl51 (by decide)
                    have j67 : J_67 62 = J_1 62 := by rw [eJ_67, up2_off _ _ _ (by decide)]; exact j51
                    have jw67 : JW (RW (Ia 51) (nxRf m Ia (I_1 61) (J_1 62)) e g (Ia 51 305).toNat (FU (Ia 51 304) + 1).toNat i.toNat) (FU (Ia 51 304) + 1).toNat (J_67 68) := by rw [eJ_67, up2_off _ _ _ (by decide)]; exact jw51
                    have jz67 : JW (fun _ => 0) (q.toNat + 1) (J_67 69) := by rw [eJ_67, up2_row]; exact JW_z jz51 rfl
                    refine ww_iinc hX (pc := 68) (lv' := [some (kR (some 49)), some (kI a), some (kI b), some (kI m), some (kI e), some (kI g), some (kI i), some (kI (q + 1)), none, none]) dX11_rowsOf_68 rfl (by decide) rfl rfl ?_
                    refine ww_goto hX (pc := 71) (tgt := 51) dX11_rowsOf_71 (by decide) ?_
                    exact ih_51 _ (by have hm9 := Sh0_e hq_51; omega) (q + 1) J_67 rfl ⟨qfJ_67, ⟨kJ_67, by omega, j67, jw67, by rw [show (q + 1).toNat = q.toNat + 1 by omega]; exact jz67⟩⟩
              exact hl_51 _ 0 J42 rfl ⟨qfl42, ⟨kJ42, by omega, j42, jw42, fun t ht => absurd ht (Nat.not_lt_zero _)⟩⟩
        exact hl_42 _ 0 J7 rfl ⟨qfl7, ⟨kJ7, by omega, j7, by rw [show i.toNat = (FU (Ia 51 304) + 1).toNat by omega] at jw7; exact jw7⟩⟩
      · simp only [w32_mod] at h_13
        refine ww_aload_n hX (pc := 16) dX11_rowsOf_16 rfl ?_
        refine ww_getR hX (pc := 17) fX11_80 (by decide) (xs_49 hL) (xr_49_34 hL) dX11_rowsOf_17 ?_
        refine ww_iload hX (pc := 20) dX11_rowsOf_20 rfl ?_
        refine ww_iload hX (pc := 22) dX11_rowsOf_22 rfl ?_
        refine ww_if_ne hX (pc := 24) (tgt := 31) dX11_rowsOf_24 (by decide) (fun h_24 => ?_) (fun h_24 => ?_)
        · simp only [w32_mod] at h_24
          refine ww_lconst hX (pc := 31) (x := 0) dX11_rowsOf_31 (by decide) ?_
          refine ww_last hX (pc := 32) (xs_68 hL) (by decide) (by omega) (by omega) dX11_rowsOf_32 ?_
          refine ww_nmK (fun J_32 eJ_32 => ?_)
          have kJ_32 : Kp 49 73 Ja J_32 := by rw [eJ_32]; exact Kp_up kJ7 _ _ (by decide)
          have qfJ_32 : QF I_1 J_32 vv := by rw [eJ_32]; exact QF_sJ qfl7 (by decide)
          have j32 : J_32 62 = J_1 62 := by rw [eJ_32, up2_off _ _ _ (by decide)]; exact j7
          have jn7 : JW (RW (Ia 51) (nxRf m Ia (I_1 61) (J_1 62)) e g (Ia 51 305).toNat (FU (Ia 51 304) + 1).toNat 0) (i.toNat + 1) (J_32 68) := by
            rw [eJ_32, up2_row]
            exact JW_0 jw7 (by first | exact (if_pos (by omega)).symm | exact (if_neg (by omega)).symm)
          refine ww_iinc hX (pc := 33) (lv' := [some (kR (some 49)), some (kI a), some (kI b), some (kI m), some (kI e), some (kI g), some (kI (i + 1)), none, none, none]) dX11_rowsOf_33 rfl (by decide) rfl rfl ?_
          refine ww_goto hX (pc := 36) (tgt := 7) dX11_rowsOf_36 (by decide) ?_
          exact ih_7 _ (by have hm9 := Sh0_e hq_7; omega) (i + 1) J_32 rfl ⟨qfJ_32, ⟨kJ_32, by omega, j32, by rw [show (i + 1).toNat = i.toNat + 1 by omega]; exact jn7⟩⟩
        · simp only [w32_mod] at h_24
          refine ww_lconst hX (pc := 27) (x := 1) dX11_rowsOf_27 (by decide) ?_
          refine ww_goto hX (pc := 28) (tgt := 32) dX11_rowsOf_28 (by decide) ?_
          refine ww_last hX (pc := 32) (xs_68 hL) (by decide) (by omega) (by omega) dX11_rowsOf_32 ?_
          refine ww_nmK (fun J_32 eJ_32 => ?_)
          have kJ_32 : Kp 49 73 Ja J_32 := by rw [eJ_32]; exact Kp_up kJ7 _ _ (by decide)
          have qfJ_32 : QF I_1 J_32 vv := by rw [eJ_32]; exact QF_sJ qfl7 (by decide)
          have j32 : J_32 62 = J_1 62 := by rw [eJ_32, up2_off _ _ _ (by decide)]; exact j7
          have jn7 : JW (RW (Ia 51) (nxRf m Ia (I_1 61) (J_1 62)) e g (Ia 51 305).toNat (FU (Ia 51 304) + 1).toNat 0) (i.toNat + 1) (J_32 68) := by
            rw [eJ_32, up2_row]
            exact JW_0 jw7 (by first | exact (if_pos (by omega)).symm | exact (if_neg (by omega)).symm)
          refine ww_iinc hX (pc := 33) (lv' := [some (kR (some 49)), some (kI a), some (kI b), some (kI m), some (kI e), some (kI g), some (kI (i + 1)), none, none, none]) dX11_rowsOf_33 rfl (by decide) rfl rfl ?_
          refine ww_goto hX (pc := 36) (tgt := 7) dX11_rowsOf_36 (by decide) ?_
          exact ih_7 _ (by have hm9 := Sh0_e hq_7; omega) (i + 1) J_32 rfl ⟨qfJ_32, ⟨kJ_32, by omega, j32, by rw [show (i + 1).toNat = i.toNat + 1 by omega]; exact jn7⟩⟩
  exact hl_7 _ 0 J_1 rfl ⟨hqf, ⟨kJ_1, by omega, rfl, fun t ht => absurd ht (Nat.not_lt_zero _)⟩⟩
