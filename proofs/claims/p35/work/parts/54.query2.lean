section
set_option maxHeartbeats 4000000 in
set_option maxRecDepth 20000 in
theorem c_X11_rowsOf (l0 : Launch) {Ia Ja : aI1} {Ra : aR1} {Sa : aS1} (hL : LY Ra Sa) (hQ : RX Ia) {a b m e g : Int} (ha0 : 0 ≤ a) (ha1 : a ≤ 8) (hb0 : 0 ≤ b) (hb1 : b ≤ 255)  : CT l0 5 0 0 mX11_rowsOf [kR (some 49), kI a, kI b, kI m, kI e, kI g] Ia Ja Ra Sa (cJ (fun x I' J' => Ch [61] [25] Ia I' ∧ Kp 49 73 Ja J' ∧ RX I' ∧ True) Ra Sa) := by
  refine ct_in pn_X11 (Nat.le_of_ble_eq_true rfl) (fun X hX hT hIn => ?_)
  have hX : aK l0 X cX11_rowsOf 10 RX11 (some .long) 5 0 0 := hX
  change WW X 0 [some (kR (some 49)), some (kI a), some (kI b), some (kI m), some (kI e), some (kI g), none, none, none, none] [] Ia Ja Ra Sa 0 0
  have qIa := RX_s hQ
  refine ww_aload_n hX (pc := 0) dX11_rowsOf_0 rfl ?_
  refine vV0 hX (pc := 1) sX11_294 (xs_49 hL) (c_X11_looks l0 hL hQ ) (by decide) (Nat.le_refl 0) (Nat.le_refl 0) (Nat.le_of_ble_eq_true rfl) dX11_rowsOf_1 (fun I_1 J_1 h_1 => ?_)
  have kJ_1 : Kp 49 73 Ja J_1 := Kp_tr (Kp_rf (a := 49) (b := 73)) h_1.2.1
  have kI_1 : Ch [61] [25] Ia I_1 := Ch_tr Ch_rf (Ch_wd h_1.1 (by decide) (by decide))
  have cI_1 : RX I_1 := h_1.2.2.1
  have qI_1 := RX_s cI_1
  have r304_I_1 : I_1 51 304 = Ia 51 304 := by rw [h_1.1.1 51 (by decide) (by decide)]
  have r305_I_1 : I_1 51 305 = Ia 51 305 := by rw [h_1.1.1 51 (by decide) (by decide)]
  have rf_I_1 : FU (I_1 51 304) = FU (Ia 51 304) := by rw [r304_I_1]
  refine ww_iconst hX (pc := 4) (x := 0) dX11_rowsOf_4 rfl ?_
  refine ww_istore hX (pc := 5) (lv' := [some (kR (some 49)), some (kI a), some (kI b), some (kI m), some (kI e), some (kI g), some (kI 0), none, none, none]) dX11_rowsOf_5 (by decide) rfl rfl ?_
  have hl_7 : ∀ (n_7 : Nat) (i : Int) (J7 : aI1), (256 - i).toNat = n_7 → (Kp 49 73 Ja J7 ∧ (0 ≤ i ∧ i ≤ 256)) → WW X 7 [some (kR (some 49)), some (kI a), some (kI b), some (kI m), some (kI e), some (kI g), some (kI i), none, none, none] [] I_1 J7 Ra Sa 0 0 := by
    intro n_7
    induction n_7 using Nat.strongRecOn with
    | ind n_7 ih_7 =>
      intro i J7 hm_7 hv_7
      have hq_7 := Sh0_i hm_7
      clear hm_7
      obtain ⟨kJ7, hv⟩ := hv_7
      refine ww_iload hX (pc := 7) dX11_rowsOf_7 rfl ?_
      refine ww_aload_n hX (pc := 9) dX11_rowsOf_9 rfl ?_
      refine vI0 hX (pc := 10) sX11_112 (xs_49 hL) (c_X11_states l0 hL cI_1 ) (by decide) (Nat.le_refl 0) (Nat.le_refl 0) (Nat.le_of_ble_eq_true rfl) dX11_rowsOf_10 (fun x_10 I_10 J_10 h_10 => ?_)
      obtain ⟨rfl, rfl, h_10⟩ := h_10
      refine ww_icmp_ge hX (pc := 13) (tgt := 39) dX11_rowsOf_13 (by decide) (fun h_13 => ?_) (fun h_13 => ?_)
      · simp only [w32_mod] at h_13
        refine ww_iconst hX (pc := 39) (x := 0) dX11_rowsOf_39 rfl ?_
        refine ww_istore hX (pc := 40) (lv' := [some (kR (some 49)), some (kI a), some (kI b), some (kI m), some (kI e), some (kI g), some (kI 0), none, none, none]) dX11_rowsOf_40 (by decide) rfl rfl ?_
        have hl_42 : ∀ (n_42 : Nat) (i : Int) (J42 : aI1), (8 - i).toNat = n_42 → (Kp 49 73 Ja J42 ∧ (0 ≤ i ∧ i ≤ 8)) → WW X 42 [some (kR (some 49)), some (kI a), some (kI b), some (kI m), some (kI e), some (kI g), some (kI i), none, none, none] [] I_1 J42 Ra Sa 0 0 := by
          intro n_42
          induction n_42 using Nat.strongRecOn with
          | ind n_42 ih_42 =>
            intro i J42 hm_42 hv_42
            have hq_42 := Sh0_i hm_42
            clear hm_42
            obtain ⟨kJ42, hv⟩ := hv_42
            refine ww_iload hX (pc := 42) dX11_rowsOf_42 rfl ?_
            refine ww_iload_n hX (pc := 44) dX11_rowsOf_44 rfl ?_
            refine ww_icmp_ge hX (pc := 45) (tgt := 226) dX11_rowsOf_45 (by decide) (fun h_45 => ?_) (fun h_45 => ?_)
            · simp only [w32_mod] at h_45
              refine ww_aload_n hX (pc := 226) dX11_rowsOf_226 rfl ?_
              refine ww_getR hX (pc := 227) fX11_80 (by decide) (xs_49 hL) (xr_49_34 hL) dX11_rowsOf_227 ?_
              refine ww_iload_n hX (pc := 230) dX11_rowsOf_230 rfl ?_
              refine ww_lald hX (pc := 231) (xs_68 hL) (by decide) (by omega) (by omega) dX11_rowsOf_231 ?_
              refine rJ hX (pc := 232) hT (Nat.le_refl 0) (Nat.le_refl 0) dX11_rowsOf_232 ?_
              exact ⟨kI_1, kJ42, cI_1, trivial⟩
            · simp only [w32_mod] at h_45
              refine ww_iconst hX (pc := 48) (x := 0) dX11_rowsOf_48 rfl ?_
              refine ww_istore hX (pc := 49) (lv' := [some (kR (some 49)), some (kI a), some (kI b), some (kI m), some (kI e), some (kI g), some (kI i), some (kI 0), none, none]) dX11_rowsOf_49 (by decide) rfl rfl ?_
              have hl_51 : ∀ (n_51 : Nat) (q : Int) (J51 : aI1), (256 - q).toNat = n_51 → (Kp 49 73 Ja J51 ∧ (0 ≤ q ∧ q ≤ 256)) → WW X 51 [some (kR (some 49)), some (kI a), some (kI b), some (kI m), some (kI e), some (kI g), some (kI i), some (kI q), none, none] [] I_1 J51 Ra Sa 0 0 := by
                intro n_51
                induction n_51 using Nat.strongRecOn with
                | ind n_51 ih_51 =>
                  intro q J51 hm_51 hv_51
                  have hq_51 := Sh0_i hm_51
                  clear hm_51
                  obtain ⟨kJ51, hu⟩ := hv_51
                  refine ww_iload hX (pc := 51) dX11_rowsOf_51 rfl ?_
                  refine ww_aload_n hX (pc := 53) dX11_rowsOf_53 rfl ?_
                  refine vI0 hX (pc := 54) sX11_112 (xs_49 hL) (c_X11_states l0 hL cI_1 ) (by decide) (Nat.le_refl 0) (Nat.le_refl 0) (Nat.le_of_ble_eq_true rfl) dX11_rowsOf_54 (fun x_54 I_54 J_54 h_54 => ?_)
                  obtain ⟨rfl, rfl, h_54⟩ := h_54
                  refine ww_icmp_ge hX (pc := 57) (tgt := 74) dX11_rowsOf_57 (by decide) (fun h_57 => ?_) (fun h_57 => ?_)
                  · simp only [w32_mod] at h_57
                    refine ww_iconst hX (pc := 74) (x := 0) dX11_rowsOf_74 rfl ?_
                    refine ww_istore hX (pc := 75) (lv' := [some (kR (some 49)), some (kI a), some (kI b), some (kI m), some (kI e), some (kI g), some (kI i), some (kI 0), none, none]) dX11_rowsOf_75 (by decide) rfl rfl ?_
                    have hl_77 : ∀ (n_77 : Nat) (q : Int) (J77 : aI1), (256 - q).toNat = n_77 → (Kp 49 73 Ja J77 ∧ (0 ≤ q ∧ q ≤ 256)) → WW X 77 [some (kR (some 49)), some (kI a), some (kI b), some (kI m), some (kI e), some (kI g), some (kI i), some (kI q), none, none] [] I_1 J77 Ra Sa 0 0 := by
                      intro n_77
                      induction n_77 using Nat.strongRecOn with
                      | ind n_77 ih_77 =>
                        intro q J77 hm_77 hv_77
                        have hq_77 := Sh0_i hm_77
                        clear hm_77
                        obtain ⟨kJ77, hu⟩ := hv_77
                        refine ww_iload hX (pc := 77) dX11_rowsOf_77 rfl ?_
                        refine ww_aload_n hX (pc := 79) dX11_rowsOf_79 rfl ?_
                        refine vI0 hX (pc := 80) sX11_112 (xs_49 hL) (c_X11_states l0 hL cI_1 ) (by decide) (Nat.le_refl 0) (Nat.le_refl 0) (Nat.le_of_ble_eq_true rfl) dX11_rowsOf_80 (fun x_80 I_80 J_80 h_80 => ?_)
                        obtain ⟨rfl, rfl, h_80⟩ := h_80
                        refine ww_icmp_ge hX (pc := 83) (tgt := 188) dX11_rowsOf_83 (by decide) (fun h_83 => ?_) (fun h_83 => ?_)
                        · simp only [w32_mod] at h_83
                          refine ww_iconst hX (pc := 188) (x := 0) dX11_rowsOf_188 rfl ?_
                          refine ww_istore hX (pc := 189) (lv' := [some (kR (some 49)), some (kI a), some (kI b), some (kI m), some (kI e), some (kI g), some (kI i), some (kI 0), none, none]) dX11_rowsOf_189 (by decide) rfl rfl ?_
                          have hl_191 : ∀ (n_191 : Nat) (q : Int) (J191 : aI1), (256 - q).toNat = n_191 → (Kp 49 73 Ja J191 ∧ (0 ≤ q ∧ q ≤ 256)) → WW X 191 [some (kR (some 49)), some (kI a), some (kI b), some (kI m), some (kI e), some (kI g), some (kI i), some (kI q), none, none] [] I_1 J191 Ra Sa 0 0 := by
                            intro n_191
                            induction n_191 using Nat.strongRecOn with
                            | ind n_191 ih_191 =>
                              intro q J191 hm_191 hv_191
                              have hq_191 := Sh0_i hm_191
                              clear hm_191
                              obtain ⟨kJ191, hu⟩ := hv_191
                              refine ww_iload hX (pc := 191) dX11_rowsOf_191 rfl ?_
                              refine ww_aload_n hX (pc := 193) dX11_rowsOf_193 rfl ?_
                              refine vI0 hX (pc := 194) sX11_112 (xs_49 hL) (c_X11_states l0 hL cI_1 ) (by decide) (Nat.le_refl 0) (Nat.le_refl 0) (Nat.le_of_ble_eq_true rfl) dX11_rowsOf_194 (fun x_194 I_194 J_194 h_194 => ?_)
                              obtain ⟨rfl, rfl, h_194⟩ := h_194
                              refine ww_icmp_ge hX (pc := 197) (tgt := 220) dX11_rowsOf_197 (by decide) (fun h_197 => ?_) (fun h_197 => ?_)
                              · simp only [w32_mod] at h_197
                                refine ww_iinc hX (pc := 220) (lv' := [some (kR (some 49)), some (kI a), some (kI b), some (kI m), some (kI e), some (kI g), some (kI (i + 1)), some (kI q), none, none]) dX11_rowsOf_220 rfl (by decide) rfl rfl ?_
                                refine ww_goto hX (pc := 223) (tgt := 42) dX11_rowsOf_223 (by decide) ?_
                                refine ww_sub [some (kR (some 49)), some (kI a), some (kI b), some (kI m), some (kI e), some (kI g), some (kI (i + 1)), none, none, none] (aLe_s (aLe_s (aLe_s (aLe_s (aLe_s (aLe_s (aLe_s (aLe_n (aLe_n (aLe_n aLe_0)))))))))) ?_
                                exact ih_42 _ (by have hm9 := Sh0_e hq_42; omega) (i + 1) J191 rfl ⟨kJ191, by omega⟩
                              · simp only [w32_mod] at h_197
                                refine ww_aload_n hX (pc := 200) dX11_rowsOf_200 rfl ?_
                                refine ww_getR hX (pc := 201) fX11_80 (by decide) (xs_49 hL) (xr_49_34 hL) dX11_rowsOf_201 ?_
                                refine ww_iload hX (pc := 204) dX11_rowsOf_204 rfl ?_
                                refine ww_aload_n hX (pc := 206) dX11_rowsOf_206 rfl ?_
                                refine ww_getR hX (pc := 207) fX11_83 (by decide) (xs_49 hL) (xr_49_35 hL) dX11_rowsOf_207 ?_
                                refine ww_iload hX (pc := 210) dX11_rowsOf_210 rfl ?_
                                refine ww_lald hX (pc := 212) (xs_69 hL) (by decide) (by omega) (by omega) dX11_rowsOf_212 ?_
                                refine ww_last hX (pc := 213) (xs_68 hL) (by decide) (by omega) (by omega) dX11_rowsOf_213 ?_
                                refine ww_nmK (fun J_213 eJ_213 => ?_)
                                have kJ_213 : Kp 49 73 Ja J_213 := by rw [eJ_213]; exact Kp_up kJ191 _ _ (by decide)
                                refine ww_iinc hX (pc := 214) (lv' := [some (kR (some 49)), some (kI a), some (kI b), some (kI m), some (kI e), some (kI g), some (kI i), some (kI (q + 1)), none, none]) dX11_rowsOf_214 rfl (by decide) rfl rfl ?_
                                refine ww_goto hX (pc := 217) (tgt := 191) dX11_rowsOf_217 (by decide) ?_
                                exact ih_191 _ (by have hm9 := Sh0_e hq_191; omega) (q + 1) J_213 rfl ⟨kJ_213, by omega⟩
                          exact hl_191 _ 0 J77 rfl ⟨kJ77, by omega⟩
                        · simp only [w32_mod] at h_83
                          refine ww_iconst hX (pc := 86) (x := 0) dX11_rowsOf_86 rfl ?_
                          refine ww_istore hX (pc := 87) (lv' := [some (kR (some 49)), some (kI a), some (kI b), some (kI m), some (kI e), some (kI g), some (kI i), some (kI q), some (kI 0), none]) dX11_rowsOf_87 (by decide) rfl rfl ?_
                          have hl_89 : ∀ (n_89 : Nat) (w : Int) (J89 : aI1), (8 - w).toNat = n_89 → (Kp 49 73 Ja J89 ∧ (0 ≤ w ∧ w ≤ 8)) → WW X 89 [some (kR (some 49)), some (kI a), some (kI b), some (kI m), some (kI e), some (kI g), some (kI i), some (kI q), some (kI w), none] [] I_1 J89 Ra Sa 0 0 := by
                            intro n_89
                            induction n_89 using Nat.strongRecOn with
                            | ind n_89 ih_89 =>
                              intro w J89 hm_89 hv_89
                              have hq_89 := Sh0_i hm_89
                              clear hm_89
                              obtain ⟨kJ89, hw⟩ := hv_89
                              refine ww_iload hX (pc := 89) dX11_rowsOf_89 rfl ?_
                              refine ww_aload_n hX (pc := 91) dX11_rowsOf_91 rfl ?_
                              refine ww_getR hX (pc := 92) fX11_20 (by decide) (xs_49 hL) (xr_49_3 hL) dX11_rowsOf_92 ?_
                              refine ww_sipush hX (pc := 95) (x := 305) dX11_rowsOf_95 (by decide) ?_
                              refine ww_iald hX (pc := 98) (xs_51 hL) (by decide) (by omega) (by omega) dX11_rowsOf_98 ?_
                              refine ww_toI (b := I_1 51 305) rfl ?_
                              refine ww_icmp_ge hX (pc := 99) (tgt := 182) dX11_rowsOf_99 (by decide) (fun h_99 => ?_) (fun h_99 => ?_)
                              · simp only [w32_mod] at h_99
                                refine ww_iinc hX (pc := 182) (lv' := [some (kR (some 49)), some (kI a), some (kI b), some (kI m), some (kI e), some (kI g), some (kI i), some (kI (q + 1)), some (kI w), none]) dX11_rowsOf_182 rfl (by decide) rfl rfl ?_
                                refine ww_goto hX (pc := 185) (tgt := 77) dX11_rowsOf_185 (by decide) ?_
                                refine ww_sub [some (kR (some 49)), some (kI a), some (kI b), some (kI m), some (kI e), some (kI g), some (kI i), some (kI (q + 1)), none, none] (aLe_s (aLe_s (aLe_s (aLe_s (aLe_s (aLe_s (aLe_s (aLe_s (aLe_n (aLe_n aLe_0)))))))))) ?_
                                exact ih_77 _ (by have hm9 := Sh0_e hq_77; omega) (q + 1) J89 rfl ⟨kJ89, by omega⟩
                              · simp only [w32_mod] at h_99
                                refine ww_aload_n hX (pc := 102) dX11_rowsOf_102 rfl ?_
                                refine ww_getR hX (pc := 103) fX11_80 (by decide) (xs_49 hL) (xr_49_34 hL) dX11_rowsOf_103 ?_
                                refine ww_iload hX (pc := 106) dX11_rowsOf_106 rfl ?_
                                refine ww_lald hX (pc := 108) (xs_68 hL) (by decide) (by omega) (by omega) dX11_rowsOf_108 ?_
                                refine ww_lconst hX (pc := 109) (x := 0) dX11_rowsOf_109 (by decide) ?_
                                refine ww_lcmp hX (pc := 110) dX11_rowsOf_110 ?_
                                refine ww_if_le hX (pc := 111) (tgt := 182) dX11_rowsOf_111 (by decide) (fun h_111 => ?_) (fun h_111 => ?_)
                                · simp only [w32_mod] at h_111
                                  refine ww_iinc hX (pc := 182) (lv' := [some (kR (some 49)), some (kI a), some (kI b), some (kI m), some (kI e), some (kI g), some (kI i), some (kI (q + 1)), some (kI w), none]) dX11_rowsOf_182 rfl (by decide) rfl rfl ?_
                                  refine ww_goto hX (pc := 185) (tgt := 77) dX11_rowsOf_185 (by decide) ?_
                                  refine ww_sub [some (kR (some 49)), some (kI a), some (kI b), some (kI m), some (kI e), some (kI g), some (kI i), some (kI (q + 1)), none, none] (aLe_s (aLe_s (aLe_s (aLe_s (aLe_s (aLe_s (aLe_s (aLe_s (aLe_n (aLe_n aLe_0)))))))))) ?_
                                  exact ih_77 _ (by have hm9 := Sh0_e hq_77; omega) (q + 1) J89 rfl ⟨kJ89, by omega⟩
                                · simp only [w32_mod] at h_111
                                  refine ww_iload hX (pc := 114) dX11_rowsOf_114 rfl ?_
                                  refine ww_aload_n hX (pc := 116) dX11_rowsOf_116 rfl ?_
                                  refine ww_iload hX (pc := 117) dX11_rowsOf_117 rfl ?_
                                  refine vI1 hX (pc := 119) sX11_126 (xs_49 hL) (c_X11_readOf l0 hL cI_1 (by omega) (by omega)) (by decide) (Nat.le_refl 0) (Nat.le_refl 0) (Nat.le_of_ble_eq_true rfl) dX11_rowsOf_119 (fun x_119 I_119 J_119 h_119 => ?_)
                                  obtain ⟨rfl, rfl, h_119⟩ := h_119
                                  refine ww_icmp_eq hX (pc := 122) (tgt := 176) dX11_rowsOf_122 (by decide) (fun h_122 => ?_) (fun h_122 => ?_)
                                  · simp only [w32_mod] at h_122
                                    refine ww_iinc hX (pc := 176) (lv' := [some (kR (some 49)), some (kI a), some (kI b), some (kI m), some (kI e), some (kI g), some (kI i), some (kI q), some (kI (w + 1)), none]) dX11_rowsOf_176 rfl (by decide) rfl rfl ?_
                                    refine ww_goto hX (pc := 179) (tgt := 89) dX11_rowsOf_179 (by decide) ?_
                                    exact ih_89 _ (by have hm9 := Sh0_e hq_89; omega) (w + 1) J89 rfl ⟨kJ89, by omega⟩
                                  · simp only [w32_mod] at h_122
                                    refine ww_iload hX (pc := 125) dX11_rowsOf_125 rfl ?_
                                    refine ww_iload hX (pc := 127) dX11_rowsOf_127 rfl ?_
                                    refine ww_icmp_ne hX (pc := 129) (tgt := 142) dX11_rowsOf_129 (by decide) (fun h_129 => ?_) (fun h_129 => ?_)
                                    · simp only [w32_mod] at h_129
                                      refine ww_aload_n hX (pc := 142) dX11_rowsOf_142 rfl ?_
                                      refine ww_iload hX (pc := 143) dX11_rowsOf_143 rfl ?_
                                      refine ww_iload hX (pc := 145) dX11_rowsOf_145 rfl ?_
                                      refine ww_iload_n hX (pc := 147) dX11_rowsOf_147 rfl ?_
                                      refine vI3 hX (pc := 148) sX11_311 (xs_49 hL) (c_X11_nextOf l0 hL cI_1 (by omega) (by omega)) (by decide) (Nat.le_refl 0) (Nat.le_refl 0) (Nat.le_of_ble_eq_true rfl) dX11_rowsOf_148 (fun x_148 I_148 J_148 h_148 => ?_)
                                      obtain ⟨rfl, rfl, h_148⟩ := h_148
                                      refine ww_istore hX (pc := 151) (lv' := [some (kR (some 49)), some (kI a), some (kI b), some (kI m), some (kI e), some (kI g), some (kI i), some (kI q), some (kI w), some (kI x_148)]) dX11_rowsOf_151 (by decide) rfl rfl ?_
                                      refine ww_iload hX (pc := 153) dX11_rowsOf_153 rfl ?_
                                      refine ww_iconst hX (pc := 155) (x := (-1)) dX11_rowsOf_155 rfl ?_
                                      refine ww_icmp_eq hX (pc := 156) (tgt := 176) dX11_rowsOf_156 (by decide) (fun h_156 => ?_) (fun h_156 => ?_)
                                      · simp only [w32_mod] at h_156
                                        refine ww_iinc hX (pc := 176) (lv' := [some (kR (some 49)), some (kI a), some (kI b), some (kI m), some (kI e), some (kI g), some (kI i), some (kI q), some (kI (w + 1)), some (kI x_148)]) dX11_rowsOf_176 rfl (by decide) rfl rfl ?_
                                        refine ww_goto hX (pc := 179) (tgt := 89) dX11_rowsOf_179 (by decide) ?_
                                        refine ww_sub [some (kR (some 49)), some (kI a), some (kI b), some (kI m), some (kI e), some (kI g), some (kI i), some (kI q), some (kI (w + 1)), none] (aLe_s (aLe_s (aLe_s (aLe_s (aLe_s (aLe_s (aLe_s (aLe_s (aLe_s (aLe_n aLe_0)))))))))) ?_
                                        exact ih_89 _ (by have hm9 := Sh0_e hq_89; omega) (w + 1) J89 rfl ⟨kJ89, by omega⟩
                                      · simp only [w32_mod] at h_156
                                        refine ww_aload_n hX (pc := 159) dX11_rowsOf_159 rfl ?_
                                        refine ww_getR hX (pc := 160) fX11_83 (by decide) (xs_49 hL) (xr_49_35 hL) dX11_rowsOf_160 ?_
                                        refine ww_iload hX (pc := 163) dX11_rowsOf_163 rfl ?_
                                        refine ww_dup2 hX (pc := 165) dX11_rowsOf_165 ?_
                                        refine ww_lald hX (pc := 166) (xs_69 hL) (by decide) (by omega) (by omega) dX11_rowsOf_166 ?_
                                        refine ww_aload_n hX (pc := 167) dX11_rowsOf_167 rfl ?_
                                        refine ww_getR hX (pc := 168) fX11_80 (by decide) (xs_49 hL) (xr_49_34 hL) dX11_rowsOf_168 ?_
                                        refine ww_iload hX (pc := 171) dX11_rowsOf_171 rfl ?_
                                        refine ww_lald hX (pc := 173) (xs_68 hL) (by decide) (by omega) (by omega) dX11_rowsOf_173 ?_
                                        refine ww_ladd hX (pc := 174) dX11_rowsOf_174 ?_
                                        refine ww_last hX (pc := 175) (xs_69 hL) (by decide) (by omega) (by omega) dX11_rowsOf_175 ?_
                                        refine ww_nmK (fun J_175 eJ_175 => ?_)
                                        have kJ_175 : Kp 49 73 Ja J_175 := by rw [eJ_175]; exact Kp_up kJ89 _ _ (by decide)
                                        refine ww_iinc hX (pc := 176) (lv' := [some (kR (some 49)), some (kI a), some (kI b), some (kI m), some (kI e), some (kI g), some (kI i), some (kI q), some (kI (w + 1)), some (kI x_148)]) dX11_rowsOf_176 rfl (by decide) rfl rfl ?_
                                        refine ww_goto hX (pc := 179) (tgt := 89) dX11_rowsOf_179 (by decide) ?_
                                        refine ww_sub [some (kR (some 49)), some (kI a), some (kI b), some (kI m), some (kI e), some (kI g), some (kI i), some (kI q), some (kI (w + 1)), none] (aLe_s (aLe_s (aLe_s (aLe_s (aLe_s (aLe_s (aLe_s (aLe_s (aLe_s (aLe_n aLe_0)))))))))) ?_
                                        exact ih_89 _ (by have hm9 := Sh0_e hq_89; omega) (w + 1) J_175 rfl ⟨kJ_175, by omega⟩
                                    · simp only [w32_mod] at h_129
                                      refine ww_iload hX (pc := 132) dX11_rowsOf_132 rfl ?_
                                      refine ww_iload hX (pc := 134) dX11_rowsOf_134 rfl ?_
                                      refine ww_icmp_eq hX (pc := 136) (tgt := 142) dX11_rowsOf_136 (by decide) (fun h_136 => ?_) (fun h_136 => ?_)
                                      · simp only [w32_mod] at h_136
                                        refine ww_aload_n hX (pc := 142) dX11_rowsOf_142 rfl ?_
                                        refine ww_iload hX (pc := 143) dX11_rowsOf_143 rfl ?_
                                        refine ww_iload hX (pc := 145) dX11_rowsOf_145 rfl ?_
                                        refine ww_iload_n hX (pc := 147) dX11_rowsOf_147 rfl ?_
                                        refine vI3 hX (pc := 148) sX11_311 (xs_49 hL) (c_X11_nextOf l0 hL cI_1 (by omega) (by omega)) (by decide) (Nat.le_refl 0) (Nat.le_refl 0) (Nat.le_of_ble_eq_true rfl) dX11_rowsOf_148 (fun x_148 I_148 J_148 h_148 => ?_)
                                        obtain ⟨rfl, rfl, h_148⟩ := h_148
                                        refine ww_istore hX (pc := 151) (lv' := [some (kR (some 49)), some (kI a), some (kI b), some (kI m), some (kI e), some (kI g), some (kI i), some (kI q), some (kI w), some (kI x_148)]) dX11_rowsOf_151 (by decide) rfl rfl ?_
                                        refine ww_iload hX (pc := 153) dX11_rowsOf_153 rfl ?_
                                        refine ww_iconst hX (pc := 155) (x := (-1)) dX11_rowsOf_155 rfl ?_
                                        refine ww_icmp_eq hX (pc := 156) (tgt := 176) dX11_rowsOf_156 (by decide) (fun h_156 => ?_) (fun h_156 => ?_)
                                        · simp only [w32_mod] at h_156
                                          refine ww_iinc hX (pc := 176) (lv' := [some (kR (some 49)), some (kI a), some (kI b), some (kI m), some (kI e), some (kI g), some (kI i), some (kI q), some (kI (w + 1)), some (kI x_148)]) dX11_rowsOf_176 rfl (by decide) rfl rfl ?_
                                          refine ww_goto hX (pc := 179) (tgt := 89) dX11_rowsOf_179 (by decide) ?_
                                          refine ww_sub [some (kR (some 49)), some (kI a), some (kI b), some (kI m), some (kI e), some (kI g), some (kI i), some (kI q), some (kI (w + 1)), none] (aLe_s (aLe_s (aLe_s (aLe_s (aLe_s (aLe_s (aLe_s (aLe_s (aLe_s (aLe_n aLe_0)))))))))) ?_
                                          exact ih_89 _ (by have hm9 := Sh0_e hq_89; omega) (w + 1) J89 rfl ⟨kJ89, by omega⟩
                                        · simp only [w32_mod] at h_156
                                          refine ww_aload_n hX (pc := 159) dX11_rowsOf_159 rfl ?_
                                          refine ww_getR hX (pc := 160) fX11_83 (by decide) (xs_49 hL) (xr_49_35 hL) dX11_rowsOf_160 ?_
                                          refine ww_iload hX (pc := 163) dX11_rowsOf_163 rfl ?_
                                          refine ww_dup2 hX (pc := 165) dX11_rowsOf_165 ?_
                                          refine ww_lald hX (pc := 166) (xs_69 hL) (by decide) (by omega) (by omega) dX11_rowsOf_166 ?_
                                          refine ww_aload_n hX (pc := 167) dX11_rowsOf_167 rfl ?_
                                          refine ww_getR hX (pc := 168) fX11_80 (by decide) (xs_49 hL) (xr_49_34 hL) dX11_rowsOf_168 ?_
                                          refine ww_iload hX (pc := 171) dX11_rowsOf_171 rfl ?_
                                          refine ww_lald hX (pc := 173) (xs_68 hL) (by decide) (by omega) (by omega) dX11_rowsOf_173 ?_
                                          refine ww_ladd hX (pc := 174) dX11_rowsOf_174 ?_
                                          refine ww_last hX (pc := 175) (xs_69 hL) (by decide) (by omega) (by omega) dX11_rowsOf_175 ?_
                                          refine ww_nmK (fun J_175 eJ_175 => ?_)
                                          have kJ_175 : Kp 49 73 Ja J_175 := by rw [eJ_175]; exact Kp_up kJ89 _ _ (by decide)
                                          refine ww_iinc hX (pc := 176) (lv' := [some (kR (some 49)), some (kI a), some (kI b), some (kI m), some (kI e), some (kI g), some (kI i), some (kI q), some (kI (w + 1)), some (kI x_148)]) dX11_rowsOf_176 rfl (by decide) rfl rfl ?_
                                          refine ww_goto hX (pc := 179) (tgt := 89) dX11_rowsOf_179 (by decide) ?_
                                          refine ww_sub [some (kR (some 49)), some (kI a), some (kI b), some (kI m), some (kI e), some (kI g), some (kI i), some (kI q), some (kI (w + 1)), none] (aLe_s (aLe_s (aLe_s (aLe_s (aLe_s (aLe_s (aLe_s (aLe_s (aLe_s (aLe_n aLe_0)))))))))) ?_
                                          exact ih_89 _ (by have hm9 := Sh0_e hq_89; omega) (w + 1) J_175 rfl ⟨kJ_175, by omega⟩
                                      · simp only [w32_mod] at h_136
                                        refine ww_goto hX (pc := 139) (tgt := 176) dX11_rowsOf_139 (by decide) ?_
                                        refine ww_iinc hX (pc := 176) (lv' := [some (kR (some 49)), some (kI a), some (kI b), some (kI m), some (kI e), some (kI g), some (kI i), some (kI q), some (kI (w + 1)), none]) dX11_rowsOf_176 rfl (by decide) rfl rfl ?_
                                        refine ww_goto hX (pc := 179) (tgt := 89) dX11_rowsOf_179 (by decide) ?_
                                        exact ih_89 _ (by have hm9 := Sh0_e hq_89; omega) (w + 1) J89 rfl ⟨kJ89, by omega⟩
                          exact hl_89 _ 0 J77 rfl ⟨kJ77, by omega⟩
                    exact hl_77 _ 0 J51 rfl ⟨kJ51, by omega⟩
                  · simp only [w32_mod] at h_57
                    refine ww_aload_n hX (pc := 60) dX11_rowsOf_60 rfl ?_
                    refine ww_getR hX (pc := 61) fX11_83 (by decide) (xs_49 hL) (xr_49_35 hL) dX11_rowsOf_61 ?_
                    refine ww_iload hX (pc := 64) dX11_rowsOf_64 rfl ?_
                    refine ww_lconst hX (pc := 66) (x := 0) dX11_rowsOf_66 (by decide) ?_
                    refine ww_last hX (pc := 67) (xs_69 hL) (by decide) (by omega) (by omega) dX11_rowsOf_67 ?_
                    refine ww_nmK (fun J_67 eJ_67 => ?_)
                    have kJ_67 : Kp 49 73 Ja J_67 := by rw [eJ_67]; exact Kp_up kJ51 _ _ (by decide)
                    refine ww_iinc hX (pc := 68) (lv' := [some (kR (some 49)), some (kI a), some (kI b), some (kI m), some (kI e), some (kI g), some (kI i), some (kI (q + 1)), none, none]) dX11_rowsOf_68 rfl (by decide) rfl rfl ?_
                    refine ww_goto hX (pc := 71) (tgt := 51) dX11_rowsOf_71 (by decide) ?_
                    exact ih_51 _ (by have hm9 := Sh0_e hq_51; omega) (q + 1) J_67 rfl ⟨kJ_67, by omega⟩
              exact hl_51 _ 0 J42 rfl ⟨kJ42, by omega⟩
        exact hl_42 _ 0 J7 rfl ⟨kJ7, by omega⟩
      · simp only [w32_mod] at h_13
        refine ww_aload_n hX (pc := 16) dX11_rowsOf_16 rfl ?_
        refine ww_getR hX (pc := 17) fX11_80 (by decide) (xs_49 hL) (xr_49_34 hL) dX11_rowsOf_17 ?_
        refine ww_iload hX (pc := 20) dX11_rowsOf_20 rfl ?_
        refine ww_iload hX (pc := 22) dX11_rowsOf_22 rfl ?_
        refine ww_if_ne hX (pc := 24) (tgt := 31) dX11_rowsOf_24 (by decide) (fun h_24 => ?_) (fun h_24 => ?_)
        · simp only [w32_mod] at h_24
          refine ww_lconst hX (pc := 31) (x := 0) dX11_rowsOf_31 (by decide) ?_
          refine ww_last hX (pc := 32) (xs_68 hL) (by decide) (by omega) (by omega) dX11_rowsOf_32 ?_
          refine ww_nmK (fun J_32 eJ_32 => ?_)
          have kJ_32 : Kp 49 73 Ja J_32 := by rw [eJ_32]; exact Kp_up kJ7 _ _ (by decide)
          refine ww_iinc hX (pc := 33) (lv' := [some (kR (some 49)), some (kI a), some (kI b), some (kI m), some (kI e), some (kI g), some (kI (i + 1)), none, none, none]) dX11_rowsOf_33 rfl (by decide) rfl rfl ?_
          refine ww_goto hX (pc := 36) (tgt := 7) dX11_rowsOf_36 (by decide) ?_
          exact ih_7 _ (by have hm9 := Sh0_e hq_7; omega) (i + 1) J_32 rfl ⟨kJ_32, by omega⟩
        · simp only [w32_mod] at h_24
          refine ww_lconst hX (pc := 27) (x := 1) dX11_rowsOf_27 (by decide) ?_
          refine ww_goto hX (pc := 28) (tgt := 32) dX11_rowsOf_28 (by decide) ?_
          refine ww_last hX (pc := 32) (xs_68 hL) (by decide) (by omega) (by omega) dX11_rowsOf_32 ?_
          refine ww_nmK (fun J_32 eJ_32 => ?_)
          have kJ_32 : Kp 49 73 Ja J_32 := by rw [eJ_32]; exact Kp_up kJ7 _ _ (by decide)
          refine ww_iinc hX (pc := 33) (lv' := [some (kR (some 49)), some (kI a), some (kI b), some (kI m), some (kI e), some (kI g), some (kI (i + 1)), none, none, none]) dX11_rowsOf_33 rfl (by decide) rfl rfl ?_
          refine ww_goto hX (pc := 36) (tgt := 7) dX11_rowsOf_36 (by decide) ?_
          exact ih_7 _ (by have hm9 := Sh0_e hq_7; omega) (i + 1) J_32 rfl ⟨kJ_32, by omega⟩
  exact hl_7 _ 0 J_1 rfl ⟨kJ_1, by omega⟩
set_option maxHeartbeats 4000000 in
set_option maxRecDepth 20000 in
theorem c_X11_rows (l0 : Launch) {Ia Ja : aI1} {Ra : aR1} {Sa : aS1} (hL : LY Ra Sa) (hQ : RX Ia) {a b c : Int} (ha0 : -2147483648 ≤ a) (ha1 : a < 2147483648) (hb0 : -2147483648 ≤ b) (hb1 : b < 2147483648) (hc0 : -2147483648 ≤ c) (hc1 : c < 2147483648)  : CT l0 6 0 0 mX11_rows [kR (some 49), kI a, kI b, kI c] Ia Ja Ra Sa (cJ (fun x I' J' => Ch [61] [25] Ia I' ∧ Kp 49 73 Ja J' ∧ RX I' ∧ True) Ra Sa) := by
  refine ct_in pn_X11 (Nat.le_of_ble_eq_true rfl) (fun X hX hT hIn => ?_)
  have hX : aK l0 X cX11_rows 4 RX11 (some .long) 6 0 0 := hX
  change WW X 0 [some (kR (some 49)), some (kI a), some (kI b), some (kI c)] [] Ia Ja Ra Sa 0 0
  have qIa := RX_o hQ
  refine ww_iload_n hX (pc := 0) dX11_rows_0 rfl ?_
  refine ww_iconst hX (pc := 1) (x := 0) dX11_rows_1 rfl ?_
  refine ww_bipush hX (pc := 2) (x := 8) dX11_rows_2 (by decide) ?_
  refine sI3 hX (pc := 4) sX11_101 (c_X11_lies l0 (by omega) (by omega) (by omega) (by omega) (by omega) (by omega)) (by decide) (Nat.le_refl 0) (Nat.le_refl 0) (Nat.le_of_ble_eq_true rfl) dX11_rows_4 (fun x_4 I_4 J_4 h_4 => ?_)
  obtain ⟨rfl, rfl, h_4⟩ := h_4
  refine ww_if_eq hX (pc := 7) (tgt := 37) dX11_rows_7 (by decide) (fun h_7 => ?_) (fun h_7 => ?_)
  · simp only [w32_mod] at h_7
    refine ww_ldc2 hX (pc := 37) (x := (-1)) dX11_rows_37 tb_1398 ?_
    refine rJ hX (pc := 40) hT (Nat.le_refl 0) (Nat.le_refl 0) dX11_rows_40 ?_
    exact ⟨Ch_rf, (Kp_rf (a := 49) (b := 73)), hQ, trivial⟩
  · simp only [w32_mod] at h_7
    have k_4 := h_4.2.mp (by omega)
    clear h_4
    refine ww_aload_n hX (pc := 10) dX11_rows_10 rfl ?_
    refine ww_iload_n hX (pc := 11) dX11_rows_11 rfl ?_
    refine vI1 hX (pc := 12) sX11_120 (xs_49 hL) (c_X11_isState l0 hL hQ (by omega) (by omega)) (by decide) (Nat.le_refl 0) (Nat.le_refl 0) (Nat.le_of_ble_eq_true rfl) dX11_rows_12 (fun x_12 I_12 J_12 h_12 => ?_)
    obtain ⟨rfl, rfl, h_12⟩ := h_12
    refine ww_if_eq hX (pc := 15) (tgt := 37) dX11_rows_15 (by decide) (fun h_15 => ?_) (fun h_15 => ?_)
    · simp only [w32_mod] at h_15
      refine ww_ldc2 hX (pc := 37) (x := (-1)) dX11_rows_37 tb_1398 ?_
      refine rJ hX (pc := 40) hT (Nat.le_refl 0) (Nat.le_refl 0) dX11_rows_40 ?_
      exact ⟨Ch_rf, (Kp_rf (a := 49) (b := 73)), hQ, trivial⟩
    · simp only [w32_mod] at h_15
      have k_12 := h_12.2.mp (by omega)
      clear h_12
      refine ww_iload_n hX (pc := 18) dX11_rows_18 rfl ?_
      refine sI1 hX (pc := 19) sX11_308 (c_X11_isManner l0 (by omega) (by omega)) (by decide) (Nat.le_refl 0) (Nat.le_refl 0) (Nat.le_of_ble_eq_true rfl) dX11_rows_19 (fun x_19 I_19 J_19 h_19 => ?_)
      obtain ⟨rfl, rfl, h_19⟩ := h_19
      refine ww_if_eq hX (pc := 22) (tgt := 37) dX11_rows_22 (by decide) (fun h_22 => ?_) (fun h_22 => ?_)
      · simp only [w32_mod] at h_22
        refine ww_ldc2 hX (pc := 37) (x := (-1)) dX11_rows_37 tb_1398 ?_
        refine rJ hX (pc := 40) hT (Nat.le_refl 0) (Nat.le_refl 0) dX11_rows_40 ?_
        exact ⟨Ch_rf, (Kp_rf (a := 49) (b := 73)), hQ, trivial⟩
      · simp only [w32_mod] at h_22
        have k_19 := h_19.2.mp (by omega)
        clear h_19
        refine ww_aload_n hX (pc := 25) dX11_rows_25 rfl ?_
        refine ww_iload_n hX (pc := 26) dX11_rows_26 rfl ?_
        refine ww_iload_n hX (pc := 27) dX11_rows_27 rfl ?_
        refine ww_iload_n hX (pc := 28) dX11_rows_28 rfl ?_
        refine ww_iconst hX (pc := 29) (x := (-1)) dX11_rows_29 rfl ?_
        refine ww_iconst hX (pc := 30) (x := 0) dX11_rows_30 rfl ?_
        refine vJ5 hX (pc := 31) sX11_337 (xs_49 hL) (c_X11_rowsOf l0 hL hQ (by omega) (by omega) (by omega) (by omega)) (by decide) (Nat.le_refl 0) (Nat.le_refl 0) (Nat.le_of_ble_eq_true rfl) dX11_rows_31 (fun x_31 I_31 J_31 h_31 => ?_)
        have kJ_31 : Kp 49 73 Ja J_31 := Kp_tr (Kp_rf (a := 49) (b := 73)) h_31.2.1
        have kI_31 : Ch [61] [25] Ia I_31 := Ch_tr Ch_rf (Ch_wd h_31.1 (by decide) (by decide))
        have cI_31 : RX I_31 := h_31.2.2.1
        have qI_31 := RX_o cI_31
        have r304_I_31 : I_31 51 304 = Ia 51 304 := by rw [h_31.1.1 51 (by decide) (by decide)]
        have r305_I_31 : I_31 51 305 = Ia 51 305 := by rw [h_31.1.1 51 (by decide) (by decide)]
        have rf_I_31 : FU (I_31 51 304) = FU (Ia 51 304) := by rw [r304_I_31]
        refine ww_goto hX (pc := 34) (tgt := 40) dX11_rows_34 (by decide) ?_
        refine rJ hX (pc := 40) hT (Nat.le_refl 0) (Nat.le_refl 0) dX11_rows_40 ?_
        exact ⟨kI_31, kJ_31, cI_31, trivial⟩
set_option maxHeartbeats 4000000 in
set_option maxRecDepth 20000 in
theorem c_X11_could (l0 : Launch) {Ia Ja : aI1} {Ra : aR1} {Sa : aS1} (hL : LY Ra Sa) (hQ : RX Ia) {a b c e f : Int} (ha0 : -2147483648 ≤ a) (ha1 : a < 2147483648) (hb0 : -2147483648 ≤ b) (hb1 : b < 2147483648) (hc0 : -2147483648 ≤ c) (hc1 : c < 2147483648) (he0 : -2147483648 ≤ e) (he1 : e < 2147483648) (hf0 : -2147483648 ≤ f) (hf1 : f < 2147483648)  : CT l0 6 0 0 mX11_could [kR (some 49), kI a, kI b, kI c, kI e, kI f] Ia Ja Ra Sa (cJ (fun x I' J' => Ch [61] [25] Ia I' ∧ Kp 49 73 Ja J' ∧ RX I' ∧ True) Ra Sa) := by
  refine ct_in pn_X11 (Nat.le_of_ble_eq_true rfl) (fun X hX hT hIn => ?_)
  have hX : aK l0 X cX11_could 6 RX11 (some .long) 6 0 0 := hX
  change WW X 0 [some (kR (some 49)), some (kI a), some (kI b), some (kI c), some (kI e), some (kI f)] [] Ia Ja Ra Sa 0 0
  have qIa := RX_o hQ
  refine ww_iload_n hX (pc := 0) dX11_could_0 rfl ?_
  refine ww_iconst hX (pc := 1) (x := 0) dX11_could_1 rfl ?_
  refine ww_bipush hX (pc := 2) (x := 8) dX11_could_2 (by decide) ?_
  refine sI3 hX (pc := 4) sX11_101 (c_X11_lies l0 (by omega) (by omega) (by omega) (by omega) (by omega) (by omega)) (by decide) (Nat.le_refl 0) (Nat.le_refl 0) (Nat.le_of_ble_eq_true rfl) dX11_could_4 (fun x_4 I_4 J_4 h_4 => ?_)
  obtain ⟨rfl, rfl, h_4⟩ := h_4
  refine ww_if_eq hX (pc := 7) (tgt := 60) dX11_could_7 (by decide) (fun h_7 => ?_) (fun h_7 => ?_)
  · simp only [w32_mod] at h_7
    refine ww_ldc2 hX (pc := 60) (x := (-1)) dX11_could_60 tb_1398 ?_
    refine rJ hX (pc := 63) hT (Nat.le_refl 0) (Nat.le_refl 0) dX11_could_63 ?_
    exact ⟨Ch_rf, (Kp_rf (a := 49) (b := 73)), hQ, trivial⟩
  · simp only [w32_mod] at h_7
    have k_4 := h_4.2.mp (by omega)
    clear h_4
    refine ww_aload_n hX (pc := 10) dX11_could_10 rfl ?_
    refine ww_iload_n hX (pc := 11) dX11_could_11 rfl ?_
    refine vI1 hX (pc := 12) sX11_120 (xs_49 hL) (c_X11_isState l0 hL hQ (by omega) (by omega)) (by decide) (Nat.le_refl 0) (Nat.le_refl 0) (Nat.le_of_ble_eq_true rfl) dX11_could_12 (fun x_12 I_12 J_12 h_12 => ?_)
    obtain ⟨rfl, rfl, h_12⟩ := h_12
    refine ww_if_eq hX (pc := 15) (tgt := 60) dX11_could_15 (by decide) (fun h_15 => ?_) (fun h_15 => ?_)
    · simp only [w32_mod] at h_15
      refine ww_ldc2 hX (pc := 60) (x := (-1)) dX11_could_60 tb_1398 ?_
      refine rJ hX (pc := 63) hT (Nat.le_refl 0) (Nat.le_refl 0) dX11_could_63 ?_
      exact ⟨Ch_rf, (Kp_rf (a := 49) (b := 73)), hQ, trivial⟩
    · simp only [w32_mod] at h_15
      have k_12 := h_12.2.mp (by omega)
      clear h_12
      refine ww_iload_n hX (pc := 18) dX11_could_18 rfl ?_
      refine sI1 hX (pc := 19) sX11_308 (c_X11_isManner l0 (by omega) (by omega)) (by decide) (Nat.le_refl 0) (Nat.le_refl 0) (Nat.le_of_ble_eq_true rfl) dX11_could_19 (fun x_19 I_19 J_19 h_19 => ?_)
      obtain ⟨rfl, rfl, h_19⟩ := h_19
      refine ww_if_eq hX (pc := 22) (tgt := 60) dX11_could_22 (by decide) (fun h_22 => ?_) (fun h_22 => ?_)
      · simp only [w32_mod] at h_22
        refine ww_ldc2 hX (pc := 60) (x := (-1)) dX11_could_60 tb_1398 ?_
        refine rJ hX (pc := 63) hT (Nat.le_refl 0) (Nat.le_refl 0) dX11_could_63 ?_
        exact ⟨Ch_rf, (Kp_rf (a := 49) (b := 73)), hQ, trivial⟩
      · simp only [w32_mod] at h_22
        have k_19 := h_19.2.mp (by omega)
        clear h_19
        refine ww_iload hX (pc := 25) dX11_could_25 rfl ?_
        refine ww_iconst hX (pc := 27) (x := 0) dX11_could_27 rfl ?_
        refine ww_iload_n hX (pc := 28) dX11_could_28 rfl ?_
        refine ww_iconst hX (pc := 29) (x := 1) dX11_could_29 rfl ?_
        refine ww_isub hX (pc := 30) dX11_could_30 ?_
        refine sI3 hX (pc := 31) sX11_101 (c_X11_lies l0 (by omega) (by omega) (by omega) (by omega) (by omega) (by omega)) (by decide) (Nat.le_refl 0) (Nat.le_refl 0) (Nat.le_of_ble_eq_true rfl) dX11_could_31 (fun x_31 I_31 J_31 h_31 => ?_)
        obtain ⟨rfl, rfl, h_31⟩ := h_31
        refine ww_if_eq hX (pc := 34) (tgt := 60) dX11_could_34 (by decide) (fun h_34 => ?_) (fun h_34 => ?_)
        · simp only [w32_mod] at h_34
          refine ww_ldc2 hX (pc := 60) (x := (-1)) dX11_could_60 tb_1398 ?_
          refine rJ hX (pc := 63) hT (Nat.le_refl 0) (Nat.le_refl 0) dX11_could_63 ?_
          exact ⟨Ch_rf, (Kp_rf (a := 49) (b := 73)), hQ, trivial⟩
        · simp only [w32_mod] at h_34
          have k_31 := h_31.2.mp (by omega)
          clear h_31
          refine ww_aload_n hX (pc := 37) dX11_could_37 rfl ?_
          refine ww_iload hX (pc := 38) dX11_could_38 rfl ?_
          refine vI1 hX (pc := 40) sX11_123 (xs_49 hL) (c_X11_isNews l0 hL hQ (by omega) (by omega)) (by decide) (Nat.le_refl 0) (Nat.le_refl 0) (Nat.le_of_ble_eq_true rfl) dX11_could_40 (fun x_40 I_40 J_40 h_40 => ?_)
          obtain ⟨rfl, rfl, h_40⟩ := h_40
          refine ww_if_eq hX (pc := 43) (tgt := 60) dX11_could_43 (by decide) (fun h_43 => ?_) (fun h_43 => ?_)
          · simp only [w32_mod] at h_43
            refine ww_ldc2 hX (pc := 60) (x := (-1)) dX11_could_60 tb_1398 ?_
            refine rJ hX (pc := 63) hT (Nat.le_refl 0) (Nat.le_refl 0) dX11_could_63 ?_
            exact ⟨Ch_rf, (Kp_rf (a := 49) (b := 73)), hQ, trivial⟩
          · simp only [w32_mod] at h_43
            have k_40 := h_40.2.mp (by omega)
            clear h_40
            refine ww_aload_n hX (pc := 46) dX11_could_46 rfl ?_
            refine ww_iload_n hX (pc := 47) dX11_could_47 rfl ?_
            refine ww_iload_n hX (pc := 48) dX11_could_48 rfl ?_
            refine ww_iload_n hX (pc := 49) dX11_could_49 rfl ?_
            refine ww_iload hX (pc := 50) dX11_could_50 rfl ?_
            refine ww_iload hX (pc := 52) dX11_could_52 rfl ?_
            refine vJ5 hX (pc := 54) sX11_337 (xs_49 hL) (c_X11_rowsOf l0 hL hQ (by omega) (by omega) (by omega) (by omega)) (by decide) (Nat.le_refl 0) (Nat.le_refl 0) (Nat.le_of_ble_eq_true rfl) dX11_could_54 (fun x_54 I_54 J_54 h_54 => ?_)
            have kJ_54 : Kp 49 73 Ja J_54 := Kp_tr (Kp_rf (a := 49) (b := 73)) h_54.2.1
            have kI_54 : Ch [61] [25] Ia I_54 := Ch_tr Ch_rf (Ch_wd h_54.1 (by decide) (by decide))
            have cI_54 : RX I_54 := h_54.2.2.1
            have qI_54 := RX_o cI_54
            have r304_I_54 : I_54 51 304 = Ia 51 304 := by rw [h_54.1.1 51 (by decide) (by decide)]
            have r305_I_54 : I_54 51 305 = Ia 51 305 := by rw [h_54.1.1 51 (by decide) (by decide)]
            have rf_I_54 : FU (I_54 51 304) = FU (Ia 51 304) := by rw [r304_I_54]
            refine ww_goto hX (pc := 57) (tgt := 63) dX11_could_57 (by decide) ?_
            refine rJ hX (pc := 63) hT (Nat.le_refl 0) (Nat.le_refl 0) dX11_could_63 ?_
            exact ⟨kI_54, kJ_54, cI_54, trivial⟩
end
section
set_option maxHeartbeats 4000000 in
set_option maxRecDepth 20000 in
theorem c_X11_failing0 (l0 : Launch) {Ia Ja : aI1} {Ra : aR1} {Sa : aS1} (hL : LY Ra Sa) (hQ : RX Ia)  : CT l0 5 0 0 mX11_failing0 [kR (some 49)] Ia Ja Ra Sa (cV (fun I' J' => Ch [61, 64] [25, 28] Ia I' ∧ Kp 49 73 Ja J' ∧ RX I' ∧ I' 51 = Ia 51 ∧ 1 ≤ I' 49 28 ∧ I' 49 28 ≤ 9) Ra Sa) := by
  refine ct_in pn_X11 (Nat.le_of_ble_eq_true rfl) (fun X hX hT hIn => ?_)
  have hX : aK l0 X cX11_failing0 7 RX11 none 5 0 0 := hX
  change WW X 0 [some (kR (some 49)), none, none, none, none, none, none] [] Ia Ja Ra Sa 0 0
  have qIa := RX_s hQ
  refine ww_aload_n hX (pc := 0) dX11_failing0_0 rfl ?_
  refine vV0 hX (pc := 1) sX11_294 (xs_49 hL) (c_X11_looks l0 hL hQ ) (by decide) (Nat.le_refl 0) (Nat.le_refl 0) (Nat.le_of_ble_eq_true rfl) dX11_failing0_1 (fun I_1 J_1 h_1 => ?_)
  have kJ_1 : Kp 49 73 Ja J_1 := Kp_tr (Kp_rf (a := 49) (b := 73)) h_1.2.1
  have kI_1 : Ch [61, 64] [25, 28] Ia I_1 := Ch_tr Ch_rf (Ch_wd h_1.1 (by decide) (by decide))
  have cI_1 : RX I_1 := h_1.2.2.1
  have qI_1 := RX_s cI_1
  have r304_I_1 : I_1 51 304 = Ia 51 304 := by rw [h_1.1.1 51 (by decide) (by decide)]
  have r305_I_1 : I_1 51 305 = Ia 51 305 := by rw [h_1.1.1 51 (by decide) (by decide)]
  have rf_I_1 : FU (I_1 51 304) = FU (Ia 51 304) := by rw [r304_I_1]
  refine ww_aload_n hX (pc := 4) dX11_failing0_4 rfl ?_
  refine ww_iconst hX (pc := 5) (x := 0) dX11_failing0_5 rfl ?_
  refine ww_putI hX (pc := 6) (fun h9 => absurd h9 (by decide)) gX11_318 rfl (xs_49 hL) dX11_failing0_6 ?_
  refine ww_nmH (fun I_6 eI_6 => ?_)
  have kI_6 : Ch [61, 64] [25, 28] Ia I_6 := by rw [eI_6]; exact Ch_f kI_1 (by decide)
  have cI_6 : RX I_6 := by rw [eI_6]; exact RX_f cI_1 (by decide)
  have qI_6 := RX_s cI_6
  have r304_I_6 : I_6 51 304 = I_1 51 304 := by rw [eI_6, up2_off _ _ _ (by decide)]
  have r305_I_6 : I_6 51 305 = I_1 51 305 := by rw [eI_6, up2_off _ _ _ (by decide)]
  have rf_I_6 : FU (I_6 51 304) = FU (I_1 51 304) := by rw [r304_I_6]
  have hf28 : I_6 49 28 = 0 := by rw [eI_6, up2_s]
  refine ww_iconst hX (pc := 9) (x := 0) dX11_failing0_9 rfl ?_
  refine ww_istore_n hX (pc := 10) (lv' := [some (kR (some 49)), some (kI 0), none, none, none, none, none]) dX11_failing0_10 (by decide) rfl rfl ?_
  have hl_11 : ∀ (n_11 : Nat) (sa : Int) (I11 : aI1) (J11 : aI1), (10 - I11 49 28).toNat = n_11 → (Ch [61, 64] [25, 28] Ia I11 ∧ RX I11 ∧ Kp 49 73 Ja J11 ∧ I11 51 304 = I_6 51 304 ∧ I11 51 305 = I_6 51 305 ∧ ((sa = -1 ∧ 1 ≤ I11 49 28) ∨ (0 ≤ sa ∧ sa ≤ 255 ∧ I11 49 28 ≤ pc8 sa)) ∧ 0 ≤ I11 49 28 ∧ I11 49 28 ≤ 9) → WW X 11 [some (kR (some 49)), some (kI sa), none, none, none, none, none] [] I11 J11 Ra Sa 0 0 := by
    intro n_11
    induction n_11 using Nat.strongRecOn with
    | ind n_11 ih_11 =>
      intro sa I11 J11 hm_11 hv_11
      have hq_11 := Sh0_i hm_11
      clear hm_11
      obtain ⟨kI11, cI11, kJ11, r304_I11, r305_I11, hv, hv1, hv2⟩ := hv_11
      have qI11 := RX_s cI11
      have rf_I11 : FU (I11 51 304) = FU (I_6 51 304) := by rw [r304_I11]
      have hp8 := pc8_r (s := sa)
      refine ww_iload_n hX (pc := 11) dX11_failing0_11 rfl ?_
      refine ww_iconst hX (pc := 12) (x := (-1)) dX11_failing0_12 rfl ?_
      refine ww_icmp_eq hX (pc := 13) (tgt := 143) dX11_failing0_13 (by decide) (fun h_13 => ?_) (fun h_13 => ?_)
      · simp only [w32_mod] at h_13
        refine rV hX (pc := 143) hT (Nat.le_refl 0) (Nat.le_refl 0) dX11_failing0_143 ?_
        exact ⟨kI11, kJ11, cI11, kI11.1 51 (by decide) (by decide), by omega, by omega⟩
      · simp only [w32_mod] at h_13
        have hv3 : 0 ≤ sa ∧ sa ≤ 255 ∧ I11 49 28 ≤ pc8 sa := by omega
        clear hv
        obtain ⟨hv3, hv4, hv5⟩ := hv3
        refine ww_ldcw hX (pc := 16) (x := 1000000000) dX11_failing0_16 tb_1457 ?_
        refine ww_istore_n hX (pc := 19) (lv' := [some (kR (some 49)), some (kI sa), some (kI 1000000000), none, none, none, none]) dX11_failing0_19 (by decide) rfl rfl ?_
        refine ww_iconst hX (pc := 20) (x := (-1)) dX11_failing0_20 rfl ?_
        refine ww_istore_n hX (pc := 21) (lv' := [some (kR (some 49)), some (kI sa), some (kI 1000000000), some (kI (-1)), none, none, none]) dX11_failing0_21 (by decide) rfl rfl ?_
        refine ww_iconst hX (pc := 22) (x := 0) dX11_failing0_22 rfl ?_
        refine ww_istore hX (pc := 23) (lv' := [some (kR (some 49)), some (kI sa), some (kI 1000000000), some (kI (-1)), some (kI 0), none, none]) dX11_failing0_23 (by decide) rfl rfl ?_
        have hl_25 : ∀ (n_25 : Nat) (le : Int) (ne : Int) (i : Int), (I11 51 305 - i).toNat = n_25 → ((0 ≤ i ∧ i ≤ I11 51 305 ∧ ((ne = -1 ∧ le = 1000000000 ∧ (i = 0 ∨ (i = 1 ∧ (I11 51 sa.toNat + 2147483648) % 4294967296 = 2147483648))) ∨ (0 ≤ ne ∧ ne < I11 51 305 ∧ ¬ (ne + 2147483648) % 4294967296 = (I11 51 sa.toNat + 2147483648) % 4294967296)))) → WW X 25 [some (kR (some 49)), some (kI sa), some (kI le), some (kI ne), some (kI i), none, none] [] I11 J11 Ra Sa 0 0 := by
          intro n_25
          induction n_25 using Nat.strongRecOn with
          | ind n_25 ih_25 =>
            intro le ne i hm_25 hv_25
            have hq_25 := Sh0_i hm_25
            clear hm_25
            obtain ⟨hu1, hu2, hu3⟩ := hv_25
            have hu := Sh0_i hu3
            clear hu3
            refine ww_iload hX (pc := 25) dX11_failing0_25 rfl ?_
            refine ww_aload_n hX (pc := 27) dX11_failing0_27 rfl ?_
            refine ww_getR hX (pc := 28) fX11_20 (by decide) (xs_49 hL) (xr_49_3 hL) dX11_failing0_28 ?_
            refine ww_sipush hX (pc := 31) (x := 305) dX11_failing0_31 (by decide) ?_
            refine ww_iald hX (pc := 34) (xs_51 hL) (by decide) (by omega) (by omega) dX11_failing0_34 ?_
            refine ww_toI (b := I11 51 305) rfl ?_
            refine ww_icmp_ge hX (pc := 35) (tgt := 112) dX11_failing0_35 (by decide) (fun h_35 => ?_) (fun h_35 => ?_)
            · simp only [w32_mod] at h_35
              have hz : 0 ≤ ne ∧ ne < I11 51 305 ∧ ¬ (ne + 2147483648) % 4294967296 = (I11 51 sa.toNat + 2147483648) % 4294967296 := by have hu3 := Sh0_e hu; omega
              clear hu
              obtain ⟨hz1, hz2, hz3⟩ := hz
              refine ww_aload_n hX (pc := 112) dX11_failing0_112 rfl ?_
              refine ww_getR hX (pc := 113) fX11_68 (by decide) (xs_49 hL) (xr_49_27 hL) dX11_failing0_113 ?_
              refine ww_aload_n hX (pc := 116) dX11_failing0_116 rfl ?_
              refine ww_getI hX (pc := 117) fX11_318 (by decide) (xs_49 hL) dX11_failing0_117 ?_
              refine ww_iload_n hX (pc := 120) dX11_failing0_120 rfl ?_
              refine ww_iast hX (pc := 121) (xs_64 hL) (by decide) (by omega) (by omega) dX11_failing0_121 ?_
              refine ww_nmH (fun I_121 eI_121 => ?_)
              have kI_121 : Ch [61, 64] [25, 28] Ia I_121 := by rw [eI_121]; exact Ch_r kI11 (by decide) (by decide)
              have cI_121 : RX I_121 := by rw [eI_121]; exact RX_r cI11 (by decide)
              have qI_121 := RX_s cI_121
              have r304_I_121 : I_121 51 304 = I11 51 304 := by rw [eI_121, up2_off _ _ _ (by decide)]
              have r305_I_121 : I_121 51 305 = I11 51 305 := by rw [eI_121, up2_off _ _ _ (by decide)]
              have rf_I_121 : FU (I_121 51 304) = FU (I11 51 304) := by rw [r304_I_121]
              refine ww_aload_n hX (pc := 122) dX11_failing0_122 rfl ?_
              refine ww_dupR hX (pc := 123) dX11_failing0_123 ?_
              refine ww_getI hX (pc := 124) fX11_318 (by decide) (xs_49 hL) dX11_failing0_124 ?_
              refine ww_iconst hX (pc := 127) (x := 1) dX11_failing0_127 rfl ?_
              refine ww_iadd hX (pc := 128) dX11_failing0_128 ?_
              refine ww_putI hX (pc := 129) (fun h9 => absurd h9 (by decide)) gX11_318 rfl (xs_49 hL) dX11_failing0_129 ?_
              refine ww_nmH (fun I_129 eI_129 => ?_)
              have kI_129 : Ch [61, 64] [25, 28] Ia I_129 := by rw [eI_129]; exact Ch_f kI_121 (by decide)
              have cI_129 : RX I_129 := by rw [eI_129]; exact RX_f cI_121 (by decide)
              have qI_129 := RX_s cI_129
              have r304_I_129 : I_129 51 304 = I_121 51 304 := by rw [eI_129, up2_off _ _ _ (by decide)]
              have r305_I_129 : I_129 51 305 = I_121 51 305 := by rw [eI_129, up2_off _ _ _ (by decide)]
              have rf_I_129 : FU (I_129 51 304) = FU (I_121 51 304) := by rw [r304_I_129]
              have hf28 : I_129 49 28 = I11 49 28 + 1 := by rw [eI_129, up2_s, eI_121, up2_off _ _ _ (by decide)]
              have hk51 : I_129 51 = I11 51 := by rw [eI_129, up2_off _ _ _ (by decide), eI_121, up2_off _ _ _ (by decide)]
              refine ww_aload_n hX (pc := 132) dX11_failing0_132 rfl ?_
              refine ww_iload_n hX (pc := 133) dX11_failing0_133 rfl ?_
              refine ww_iload_n hX (pc := 134) dX11_failing0_134 rfl ?_
              refine ww_iconst hX (pc := 135) (x := 2) dX11_failing0_135 rfl ?_
              refine vI3 hX (pc := 136) sX11_311 (xs_49 hL) (c_X11_nextOf l0 hL cI_129 (by omega) (by omega)) (by decide) (Nat.le_refl 0) (Nat.le_refl 0) (Nat.le_of_ble_eq_true rfl) dX11_failing0_136 (fun x_136 I_136 J_136 h_136 => ?_)
              obtain ⟨rfl, rfl, h_136⟩ := h_136
              have hst : x_136 = -1 ∨ (0 ≤ x_136 ∧ x_136 ≤ 255 ∧ pc8 sa + 1 ≤ pc8 x_136) := by
                rcases h_136 with h9 | ⟨g1, g2, g3, g4⟩
                · exact Or.inl h9
                · refine Or.inr ⟨by omega, by omega, sup_pc (by omega) (by omega) (by omega) (by omega) g4 (fun e9 => ?_)⟩
                  rw [← e9, hk51] at g3
                  simp only [w32_mod] at g3
                  omega
              refine ww_istore_n hX (pc := 139) (lv' := [some (kR (some 49)), some (kI x_136), some (kI le), some (kI ne), some (kI i), none, none]) dX11_failing0_139 (by decide) rfl rfl ?_
              refine ww_goto hX (pc := 140) (tgt := 11) dX11_failing0_140 (by decide) ?_
              refine ww_sub [some (kR (some 49)), some (kI x_136), none, none, none, none, none] (aLe_s (aLe_s (aLe_n (aLe_n (aLe_n (aLe_n (aLe_n aLe_0))))))) ?_
              exact ih_11 _ (by have hm9 := Sh0_e hq_11; omega) x_136 I_129 J11 rfl ⟨kI_129, cI_129, kJ11, by omega, by omega, by omega, by omega, by omega⟩
            · simp only [w32_mod] at h_35
              refine ww_iload hX (pc := 38) dX11_failing0_38 rfl ?_
              refine ww_aload_n hX (pc := 40) dX11_failing0_40 rfl ?_
              refine ww_iload_n hX (pc := 41) dX11_failing0_41 rfl ?_
              refine vI1 hX (pc := 42) sX11_126 (xs_49 hL) (c_X11_readOf l0 hL cI11 (by omega) (by omega)) (by decide) (Nat.le_refl 0) (Nat.le_refl 0) (Nat.le_of_ble_eq_true rfl) dX11_failing0_42 (fun x_42 I_42 J_42 h_42 => ?_)
              obtain ⟨rfl, rfl, h_42⟩ := h_42
              refine ww_icmp_ne hX (pc := 45) (tgt := 52) dX11_failing0_45 (by decide) (fun h_45 => ?_) (fun h_45 => ?_)
              · simp only [w32_mod] at h_45
                refine ww_aload_n hX (pc := 52) dX11_failing0_52 rfl ?_
                refine ww_iload_n hX (pc := 53) dX11_failing0_53 rfl ?_
                refine ww_iload hX (pc := 54) dX11_failing0_54 rfl ?_
                refine ww_iconst hX (pc := 56) (x := 2) dX11_failing0_56 rfl ?_
                refine vI3 hX (pc := 57) sX11_311 (xs_49 hL) (c_X11_nextOf l0 hL cI11 (by omega) (by omega)) (by decide) (Nat.le_refl 0) (Nat.le_refl 0) (Nat.le_of_ble_eq_true rfl) dX11_failing0_57 (fun x_57 I_57 J_57 h_57 => ?_)
                obtain ⟨rfl, rfl, h_57⟩ := h_57
                refine ww_istore hX (pc := 60) (lv' := [some (kR (some 49)), some (kI sa), some (kI le), some (kI ne), some (kI i), some (kI x_57), none]) dX11_failing0_60 (by decide) rfl rfl ?_
                refine ww_iload hX (pc := 62) dX11_failing0_62 rfl ?_
                refine ww_iconst hX (pc := 64) (x := (-1)) dX11_failing0_64 rfl ?_
                refine ww_icmp_ne hX (pc := 65) (tgt := 72) dX11_failing0_65 (by decide) (fun h_65 => ?_) (fun h_65 => ?_)
                · simp only [w32_mod] at h_65
                  have k_57 : sa ≤ x_57 ∧ x_57 ≤ FU (I11 51 304) := by omega
                  clear h_57
                  have hlb := cI11.2.2.1 x_57.toNat (by omega)
                  refine ww_aload_n hX (pc := 72) dX11_failing0_72 rfl ?_
                  refine ww_getR hX (pc := 73) fX11_55 (by decide) (xs_49 hL) (xr_49_23 hL) dX11_failing0_73 ?_
                  refine ww_iload hX (pc := 76) dX11_failing0_76 rfl ?_
                  refine ww_iald hX (pc := 78) (xs_61 hL) (by decide) (by omega) (by omega) dX11_failing0_78 ?_
                  refine ww_nmI (fun v_79 hv_79 => ?_)
                  refine ww_istore hX (pc := 79) (lv' := [some (kR (some 49)), some (kI sa), some (kI le), some (kI ne), some (kI i), some (kI x_57), some (kI v_79)]) dX11_failing0_79 (by decide) rfl rfl ?_
                  refine ww_iload hX (pc := 81) dX11_failing0_81 rfl ?_
                  refine ww_aload_n hX (pc := 83) dX11_failing0_83 rfl ?_
                  refine ww_iload_n hX (pc := 84) dX11_failing0_84 rfl ?_
                  refine vI1 hX (pc := 85) sX11_126 (xs_49 hL) (c_X11_readOf l0 hL cI11 (by omega) (by omega)) (by decide) (Nat.le_refl 0) (Nat.le_refl 0) (Nat.le_of_ble_eq_true rfl) dX11_failing0_85 (fun x_85 I_85 J_85 h_85 => ?_)
                  obtain ⟨rfl, rfl, h_85⟩ := h_85
                  refine ww_icmp_eq hX (pc := 88) (tgt := 106) dX11_failing0_88 (by decide) (fun h_88 => ?_) (fun h_88 => ?_)
                  · simp only [w32_mod] at h_88
                    refine ww_iinc hX (pc := 106) (lv' := [some (kR (some 49)), some (kI sa), some (kI le), some (kI ne), some (kI (i + 1)), some (kI x_57), some (kI v_79)]) dX11_failing0_106 rfl (by decide) rfl rfl ?_
                    refine ww_goto hX (pc := 109) (tgt := 25) dX11_failing0_109 (by decide) ?_
                    refine ww_sub [some (kR (some 49)), some (kI sa), some (kI le), some (kI ne), some (kI (i + 1)), none, none] (aLe_s (aLe_s (aLe_s (aLe_s (aLe_s (aLe_n (aLe_n aLe_0))))))) ?_
                    exact ih_25 _ (by have hm9 := Sh0_e hq_25; omega) le ne (i + 1) rfl (by have hu3 := Sh0_e hu; omega)
                  · simp only [w32_mod] at h_88
                    refine ww_iload hX (pc := 91) dX11_failing0_91 rfl ?_
                    refine ww_iload_n hX (pc := 93) dX11_failing0_93 rfl ?_
                    refine ww_icmp_lt hX (pc := 94) (tgt := 100) dX11_failing0_94 (by decide) (fun h_94 => ?_) (fun h_94 => ?_)
                    · simp only [w32_mod] at h_94
                      refine ww_iload hX (pc := 100) dX11_failing0_100 rfl ?_
                      refine ww_istore_n hX (pc := 102) (lv' := [some (kR (some 49)), some (kI sa), some (kI v_79), some (kI ne), some (kI i), some (kI x_57), some (kI v_79)]) dX11_failing0_102 (by decide) rfl rfl ?_
                      refine ww_iload hX (pc := 103) dX11_failing0_103 rfl ?_
                      refine ww_istore_n hX (pc := 105) (lv' := [some (kR (some 49)), some (kI sa), some (kI v_79), some (kI i), some (kI i), some (kI x_57), some (kI v_79)]) dX11_failing0_105 (by decide) rfl rfl ?_
                      refine ww_iinc hX (pc := 106) (lv' := [some (kR (some 49)), some (kI sa), some (kI v_79), some (kI i), some (kI (i + 1)), some (kI x_57), some (kI v_79)]) dX11_failing0_106 rfl (by decide) rfl rfl ?_
                      refine ww_goto hX (pc := 109) (tgt := 25) dX11_failing0_109 (by decide) ?_
                      refine ww_sub [some (kR (some 49)), some (kI sa), some (kI v_79), some (kI i), some (kI (i + 1)), none, none] (aLe_s (aLe_s (aLe_s (aLe_s (aLe_s (aLe_n (aLe_n aLe_0))))))) ?_
                      exact ih_25 _ (by have hm9 := Sh0_e hq_25; omega) v_79 i (i + 1) rfl (by have hu3 := Sh0_e hu; omega)
                    · simp only [w32_mod] at h_94
                      refine ww_goto hX (pc := 97) (tgt := 106) dX11_failing0_97 (by decide) ?_
                      refine ww_iinc hX (pc := 106) (lv' := [some (kR (some 49)), some (kI sa), some (kI le), some (kI ne), some (kI (i + 1)), some (kI x_57), some (kI v_79)]) dX11_failing0_106 rfl (by decide) rfl rfl ?_
                      refine ww_goto hX (pc := 109) (tgt := 25) dX11_failing0_109 (by decide) ?_
                      refine ww_sub [some (kR (some 49)), some (kI sa), some (kI le), some (kI ne), some (kI (i + 1)), none, none] (aLe_s (aLe_s (aLe_s (aLe_s (aLe_s (aLe_n (aLe_n aLe_0))))))) ?_
                      exact ih_25 _ (by have hm9 := Sh0_e hq_25; omega) le ne (i + 1) rfl (by have hu3 := Sh0_e hu; omega)
                · simp only [w32_mod] at h_65
                  clear h_57
                  refine ww_iconst hX (pc := 68) (x := (-1)) dX11_failing0_68 rfl ?_
                  refine ww_goto hX (pc := 69) (tgt := 79) dX11_failing0_69 (by decide) ?_
                  refine ww_istore hX (pc := 79) (lv' := [some (kR (some 49)), some (kI sa), some (kI le), some (kI ne), some (kI i), some (kI x_57), some (kI (-1))]) dX11_failing0_79 (by decide) rfl rfl ?_
                  refine ww_iload hX (pc := 81) dX11_failing0_81 rfl ?_
                  refine ww_aload_n hX (pc := 83) dX11_failing0_83 rfl ?_
                  refine ww_iload_n hX (pc := 84) dX11_failing0_84 rfl ?_
                  refine vI1 hX (pc := 85) sX11_126 (xs_49 hL) (c_X11_readOf l0 hL cI11 (by omega) (by omega)) (by decide) (Nat.le_refl 0) (Nat.le_refl 0) (Nat.le_of_ble_eq_true rfl) dX11_failing0_85 (fun x_85 I_85 J_85 h_85 => ?_)
                  obtain ⟨rfl, rfl, h_85⟩ := h_85
                  refine ww_icmp_eq hX (pc := 88) (tgt := 106) dX11_failing0_88 (by decide) (fun h_88 => ?_) (fun h_88 => ?_)
                  · simp only [w32_mod] at h_88
                    refine ww_iinc hX (pc := 106) (lv' := [some (kR (some 49)), some (kI sa), some (kI le), some (kI ne), some (kI (i + 1)), some (kI x_57), some (kI (-1))]) dX11_failing0_106 rfl (by decide) rfl rfl ?_
                    refine ww_goto hX (pc := 109) (tgt := 25) dX11_failing0_109 (by decide) ?_
                    refine ww_sub [some (kR (some 49)), some (kI sa), some (kI le), some (kI ne), some (kI (i + 1)), none, none] (aLe_s (aLe_s (aLe_s (aLe_s (aLe_s (aLe_n (aLe_n aLe_0))))))) ?_
                    exact ih_25 _ (by have hm9 := Sh0_e hq_25; omega) le ne (i + 1) rfl (by have hu3 := Sh0_e hu; omega)
                  · simp only [w32_mod] at h_88
                    refine ww_iload hX (pc := 91) dX11_failing0_91 rfl ?_
                    refine ww_iload_n hX (pc := 93) dX11_failing0_93 rfl ?_
                    refine ww_icmp_lt hX (pc := 94) (tgt := 100) dX11_failing0_94 (by decide) (fun h_94 => ?_) (fun h_94 => ?_)
                    · simp only [w32_mod] at h_94
                      refine ww_iload hX (pc := 100) dX11_failing0_100 rfl ?_
                      refine ww_istore_n hX (pc := 102) (lv' := [some (kR (some 49)), some (kI sa), some (kI (-1)), some (kI ne), some (kI i), some (kI x_57), some (kI (-1))]) dX11_failing0_102 (by decide) rfl rfl ?_
                      refine ww_iload hX (pc := 103) dX11_failing0_103 rfl ?_
                      refine ww_istore_n hX (pc := 105) (lv' := [some (kR (some 49)), some (kI sa), some (kI (-1)), some (kI i), some (kI i), some (kI x_57), some (kI (-1))]) dX11_failing0_105 (by decide) rfl rfl ?_
                      refine ww_iinc hX (pc := 106) (lv' := [some (kR (some 49)), some (kI sa), some (kI (-1)), some (kI i), some (kI (i + 1)), some (kI x_57), some (kI (-1))]) dX11_failing0_106 rfl (by decide) rfl rfl ?_
                      refine ww_goto hX (pc := 109) (tgt := 25) dX11_failing0_109 (by decide) ?_
                      refine ww_sub [some (kR (some 49)), some (kI sa), some (kI (-1)), some (kI i), some (kI (i + 1)), none, none] (aLe_s (aLe_s (aLe_s (aLe_s (aLe_s (aLe_n (aLe_n aLe_0))))))) ?_
                      exact ih_25 _ (by have hm9 := Sh0_e hq_25; omega) (-1) i (i + 1) rfl (by have hu3 := Sh0_e hu; omega)
                    · simp only [w32_mod] at h_94
                      refine ww_goto hX (pc := 97) (tgt := 106) dX11_failing0_97 (by decide) ?_
                      refine ww_iinc hX (pc := 106) (lv' := [some (kR (some 49)), some (kI sa), some (kI le), some (kI ne), some (kI (i + 1)), some (kI x_57), some (kI (-1))]) dX11_failing0_106 rfl (by decide) rfl rfl ?_
                      refine ww_goto hX (pc := 109) (tgt := 25) dX11_failing0_109 (by decide) ?_
                      refine ww_sub [some (kR (some 49)), some (kI sa), some (kI le), some (kI ne), some (kI (i + 1)), none, none] (aLe_s (aLe_s (aLe_s (aLe_s (aLe_s (aLe_n (aLe_n aLe_0))))))) ?_
                      exact ih_25 _ (by have hm9 := Sh0_e hq_25; omega) le ne (i + 1) rfl (by have hu3 := Sh0_e hu; omega)
              · simp only [w32_mod] at h_45
                refine ww_iconst hX (pc := 48) (x := (-1)) dX11_failing0_48 rfl ?_
                refine ww_goto hX (pc := 49) (tgt := 60) dX11_failing0_49 (by decide) ?_
                refine ww_istore hX (pc := 60) (lv' := [some (kR (some 49)), some (kI sa), some (kI le), some (kI ne), some (kI i), some (kI (-1)), none]) dX11_failing0_60 (by decide) rfl rfl ?_
                refine ww_iload hX (pc := 62) dX11_failing0_62 rfl ?_
                refine ww_iconst hX (pc := 64) (x := (-1)) dX11_failing0_64 rfl ?_
                refine ww_icmp_ne hX (pc := 65) (tgt := 72) dX11_failing0_65 (by decide) (fun h_65 => ?_) (fun h_65 => ?_)
                · simp only [w32_mod] at h_65
                  exfalso
                  first | omega | exact h_65 rfl | exact h_65 trivial
                · simp only [w32_mod] at h_65
                  refine ww_iconst hX (pc := 68) (x := (-1)) dX11_failing0_68 rfl ?_
                  refine ww_goto hX (pc := 69) (tgt := 79) dX11_failing0_69 (by decide) ?_
                  refine ww_istore hX (pc := 79) (lv' := [some (kR (some 49)), some (kI sa), some (kI le), some (kI ne), some (kI i), some (kI (-1)), some (kI (-1))]) dX11_failing0_79 (by decide) rfl rfl ?_
                  refine ww_iload hX (pc := 81) dX11_failing0_81 rfl ?_
                  refine ww_aload_n hX (pc := 83) dX11_failing0_83 rfl ?_
                  refine ww_iload_n hX (pc := 84) dX11_failing0_84 rfl ?_
                  refine vI1 hX (pc := 85) sX11_126 (xs_49 hL) (c_X11_readOf l0 hL cI11 (by omega) (by omega)) (by decide) (Nat.le_refl 0) (Nat.le_refl 0) (Nat.le_of_ble_eq_true rfl) dX11_failing0_85 (fun x_85 I_85 J_85 h_85 => ?_)
                  obtain ⟨rfl, rfl, h_85⟩ := h_85
                  refine ww_icmp_eq hX (pc := 88) (tgt := 106) dX11_failing0_88 (by decide) (fun h_88 => ?_) (fun h_88 => ?_)
                  · simp only [w32_mod] at h_88
                    refine ww_iinc hX (pc := 106) (lv' := [some (kR (some 49)), some (kI sa), some (kI le), some (kI ne), some (kI (i + 1)), some (kI (-1)), some (kI (-1))]) dX11_failing0_106 rfl (by decide) rfl rfl ?_
                    refine ww_goto hX (pc := 109) (tgt := 25) dX11_failing0_109 (by decide) ?_
                    refine ww_sub [some (kR (some 49)), some (kI sa), some (kI le), some (kI ne), some (kI (i + 1)), none, none] (aLe_s (aLe_s (aLe_s (aLe_s (aLe_s (aLe_n (aLe_n aLe_0))))))) ?_
                    exact ih_25 _ (by have hm9 := Sh0_e hq_25; omega) le ne (i + 1) rfl (by have hu3 := Sh0_e hu; omega)
                  · simp only [w32_mod] at h_88
                    refine ww_iload hX (pc := 91) dX11_failing0_91 rfl ?_
                    refine ww_iload_n hX (pc := 93) dX11_failing0_93 rfl ?_
                    refine ww_icmp_lt hX (pc := 94) (tgt := 100) dX11_failing0_94 (by decide) (fun h_94 => ?_) (fun h_94 => ?_)
                    · simp only [w32_mod] at h_94
                      refine ww_iload hX (pc := 100) dX11_failing0_100 rfl ?_
                      refine ww_istore_n hX (pc := 102) (lv' := [some (kR (some 49)), some (kI sa), some (kI (-1)), some (kI ne), some (kI i), some (kI (-1)), some (kI (-1))]) dX11_failing0_102 (by decide) rfl rfl ?_
                      refine ww_iload hX (pc := 103) dX11_failing0_103 rfl ?_
                      refine ww_istore_n hX (pc := 105) (lv' := [some (kR (some 49)), some (kI sa), some (kI (-1)), some (kI i), some (kI i), some (kI (-1)), some (kI (-1))]) dX11_failing0_105 (by decide) rfl rfl ?_
                      refine ww_iinc hX (pc := 106) (lv' := [some (kR (some 49)), some (kI sa), some (kI (-1)), some (kI i), some (kI (i + 1)), some (kI (-1)), some (kI (-1))]) dX11_failing0_106 rfl (by decide) rfl rfl ?_
                      refine ww_goto hX (pc := 109) (tgt := 25) dX11_failing0_109 (by decide) ?_
                      refine ww_sub [some (kR (some 49)), some (kI sa), some (kI (-1)), some (kI i), some (kI (i + 1)), none, none] (aLe_s (aLe_s (aLe_s (aLe_s (aLe_s (aLe_n (aLe_n aLe_0))))))) ?_
                      exact ih_25 _ (by have hm9 := Sh0_e hq_25; omega) (-1) i (i + 1) rfl (by have hu3 := Sh0_e hu; omega)
                    · simp only [w32_mod] at h_94
                      refine ww_goto hX (pc := 97) (tgt := 106) dX11_failing0_97 (by decide) ?_
                      refine ww_iinc hX (pc := 106) (lv' := [some (kR (some 49)), some (kI sa), some (kI le), some (kI ne), some (kI (i + 1)), some (kI (-1)), some (kI (-1))]) dX11_failing0_106 rfl (by decide) rfl rfl ?_
                      refine ww_goto hX (pc := 109) (tgt := 25) dX11_failing0_109 (by decide) ?_
                      refine ww_sub [some (kR (some 49)), some (kI sa), some (kI le), some (kI ne), some (kI (i + 1)), none, none] (aLe_s (aLe_s (aLe_s (aLe_s (aLe_s (aLe_n (aLe_n aLe_0))))))) ?_
                      exact ih_25 _ (by have hm9 := Sh0_e hq_25; omega) le ne (i + 1) rfl (by have hu3 := Sh0_e hu; omega)
        exact hl_25 _ 1000000000 (-1) 0 rfl (by omega)
  exact hl_11 _ 0 I_6 J_1 rfl ⟨kI_6, cI_6, kJ_1, rfl, rfl, Or.inr ⟨by omega, by omega, by have := pc8_r (s := 0); omega⟩, by omega, by omega⟩
end
section
set_option maxHeartbeats 4000000 in
set_option maxRecDepth 20000 in
theorem c_X11_failing (l0 : Launch) {Ia Ja : aI1} {Ra : aR1} {Sa : aS1} (hL : LY Ra Sa) (hQ : RX Ia) {a : Int} (ha0 : -2147483648 ≤ a) (ha1 : a < 2147483648)  : CT l0 6 0 0 mX11_failing [kR (some 49), kI a] Ia Ja Ra Sa (cI (fun x I' J' => Ch [61, 64] [25, 28] Ia I' ∧ Kp 49 73 Ja J' ∧ RX I' ∧ True) Ra Sa) := by
  refine ct_in pn_X11 (Nat.le_of_ble_eq_true rfl) (fun X hX hT hIn => ?_)
  have hX : aK l0 X cX11_failing 2 RX11 (some .int) 6 0 0 := hX
  change WW X 0 [some (kR (some 49)), some (kI a)] [] Ia Ja Ra Sa 0 0
  have qIa := RX_o hQ
  refine ww_aload_n hX (pc := 0) dX11_failing_0 rfl ?_
  refine vV0 hX (pc := 1) sX11_321 (xs_49 hL) (c_X11_failing0 l0 hL hQ ) (by decide) (Nat.le_refl 0) (Nat.le_refl 0) (Nat.le_of_ble_eq_true rfl) dX11_failing_1 (fun I_1 J_1 h_1 => ?_)
  have kJ_1 : Kp 49 73 Ja J_1 := Kp_tr (Kp_rf (a := 49) (b := 73)) h_1.2.1
  have kI_1 : Ch [61, 64] [25, 28] Ia I_1 := Ch_tr Ch_rf (Ch_wd h_1.1 (by decide) (by decide))
  have cI_1 : RX I_1 := h_1.2.2.1
  have qI_1 := RX_o cI_1
  have r304_I_1 : I_1 51 304 = Ia 51 304 := by rw [h_1.1.1 51 (by decide) (by decide)]
  have r305_I_1 : I_1 51 305 = Ia 51 305 := by rw [h_1.1.1 51 (by decide) (by decide)]
  have rf_I_1 : FU (I_1 51 304) = FU (Ia 51 304) := by rw [r304_I_1]
  refine ww_iload_n hX (pc := 4) dX11_failing_4 rfl ?_
  refine ww_iconst hX (pc := 5) (x := (-1)) dX11_failing_5 rfl ?_
  refine ww_icmp_ne hX (pc := 6) (tgt := 16) dX11_failing_6 (by decide) (fun h_6 => ?_) (fun h_6 => ?_)
  · simp only [w32_mod] at h_6
    refine ww_iload_n hX (pc := 16) dX11_failing_16 rfl ?_
    refine ww_iconst hX (pc := 17) (x := 0) dX11_failing_17 rfl ?_
    refine ww_aload_n hX (pc := 18) dX11_failing_18 rfl ?_
    refine ww_getI hX (pc := 19) fX11_318 (by decide) (xs_49 hL) dX11_failing_19 ?_
    refine ww_iconst hX (pc := 22) (x := 1) dX11_failing_22 rfl ?_
    refine ww_isub hX (pc := 23) dX11_failing_23 ?_
    refine sI3 hX (pc := 24) sX11_101 (c_X11_lies l0 (by omega) (by omega) (by omega) (by omega) (by omega) (by omega)) (by decide) (Nat.le_refl 0) (Nat.le_refl 0) (Nat.le_of_ble_eq_true rfl) dX11_failing_24 (fun x_24 I_24 J_24 h_24 => ?_)
    obtain ⟨rfl, rfl, h_24⟩ := h_24
    refine ww_if_eq hX (pc := 27) (tgt := 39) dX11_failing_27 (by decide) (fun h_27 => ?_) (fun h_27 => ?_)
    · simp only [w32_mod] at h_27
      refine ww_iconst hX (pc := 39) (x := (-1)) dX11_failing_39 rfl ?_
      refine rI hX (pc := 40) hT (Nat.le_refl 0) (Nat.le_refl 0) dX11_failing_40 ?_
      exact ⟨kI_1, kJ_1, cI_1, trivial⟩
    · simp only [w32_mod] at h_27
      have k_24 := h_24.2.mp (by omega)
      clear h_24
      refine ww_aload_n hX (pc := 30) dX11_failing_30 rfl ?_
      refine ww_getR hX (pc := 31) fX11_68 (by decide) (xs_49 hL) (xr_49_27 hL) dX11_failing_31 ?_
      refine ww_iload_n hX (pc := 34) dX11_failing_34 rfl ?_
      refine ww_iald hX (pc := 35) (xs_64 hL) (by decide) (by omega) (by omega) dX11_failing_35 ?_
      refine ww_goto hX (pc := 36) (tgt := 40) dX11_failing_36 (by decide) ?_
      refine rI hX (pc := 40) hT (Nat.le_refl 0) (Nat.le_refl 0) dX11_failing_40 ?_
      exact ⟨kI_1, kJ_1, cI_1, trivial⟩
  · simp only [w32_mod] at h_6
    refine ww_aload_n hX (pc := 9) dX11_failing_9 rfl ?_
    refine ww_getI hX (pc := 10) fX11_318 (by decide) (xs_49 hL) dX11_failing_10 ?_
    refine ww_goto hX (pc := 13) (tgt := 40) dX11_failing_13 (by decide) ?_
    refine rI hX (pc := 40) hT (Nat.le_refl 0) (Nat.le_refl 0) dX11_failing_40 ?_
    exact ⟨kI_1, kJ_1, cI_1, trivial⟩
set_option maxHeartbeats 4000000 in
set_option maxRecDepth 20000 in
theorem c_X11_judge (l0 : Launch) {Ia Ja : aI1} {Ra : aR1} {Sa : aS1} (hL : LY Ra Sa) (hQ : RX Ia) {a : Int} (ha0 : -2147483648 ≤ a) (ha1 : a < 2147483648)  : CT l0 5 0 0 mX11_judge [kR (some 49), kI a] Ia Ja Ra Sa (cI (fun x I' J' => Ch [61] [25] Ia I' ∧ Kp 49 73 Ja J' ∧ RX I' ∧ True) Ra Sa) := by
  refine ct_in pn_X11 (Nat.le_of_ble_eq_true rfl) (fun X hX hT hIn => ?_)
  have hX : aK l0 X cX11_judge 5 RX11 (some .int) 5 0 0 := hX
  change WW X 0 [some (kR (some 49)), some (kI a), none, none, none] [] Ia Ja Ra Sa 0 0
  have qIa := RX_o hQ
  refine ww_iload_n hX (pc := 0) dX11_judge_0 rfl ?_
  refine sI1 hX (pc := 1) sX11_308 (c_X11_isManner l0 (by omega) (by omega)) (by decide) (Nat.le_refl 0) (Nat.le_refl 0) (Nat.le_of_ble_eq_true rfl) dX11_judge_1 (fun x_1 I_1 J_1 h_1 => ?_)
  obtain ⟨rfl, rfl, h_1⟩ := h_1
  refine ww_if_ne hX (pc := 4) (tgt := 9) dX11_judge_4 (by decide) (fun h_4 => ?_) (fun h_4 => ?_)
  · simp only [w32_mod] at h_4
    have k_1 := h_1.2.mp (by omega)
    clear h_1
    refine ww_aload_n hX (pc := 9) dX11_judge_9 rfl ?_
    refine vV0 hX (pc := 10) sX11_294 (xs_49 hL) (c_X11_looks l0 hL hQ ) (by decide) (Nat.le_refl 0) (Nat.le_refl 0) (Nat.le_of_ble_eq_true rfl) dX11_judge_10 (fun I_10 J_10 h_10 => ?_)
    have kJ_10 : Kp 49 73 Ja J_10 := Kp_tr (Kp_rf (a := 49) (b := 73)) h_10.2.1
    have kI_10 : Ch [61] [25] Ia I_10 := Ch_tr Ch_rf (Ch_wd h_10.1 (by decide) (by decide))
    have cI_10 : RX I_10 := h_10.2.2.1
    have qI_10 := RX_o cI_10
    have r304_I_10 : I_10 51 304 = Ia 51 304 := by rw [h_10.1.1 51 (by decide) (by decide)]
    have r305_I_10 : I_10 51 305 = Ia 51 305 := by rw [h_10.1.1 51 (by decide) (by decide)]
    have rf_I_10 : FU (I_10 51 304) = FU (Ia 51 304) := by rw [r304_I_10]
    refine ww_iconst hX (pc := 13) (x := 0) dX11_judge_13 rfl ?_
    refine ww_istore_n hX (pc := 14) (lv' := [some (kR (some 49)), some (kI a), some (kI 0), none, none]) dX11_judge_14 (by decide) rfl rfl ?_
    refine ww_iconst hX (pc := 15) (x := 0) dX11_judge_15 rfl ?_
    refine ww_istore_n hX (pc := 16) (lv' := [some (kR (some 49)), some (kI a), some (kI 0), some (kI 0), none]) dX11_judge_16 (by decide) rfl rfl ?_
    have hl_17 : ∀ (n_17 : Nat) (sa : Int) (i : Int), (30 - i).toNat = n_17 → ((0 ≤ i ∧ i ≤ 30 ∧ 0 ≤ sa ∧ sa ≤ 255)) → WW X 17 [some (kR (some 49)), some (kI a), some (kI sa), some (kI i), none] [] I_10 J_10 Ra Sa 0 0 := by
      intro n_17
      induction n_17 using Nat.strongRecOn with
      | ind n_17 ih_17 =>
        intro sa i hm_17 hv_17
        have hq_17 := Sh0_i hm_17
        clear hm_17
        have hv := hv_17
        refine ww_iload_n hX (pc := 17) dX11_judge_17 rfl ?_
        refine ww_aload_n hX (pc := 18) dX11_judge_18 rfl ?_
        refine ww_getI hX (pc := 19) fX11_334 (by decide) (xs_49 hL) dX11_judge_19 ?_
        refine ww_icmp_ge hX (pc := 22) (tgt := 98) dX11_judge_22 (by decide) (fun h_22 => ?_) (fun h_22 => ?_)
        · simp only [w32_mod] at h_22
          refine ww_iconst hX (pc := 98) (x := (-1)) dX11_judge_98 rfl ?_
          refine rI hX (pc := 99) hT (Nat.le_refl 0) (Nat.le_refl 0) dX11_judge_99 ?_
          exact ⟨kI_10, kJ_10, cI_10, trivial⟩
        · simp only [w32_mod] at h_22
          refine ww_aload_n hX (pc := 25) dX11_judge_25 rfl ?_
          refine ww_getR hX (pc := 26) fX11_77 (by decide) (xs_49 hL) (xr_49_32 hL) dX11_judge_26 ?_
          refine ww_iload_n hX (pc := 29) dX11_judge_29 rfl ?_
          refine ww_iald hX (pc := 30) (xs_67 hL) (by decide) (by omega) (by omega) dX11_judge_30 ?_
          refine ww_wI ?_
          have hwr := w32_r (I_10 67 i.toNat)
          refine ww_nmI (fun v_31 hv_31 => ?_)
          refine ww_istore hX (pc := 31) (lv' := [some (kR (some 49)), some (kI a), some (kI sa), some (kI i), some (kI v_31)]) dX11_judge_31 (by decide) rfl rfl ?_
          refine ww_aload_n hX (pc := 33) dX11_judge_33 rfl ?_
          refine ww_iload hX (pc := 34) dX11_judge_34 rfl ?_
          refine vI1 hX (pc := 36) sX11_120 (xs_49 hL) (c_X11_isState l0 hL cI_10 (by omega) (by omega)) (by decide) (Nat.le_refl 0) (Nat.le_refl 0) (Nat.le_of_ble_eq_true rfl) dX11_judge_36 (fun x_36 I_36 J_36 h_36 => ?_)
          obtain ⟨rfl, rfl, h_36⟩ := h_36
          refine ww_if_eq hX (pc := 39) (tgt := 87) dX11_judge_39 (by decide) (fun h_39 => ?_) (fun h_39 => ?_)
          · simp only [w32_mod] at h_39
            refine ww_iload_n hX (pc := 87) dX11_judge_87 rfl ?_
            refine rI hX (pc := 88) hT (Nat.le_refl 0) (Nat.le_refl 0) dX11_judge_88 ?_
            exact ⟨kI_10, kJ_10, cI_10, trivial⟩
          · simp only [w32_mod] at h_39
            have k_36 := h_36.2.mp (by omega)
            clear h_36
            refine ww_aload_n hX (pc := 42) dX11_judge_42 rfl ?_
            refine ww_iload_n hX (pc := 43) dX11_judge_43 rfl ?_
            refine ww_iload hX (pc := 44) dX11_judge_44 rfl ?_
            refine ww_aload_n hX (pc := 46) dX11_judge_46 rfl ?_
            refine ww_getR hX (pc := 47) fX11_20 (by decide) (xs_49 hL) (xr_49_3 hL) dX11_judge_47 ?_
            refine ww_sipush hX (pc := 50) (x := 306) dX11_judge_50 (by decide) ?_
            refine ww_iald hX (pc := 53) (xs_51 hL) (by decide) (by omega) (by omega) dX11_judge_53 ?_
            refine ww_toI (b := I_10 51 306) rfl ?_
            refine vI3 hX (pc := 54) sX11_271 (xs_49 hL) (c_X11_canCome l0 hL cI_10 ) (by decide) (Nat.le_refl 0) (Nat.le_refl 0) (Nat.le_of_ble_eq_true rfl) dX11_judge_54 (fun x_54 I_54 J_54 h_54 => ?_)
            obtain ⟨rfl, rfl, h_54⟩ := h_54
            refine ww_if_eq hX (pc := 57) (tgt := 87) dX11_judge_57 (by decide) (fun h_57 => ?_) (fun h_57 => ?_)
            · simp only [w32_mod] at h_57
              refine ww_iload_n hX (pc := 87) dX11_judge_87 rfl ?_
              refine rI hX (pc := 88) hT (Nat.le_refl 0) (Nat.le_refl 0) dX11_judge_88 ?_
              exact ⟨kI_10, kJ_10, cI_10, trivial⟩
            · simp only [w32_mod] at h_57
              have k_54 := h_54.2.mp (by omega)
              clear h_54
              refine ww_aload_n hX (pc := 60) dX11_judge_60 rfl ?_
              refine ww_iload hX (pc := 61) dX11_judge_61 rfl ?_
              refine vI1 hX (pc := 63) sX11_126 (xs_49 hL) (c_X11_readOf l0 hL cI_10 (by omega) (by omega)) (by decide) (Nat.le_refl 0) (Nat.le_refl 0) (Nat.le_of_ble_eq_true rfl) dX11_judge_63 (fun x_63 I_63 J_63 h_63 => ?_)
              obtain ⟨rfl, rfl, h_63⟩ := h_63
              refine ww_iconst hX (pc := 66) (x := (-1)) dX11_judge_66 rfl ?_
              refine ww_icmp_eq hX (pc := 67) (tgt := 87) dX11_judge_67 (by decide) (fun h_67 => ?_) (fun h_67 => ?_)
              · simp only [w32_mod] at h_67
                refine ww_iload_n hX (pc := 87) dX11_judge_87 rfl ?_
                refine rI hX (pc := 88) hT (Nat.le_refl 0) (Nat.le_refl 0) dX11_judge_88 ?_
                exact ⟨kI_10, kJ_10, cI_10, trivial⟩
              · simp only [w32_mod] at h_67
                refine ww_aload_n hX (pc := 70) dX11_judge_70 rfl ?_
                refine ww_iload_n hX (pc := 71) dX11_judge_71 rfl ?_
                refine ww_aload_n hX (pc := 72) dX11_judge_72 rfl ?_
                refine ww_iload hX (pc := 73) dX11_judge_73 rfl ?_
                refine vI1 hX (pc := 75) sX11_126 (xs_49 hL) (c_X11_readOf l0 hL cI_10 (by omega) (by omega)) (by decide) (Nat.le_refl 0) (Nat.le_refl 0) (Nat.le_of_ble_eq_true rfl) dX11_judge_75 (fun x_75 I_75 J_75 h_75 => ?_)
                obtain ⟨rfl, rfl, h_75⟩ := h_75
                refine ww_iload_n hX (pc := 78) dX11_judge_78 rfl ?_
                refine vI3 hX (pc := 79) sX11_311 (xs_49 hL) (c_X11_nextOf l0 hL cI_10 (by omega) (by omega)) (by decide) (Nat.le_refl 0) (Nat.le_refl 0) (Nat.le_of_ble_eq_true rfl) dX11_judge_79 (fun x_79 I_79 J_79 h_79 => ?_)
                obtain ⟨rfl, rfl, h_79⟩ := h_79
                refine ww_iload hX (pc := 82) dX11_judge_82 rfl ?_
                refine ww_icmp_eq hX (pc := 84) (tgt := 89) dX11_judge_84 (by decide) (fun h_84 => ?_) (fun h_84 => ?_)
                · simp only [w32_mod] at h_84
                  refine ww_iload hX (pc := 89) dX11_judge_89 rfl ?_
                  refine ww_istore_n hX (pc := 91) (lv' := [some (kR (some 49)), some (kI a), some (kI v_31), some (kI i), some (kI v_31)]) dX11_judge_91 (by decide) rfl rfl ?_
                  refine ww_iinc hX (pc := 92) (lv' := [some (kR (some 49)), some (kI a), some (kI v_31), some (kI (i + 1)), some (kI v_31)]) dX11_judge_92 rfl (by decide) rfl rfl ?_
                  refine ww_goto hX (pc := 95) (tgt := 17) dX11_judge_95 (by decide) ?_
                  refine ww_sub [some (kR (some 49)), some (kI a), some (kI v_31), some (kI (i + 1)), none] (aLe_s (aLe_s (aLe_s (aLe_s (aLe_n aLe_0))))) ?_
                  exact ih_17 _ (by have hm9 := Sh0_e hq_17; omega) v_31 (i + 1) rfl (by omega)
                · simp only [w32_mod] at h_84
                  refine ww_iload_n hX (pc := 87) dX11_judge_87 rfl ?_
                  refine rI hX (pc := 88) hT (Nat.le_refl 0) (Nat.le_refl 0) dX11_judge_88 ?_
                  exact ⟨kI_10, kJ_10, cI_10, trivial⟩
    exact hl_17 _ 0 0 rfl (by omega)
  · simp only [w32_mod] at h_4
    refine ww_iconst hX (pc := 7) (x := (-1)) dX11_judge_7 rfl ?_
    refine rI hX (pc := 8) hT (Nat.le_refl 0) (Nat.le_refl 0) dX11_judge_8 ?_
    exact ⟨Ch_rf, (Kp_rf (a := 49) (b := 73)), hQ, trivial⟩
end
section
theorem i_rem_v {a b : Int} (ha : 0 ≤ a) (ha2 : a < 2147483648) (hb : 0 < b) (hb2 : b < 2147483648) : i_rem a b = a % b := by
  have e1 : (Int32.ofInt a).toInt = a := w32_id (by omega) (by omega)
  have e2 : (Int32.ofInt b).toInt = b := w32_id (by omega) (by omega)
  have h1 : 0 ≤ a / b := Int.ediv_nonneg ha (by omega)
  have h2 : a / b ≤ a := Int.ediv_le_self b ha
  have h3 : a / b * b = a - a % b := by have := Int.mul_ediv_add_emod a b; rw [Int.mul_comm] at this; omega
  have h4 := Int.emod_nonneg a (show b ≠ 0 by omega)
  have h5 := Int.emod_lt_of_pos a hb
  unfold i_rem
  rw [Int32.toInt_sub, Int32.toInt_mul, Int32.toInt_div, e1, e2, Int.tdiv_eq_ediv_of_nonneg ha]
  rw [show (a / b).bmod (2 ^ 32) = a / b from Int.bmod_eq_of_le (by omega) (by omega), h3]
  rw [show (a - a % b).bmod (2 ^ 32) = a - a % b from Int.bmod_eq_of_le (by omega) (by omega)]
  rw [show a - (a - a % b) = a % b by omega]
  exact Int.bmod_eq_of_le (by omega) (by omega)
theorem i_div_v {a b : Int} (ha : 0 ≤ a) (ha2 : a < 2147483648) (hb : 0 < b) (hb2 : b < 2147483648) : i_div a b = a / b := by
  have e1 : (Int32.ofInt a).toInt = a := w32_id (by omega) (by omega)
  have e2 : (Int32.ofInt b).toInt = b := w32_id (by omega) (by omega)
  have h1 : 0 ≤ a / b := Int.ediv_nonneg ha (by omega)
  have h2 : a / b ≤ a := Int.ediv_le_self b ha
  unfold i_div
  rw [Int32.toInt_div, e1, e2, Int.tdiv_eq_ediv_of_nonneg ha]
  exact Int.bmod_eq_of_le (by omega) (by omega)
theorem FU_3 {n : Int} (h0 : 1 ≤ n) (h1 : n ≤ 3) : FU n ≤ 7 := by
  unfold FU
  rcases (show n = 1 ∨ n = 2 ∨ n = 3 by omega) with rfl | rfl | rfl <;> decide
end
section
theorem RX_n {I : aI1} (h : RX I) : (1 ≤ I 51 304 ∧ I 51 304 ≤ 8) ∧ (2 ≤ I 51 305 ∧ I 51 305 ≤ 8) ∧ (1 ≤ FU (I 51 304) ∧ FU (I 51 304) ≤ 255) := by
  have hf := FU_r h.1.1.1 h.1.1.2
  exact ⟨h.1.1, h.1.2.1, hf.1, hf.2.1⟩
set_option maxHeartbeats 4000000 in
set_option maxRecDepth 20000 in
theorem c_X11_night (l0 : Launch) {Ia Ja : aI1} {Ra : aR1} {Sa : aS1} (hL : LY Ra Sa) (hQ : RX Ia) {a b c : Int} (ha0 : -2147483648 ≤ a) (ha1 : a < 2147483648) (hb0 : -2147483648 ≤ b) (hb1 : b < 2147483648) (hc0 : -2147483648 ≤ c) (hc1 : c < 2147483648)  : CT l0 5 0 0 mX11_night [kR (some 49), kI a, kI b, kI c] Ia Ja Ra Sa (cI (fun x I' J' => Ch [50, 61, 72] [0, 1, 25, 39, 40, 41] Ia I' ∧ Kp 49 73 Ja J' ∧ RX I' ∧ True) Ra Sa) := by
  refine ct_in pn_X11 (Nat.le_of_ble_eq_true rfl) (fun X hX hT hIn => ?_)
  have hX : aK l0 X cX11_night 7 RX11 (some .int) 5 0 0 := hX
  change WW X 0 [some (kR (some 49)), some (kI a), some (kI b), some (kI c), none, none, none] [] Ia Ja Ra Sa 0 0
  have qIa := RX_n hQ
  refine ww_iload_n hX (pc := 0) dX11_night_0 rfl ?_
  refine ww_iconst hX (pc := 1) (x := 0) dX11_night_1 rfl ?_
  refine ww_ldc hX (pc := 2) (x := 1000000) dX11_night_2 tb_1327 ?_
  refine sI3 hX (pc := 4) sX11_101 (c_X11_lies l0 (by omega) (by omega) (by omega) (by omega) (by omega) (by omega)) (by decide) (Nat.le_refl 0) (Nat.le_refl 0) (Nat.le_of_ble_eq_true rfl) dX11_night_4 (fun x_4 I_4 J_4 h_4 => ?_)
  obtain ⟨rfl, rfl, h_4⟩ := h_4
  refine ww_if_eq hX (pc := 7) (tgt := 27) dX11_night_7 (by decide) (fun h_7 => ?_) (fun h_7 => ?_)
  · simp only [w32_mod] at h_7
    refine ww_aload_n hX (pc := 27) dX11_night_27 rfl ?_
    refine ww_iconst hX (pc := 28) (x := (-1)) dX11_night_28 rfl ?_
    refine vI1 hX (pc := 29) sX11_105 (xs_49 hL) (c_X11_refuses l0 hL hQ (by omega) (by omega)) (by decide) (Nat.le_refl 0) (Nat.le_refl 0) (Nat.le_of_ble_eq_true rfl) dX11_night_29 (fun x_29 I_29 J_29 h_29 => ?_)
    have kJ_29 : Kp 49 73 Ja J_29 := Kp_tr (Kp_rf (a := 49) (b := 73)) h_29.2.1
    have kI_29 : Ch [50, 61, 72] [0, 1, 25, 39, 40, 41] Ia I_29 := Ch_tr Ch_rf (Ch_wd h_29.1 (by decide) (by decide))
    have cI_29 : RX I_29 := h_29.2.2.1
    have qI_29 := RX_n cI_29
    have r304_I_29 : I_29 51 304 = Ia 51 304 := by rw [h_29.1.1 51 (by decide) (by decide)]
    have r305_I_29 : I_29 51 305 = Ia 51 305 := by rw [h_29.1.1 51 (by decide) (by decide)]
    have f39_I_29 : I_29 49 39 = Ia 49 39 := h_29.1.2 39 (by decide)
    have f40_I_29 : I_29 49 40 = Ia 49 40 := h_29.1.2 40 (by decide)
    have f41_I_29 : I_29 49 41 = Ia 49 41 := h_29.1.2 41 (by decide)
    have rf_I_29 : FU (I_29 51 304) = FU (Ia 51 304) := by rw [r304_I_29]
    refine rI hX (pc := 32) hT (Nat.le_refl 0) (Nat.le_refl 0) dX11_night_32 ?_
    exact ⟨kI_29, kJ_29, cI_29, trivial⟩
  · simp only [w32_mod] at h_7
    have k_4 := h_4.2.mp (by omega)
    clear h_4
    refine ww_iload_n hX (pc := 10) dX11_night_10 rfl ?_
    refine ww_iconst hX (pc := 11) (x := 0) dX11_night_11 rfl ?_
    refine ww_bipush hX (pc := 12) (x := 24) dX11_night_12 (by decide) ?_
    refine sI3 hX (pc := 14) sX11_101 (c_X11_lies l0 (by omega) (by omega) (by omega) (by omega) (by omega) (by omega)) (by decide) (Nat.le_refl 0) (Nat.le_refl 0) (Nat.le_of_ble_eq_true rfl) dX11_night_14 (fun x_14 I_14 J_14 h_14 => ?_)
    obtain ⟨rfl, rfl, h_14⟩ := h_14
    refine ww_if_eq hX (pc := 17) (tgt := 27) dX11_night_17 (by decide) (fun h_17 => ?_) (fun h_17 => ?_)
    · simp only [w32_mod] at h_17
      refine ww_aload_n hX (pc := 27) dX11_night_27 rfl ?_
      refine ww_iconst hX (pc := 28) (x := (-1)) dX11_night_28 rfl ?_
      refine vI1 hX (pc := 29) sX11_105 (xs_49 hL) (c_X11_refuses l0 hL hQ (by omega) (by omega)) (by decide) (Nat.le_refl 0) (Nat.le_refl 0) (Nat.le_of_ble_eq_true rfl) dX11_night_29 (fun x_29 I_29 J_29 h_29 => ?_)
      have kJ_29 : Kp 49 73 Ja J_29 := Kp_tr (Kp_rf (a := 49) (b := 73)) h_29.2.1
      have kI_29 : Ch [50, 61, 72] [0, 1, 25, 39, 40, 41] Ia I_29 := Ch_tr Ch_rf (Ch_wd h_29.1 (by decide) (by decide))
      have cI_29 : RX I_29 := h_29.2.2.1
      have qI_29 := RX_n cI_29
      have r304_I_29 : I_29 51 304 = Ia 51 304 := by rw [h_29.1.1 51 (by decide) (by decide)]
      have r305_I_29 : I_29 51 305 = Ia 51 305 := by rw [h_29.1.1 51 (by decide) (by decide)]
      have f39_I_29 : I_29 49 39 = Ia 49 39 := h_29.1.2 39 (by decide)
      have f40_I_29 : I_29 49 40 = Ia 49 40 := h_29.1.2 40 (by decide)
      have f41_I_29 : I_29 49 41 = Ia 49 41 := h_29.1.2 41 (by decide)
      have rf_I_29 : FU (I_29 51 304) = FU (Ia 51 304) := by rw [r304_I_29]
      refine rI hX (pc := 32) hT (Nat.le_refl 0) (Nat.le_refl 0) dX11_night_32 ?_
      exact ⟨kI_29, kJ_29, cI_29, trivial⟩
    · simp only [w32_mod] at h_17
      have k_14 := h_14.2.mp (by omega)
      clear h_14
      refine ww_iload_n hX (pc := 20) dX11_night_20 rfl ?_
      refine sI1 hX (pc := 21) sX11_308 (c_X11_isManner l0 (by omega) (by omega)) (by decide) (Nat.le_refl 0) (Nat.le_refl 0) (Nat.le_of_ble_eq_true rfl) dX11_night_21 (fun x_21 I_21 J_21 h_21 => ?_)
      obtain ⟨rfl, rfl, h_21⟩ := h_21
      refine ww_if_ne hX (pc := 24) (tgt := 33) dX11_night_24 (by decide) (fun h_24 => ?_) (fun h_24 => ?_)
      · simp only [w32_mod] at h_24
        have k_21 := h_21.2.mp (by omega)
        clear h_21
        refine ww_aload_n hX (pc := 33) dX11_night_33 rfl ?_
        refine vV0 hX (pc := 34) sX11_294 (xs_49 hL) (c_X11_looks l0 hL hQ ) (by decide) (Nat.le_refl 0) (Nat.le_refl 0) (Nat.le_of_ble_eq_true rfl) dX11_night_34 (fun I_34 J_34 h_34 => ?_)
        have kJ_34 : Kp 49 73 Ja J_34 := Kp_tr (Kp_rf (a := 49) (b := 73)) h_34.2.1
        have kI_34 : Ch [50, 61, 72] [0, 1, 25, 39, 40, 41] Ia I_34 := Ch_tr Ch_rf (Ch_wd h_34.1 (by decide) (by decide))
        have cI_34 : RX I_34 := h_34.2.2.1
        have qI_34 := RX_n cI_34
        have r304_I_34 : I_34 51 304 = Ia 51 304 := by rw [h_34.1.1 51 (by decide) (by decide)]
        have r305_I_34 : I_34 51 305 = Ia 51 305 := by rw [h_34.1.1 51 (by decide) (by decide)]
        have f39_I_34 : I_34 49 39 = Ia 49 39 := h_34.1.2 39 (by decide)
        have f40_I_34 : I_34 49 40 = Ia 49 40 := h_34.1.2 40 (by decide)
        have f41_I_34 : I_34 49 41 = Ia 49 41 := h_34.1.2 41 (by decide)
        have rf_I_34 : FU (I_34 51 304) = FU (Ia 51 304) := by rw [r304_I_34]
        refine ww_aload_n hX (pc := 37) dX11_night_37 rfl ?_
        refine ww_iload_n hX (pc := 38) dX11_night_38 rfl ?_
        refine ww_putI hX (pc := 39) (fun h9 => absurd h9 (by decide)) gX11_344 rfl (xs_49 hL) dX11_night_39 ?_
        refine ww_nmH (fun I_39 eI_39 => ?_)
        have kI_39 : Ch [50, 61, 72] [0, 1, 25, 39, 40, 41] Ia I_39 := by rw [eI_39]; exact Ch_f kI_34 (by decide)
        have cI_39 : RX I_39 := by rw [eI_39]; exact RX_f cI_34 (by decide)
        have qI_39 := RX_n cI_39
        have r304_I_39 : I_39 51 304 = I_34 51 304 := by rw [eI_39, up2_off _ _ _ (by decide)]
        have r305_I_39 : I_39 51 305 = I_34 51 305 := by rw [eI_39, up2_off _ _ _ (by decide)]
        have f39_I_39 : I_39 49 39 = I_34 49 39 := by rw [eI_39, up2_n _ _ (Or.inr (by decide))]
        have f40_I_39 : I_39 49 40 = I_34 49 40 := by rw [eI_39, up2_n _ _ (Or.inr (by decide))]
        have rf_I_39 : FU (I_39 51 304) = FU (I_34 51 304) := by rw [r304_I_39]
        have f41 : I_39 49 41 = a := by rw [eI_39, up2_s]
        refine ww_aload_n hX (pc := 42) dX11_night_42 rfl ?_
        refine ww_iconst hX (pc := 43) (x := 0) dX11_night_43 rfl ?_
        refine ww_putI hX (pc := 44) (fun h9 => absurd h9 (by decide)) gX11_95 rfl (xs_49 hL) dX11_night_44 ?_
        refine ww_nmH (fun I_44 eI_44 => ?_)
        have kI_44 : Ch [50, 61, 72] [0, 1, 25, 39, 40, 41] Ia I_44 := by rw [eI_44]; exact Ch_f kI_39 (by decide)
        have cI_44 : RX I_44 := by rw [eI_44]; exact RX_39 cI_39 (by omega) (by omega)
        have qI_44 := RX_n cI_44
        have r304_I_44 : I_44 51 304 = I_39 51 304 := by rw [eI_44, up2_off _ _ _ (by decide)]
        have r305_I_44 : I_44 51 305 = I_39 51 305 := by rw [eI_44, up2_off _ _ _ (by decide)]
        have f40_I_44 : I_44 49 40 = I_39 49 40 := by rw [eI_44, up2_n _ _ (Or.inr (by decide))]
        have f41_I_44 : I_44 49 41 = I_39 49 41 := by rw [eI_44, up2_n _ _ (Or.inr (by decide))]
        have rf_I_44 : FU (I_44 51 304) = FU (I_39 51 304) := by rw [r304_I_44]
        have f39 : I_44 49 39 = 0 := by rw [eI_44, up2_s]
        refine ww_aload_n hX (pc := 47) dX11_night_47 rfl ?_
        refine ww_iconst hX (pc := 48) (x := (-1)) dX11_night_48 rfl ?_
        refine ww_putI hX (pc := 49) (fun h9 => absurd h9 (by decide)) gX11_347 rfl (xs_49 hL) dX11_night_49 ?_
        refine ww_nmH (fun I_49 eI_49 => ?_)
        have kI_49 : Ch [50, 61, 72] [0, 1, 25, 39, 40, 41] Ia I_49 := by rw [eI_49]; exact Ch_f kI_44 (by decide)
        have cI_49 : RX I_49 := by rw [eI_49]; exact RX_f cI_44 (by decide)
        have qI_49 := RX_n cI_49
        have r304_I_49 : I_49 51 304 = I_44 51 304 := by rw [eI_49, up2_off _ _ _ (by decide)]
        have r305_I_49 : I_49 51 305 = I_44 51 305 := by rw [eI_49, up2_off _ _ _ (by decide)]
        have f39_I_49 : I_49 49 39 = I_44 49 39 := by rw [eI_49, up2_n _ _ (Or.inr (by decide))]
        have f41_I_49 : I_49 49 41 = I_44 49 41 := by rw [eI_49, up2_n _ _ (Or.inr (by decide))]
        have rf_I_49 : FU (I_49 51 304) = FU (I_44 51 304) := by rw [r304_I_49]
        have f40 : I_49 49 40 = -1 := by rw [eI_49, up2_s]
        refine ww_iconst hX (pc := 52) (x := 0) dX11_night_52 rfl ?_
        refine ww_istore hX (pc := 53) (lv' := [some (kR (some 49)), some (kI a), some (kI b), some (kI c), some (kI 0), none, none]) dX11_night_53 (by decide) rfl rfl ?_
        have hl_55 : ∀ (n_55 : Nat) (sa : Int) (I55 : aI1) (J55 : aI1), (2 * (24 - I55 49 39) - I55 49 40).toNat = n_55 → (Ch [50, 61, 72] [0, 1, 25, 39, 40, 41] Ia I55 ∧ RX I55 ∧ Kp 49 73 Ja J55 ∧ I55 51 304 = I_49 51 304 ∧ I55 51 305 = I_49 51 305 ∧ (0 ≤ sa ∧ sa ≤ 255) ∧ (0 ≤ I55 49 39 ∧ I55 49 39 ≤ 24) ∧ (-1 ≤ I55 49 40 ∧ I55 49 40 ≤ 8) ∧ (0 ≤ I55 49 41 ∧ I55 49 41 ≤ 1000003)) → WW X 55 [some (kR (some 49)), some (kI a), some (kI b), some (kI c), some (kI sa), none, none] [] I55 J55 Ra Sa 0 0 := by
          intro n_55
          induction n_55 using Nat.strongRecOn with
          | ind n_55 ih_55 =>
            intro sa I55 J55 hm_55 hv_55
            have hq_55 := Sh0_i hm_55
            clear hm_55
            obtain ⟨kI55, cI55, kJ55, r304_I55, r305_I55, hv, hv1, hv2, hv3⟩ := hv_55
            have qI55 := RX_n cI55
            have rf_I55 : FU (I55 51 304) = FU (I_49 51 304) := by rw [r304_I55]
            refine ww_aload_n hX (pc := 55) dX11_night_55 rfl ?_
            refine ww_getI hX (pc := 56) fX11_95 (by decide) (xs_49 hL) dX11_night_56 ?_
            refine ww_iload_n hX (pc := 59) dX11_night_59 rfl ?_
            refine ww_icmp_ge hX (pc := 60) (tgt := 162) dX11_night_60 (by decide) (fun h_60 => ?_) (fun h_60 => ?_)
            · simp only [w32_mod] at h_60
              refine ww_aload_n hX (pc := 162) dX11_night_162 rfl ?_
              refine ww_aload_n hX (pc := 163) dX11_night_163 rfl ?_
              refine ww_getI hX (pc := 164) fX11_95 (by decide) (xs_49 hL) dX11_night_164 ?_
              refine vI1 hX (pc := 167) sX11_109 (xs_49 hL) (c_X11_good l0 hL cI55 ) (by decide) (Nat.le_refl 0) (Nat.le_refl 0) (Nat.le_of_ble_eq_true rfl) dX11_night_167 (fun x_167 I_167 J_167 h_167 => ?_)
              have kJ_167 : Kp 49 73 Ja J_167 := Kp_tr kJ55 h_167.2.1
              have kI_167 : Ch [50, 61, 72] [0, 1, 25, 39, 40, 41] Ia I_167 := Ch_tr kI55 (Ch_wd h_167.1 (by decide) (by decide))
              have cI_167 : RX I_167 := h_167.2.2.1
              have qI_167 := RX_n cI_167
              have r304_I_167 : I_167 51 304 = I55 51 304 := by rw [h_167.1.1 51 (by decide) (by decide)]
              have r305_I_167 : I_167 51 305 = I55 51 305 := by rw [h_167.1.1 51 (by decide) (by decide)]
              have f39_I_167 : I_167 49 39 = I55 49 39 := h_167.1.2 39 (by decide)
              have f40_I_167 : I_167 49 40 = I55 49 40 := h_167.1.2 40 (by decide)
              have f41_I_167 : I_167 49 41 = I55 49 41 := h_167.1.2 41 (by decide)
              have rf_I_167 : FU (I_167 51 304) = FU (I55 51 304) := by rw [r304_I_167]
              refine rI hX (pc := 170) hT (Nat.le_refl 0) (Nat.le_refl 0) dX11_night_170 ?_
              exact ⟨kI_167, kJ_167, cI_167, trivial⟩
            · simp only [w32_mod] at h_60
              refine ww_aload_n hX (pc := 63) dX11_night_63 rfl ?_
              refine ww_getI hX (pc := 64) fX11_347 (by decide) (xs_49 hL) dX11_night_64 ?_
              refine ww_iconst hX (pc := 67) (x := (-1)) dX11_night_67 rfl ?_
              refine ww_icmp_ne hX (pc := 68) (tgt := 162) dX11_night_68 (by decide) (fun h_68 => ?_) (fun h_68 => ?_)
              · simp only [w32_mod] at h_68
                refine ww_aload_n hX (pc := 162) dX11_night_162 rfl ?_
                refine ww_aload_n hX (pc := 163) dX11_night_163 rfl ?_
                refine ww_getI hX (pc := 164) fX11_95 (by decide) (xs_49 hL) dX11_night_164 ?_
                refine vI1 hX (pc := 167) sX11_109 (xs_49 hL) (c_X11_good l0 hL cI55 ) (by decide) (Nat.le_refl 0) (Nat.le_refl 0) (Nat.le_of_ble_eq_true rfl) dX11_night_167 (fun x_167 I_167 J_167 h_167 => ?_)
                have kJ_167 : Kp 49 73 Ja J_167 := Kp_tr kJ55 h_167.2.1
                have kI_167 : Ch [50, 61, 72] [0, 1, 25, 39, 40, 41] Ia I_167 := Ch_tr kI55 (Ch_wd h_167.1 (by decide) (by decide))
                have cI_167 : RX I_167 := h_167.2.2.1
                have qI_167 := RX_n cI_167
                have r304_I_167 : I_167 51 304 = I55 51 304 := by rw [h_167.1.1 51 (by decide) (by decide)]
                have r305_I_167 : I_167 51 305 = I55 51 305 := by rw [h_167.1.1 51 (by decide) (by decide)]
                have f39_I_167 : I_167 49 39 = I55 49 39 := h_167.1.2 39 (by decide)
                have f40_I_167 : I_167 49 40 = I55 49 40 := h_167.1.2 40 (by decide)
                have f41_I_167 : I_167 49 41 = I55 49 41 := h_167.1.2 41 (by decide)
                have rf_I_167 : FU (I_167 51 304) = FU (I55 51 304) := by rw [r304_I_167]
                refine rI hX (pc := 170) hT (Nat.le_refl 0) (Nat.le_refl 0) dX11_night_170 ?_
                exact ⟨kI_167, kJ_167, cI_167, trivial⟩
              · simp only [w32_mod] at h_68
                refine ww_aload_n hX (pc := 71) dX11_night_71 rfl ?_
                refine ww_ldc2 hX (pc := 72) (x := 1103) dX11_night_72 tb_1615 ?_
                refine ww_aload_n hX (pc := 75) dX11_night_75 rfl ?_
                refine ww_getI hX (pc := 76) fX11_344 (by decide) (xs_49 hL) dX11_night_76 ?_
                refine ww_i2l hX (pc := 79) dX11_night_79 ?_
                refine ww_lmul hX (pc := 80) dX11_night_80 ?_
                refine ww_ldc2 hX (pc := 81) (x := 12345) dX11_night_81 tb_1616 ?_
                refine ww_ladd hX (pc := 84) dX11_night_84 ?_
                refine ww_ldc2 hX (pc := 85) (x := 1000003) dX11_night_85 tb_1617 ?_
                refine ww_lrem hX (pc := 88) dX11_night_88 (by decide) ?_
                refine ww_l2i hX (pc := 89) dX11_night_89 ?_
                refine ww_putI hX (pc := 90) (fun h9 => absurd h9 (by decide)) gX11_344 rfl (xs_49 hL) dX11_night_90 ?_
                refine ww_nmH (fun I_90 eI_90 => ?_)
                have kI_90 : Ch [50, 61, 72] [0, 1, 25, 39, 40, 41] Ia I_90 := by rw [eI_90]; exact Ch_f kI55 (by decide)
                have cI_90 : RX I_90 := by rw [eI_90]; exact RX_f cI55 (by decide)
                have qI_90 := RX_n cI_90
                have r304_I_90 : I_90 51 304 = I55 51 304 := by rw [eI_90, up2_off _ _ _ (by decide)]
                have r305_I_90 : I_90 51 305 = I55 51 305 := by rw [eI_90, up2_off _ _ _ (by decide)]
                have f39_I_90 : I_90 49 39 = I55 49 39 := by rw [eI_90, up2_n _ _ (Or.inr (by decide))]
                have f40_I_90 : I_90 49 40 = I55 49 40 := by rw [eI_90, up2_n _ _ (Or.inr (by decide))]
                have rf_I_90 : FU (I_90 51 304) = FU (I55 51 304) := by rw [r304_I_90]
                have f41 : I_90 49 41 = l_rem (1103 * w32 (I55 49 41) + 12345) 1000003 := by rw [eI_90, up2_s]
                rw [w32_id (by omega) (by omega), l_rem_v (by omega) (by omega) (by decide) (by decide)] at f41
                refine ww_aload_n hX (pc := 93) dX11_night_93 rfl ?_
                refine ww_getI hX (pc := 94) fX11_344 (by decide) (xs_49 hL) dX11_night_94 ?_
                refine ww_aload_n hX (pc := 97) dX11_night_97 rfl ?_
                refine ww_getR hX (pc := 98) fX11_20 (by decide) (xs_49 hL) (xr_49_3 hL) dX11_night_98 ?_
                refine ww_sipush hX (pc := 101) (x := 305) dX11_night_101 (by decide) ?_
                refine ww_iald hX (pc := 104) (xs_51 hL) (by decide) (by omega) (by omega) dX11_night_104 ?_
                refine ww_toI (b := I_90 51 305) rfl ?_
                refine ww_irem hX (pc := 105) dX11_night_105 (by rw [w32_id (by omega) (by omega)]; omega) ?_
                refine ww_nmI (fun v_106 hv_106 => ?_)
                refine ww_istore hX (pc := 106) (lv' := [some (kR (some 49)), some (kI a), some (kI b), some (kI c), some (kI sa), some (kI v_106), none]) dX11_night_106 (by decide) rfl rfl ?_
                rw [i_rem_v (by omega) (by omega) (by omega) (by omega)] at hv_106
                have hx1 := Int.emod_nonneg (I_90 49 41) (show I_90 51 305 ≠ 0 by omega)
                have hx2 := Int.emod_lt_of_pos (I_90 49 41) (show 0 < I_90 51 305 by omega)
                refine ww_aload_n hX (pc := 108) dX11_night_108 rfl ?_
                refine ww_iload hX (pc := 109) dX11_night_109 rfl ?_
                refine ww_iload hX (pc := 111) dX11_night_111 rfl ?_
                refine ww_iload_n hX (pc := 113) dX11_night_113 rfl ?_
                refine vI3 hX (pc := 114) sX11_311 (xs_49 hL) (c_X11_nextOf l0 hL cI_90 (by omega) (by omega)) (by decide) (Nat.le_refl 0) (Nat.le_refl 0) (Nat.le_of_ble_eq_true rfl) dX11_night_114 (fun x_114 I_114 J_114 h_114 => ?_)
                obtain ⟨rfl, rfl, h_114⟩ := h_114
                refine ww_istore hX (pc := 117) (lv' := [some (kR (some 49)), some (kI a), some (kI b), some (kI c), some (kI sa), some (kI v_106), some (kI x_114)]) dX11_night_117 (by decide) rfl rfl ?_
                refine ww_iload hX (pc := 119) dX11_night_119 rfl ?_
                refine ww_iconst hX (pc := 121) (x := (-1)) dX11_night_121 rfl ?_
                refine ww_icmp_ne hX (pc := 122) (tgt := 134) dX11_night_122 (by decide) (fun h_122 => ?_) (fun h_122 => ?_)
                · simp only [w32_mod] at h_122
                  refine ww_iload hX (pc := 134) dX11_night_134 rfl ?_
                  refine ww_istore hX (pc := 136) (lv' := [some (kR (some 49)), some (kI a), some (kI b), some (kI c), some (kI x_114), some (kI v_106), some (kI x_114)]) dX11_night_136 (by decide) rfl rfl ?_
                  refine ww_aload_n hX (pc := 138) dX11_night_138 rfl ?_
                  refine ww_getR hX (pc := 139) fX11_92 (by decide) (xs_49 hL) (xr_49_38 hL) dX11_night_139 ?_
                  refine ww_aload_n hX (pc := 142) dX11_night_142 rfl ?_
                  refine ww_getI hX (pc := 143) fX11_95 (by decide) (xs_49 hL) dX11_night_143 ?_
                  refine ww_iload hX (pc := 146) dX11_night_146 rfl ?_
                  refine ww_iast hX (pc := 148) (xs_72 hL) (by decide) (by omega) (by omega) dX11_night_148 ?_
                  refine ww_nmH (fun I_148 eI_148 => ?_)
                  have kI_148 : Ch [50, 61, 72] [0, 1, 25, 39, 40, 41] Ia I_148 := by rw [eI_148]; exact Ch_r kI_90 (by decide) (by decide)
                  have cI_148 : RX I_148 := by rw [eI_148]; exact RX_r cI_90 (by decide)
                  have qI_148 := RX_n cI_148
                  have r304_I_148 : I_148 51 304 = I_90 51 304 := by rw [eI_148, up2_off _ _ _ (by decide)]
                  have r305_I_148 : I_148 51 305 = I_90 51 305 := by rw [eI_148, up2_off _ _ _ (by decide)]
                  have f39_I_148 : I_148 49 39 = I_90 49 39 := by rw [eI_148, up2_off _ _ _ (by decide)]
                  have f40_I_148 : I_148 49 40 = I_90 49 40 := by rw [eI_148, up2_off _ _ _ (by decide)]
                  have f41_I_148 : I_148 49 41 = I_90 49 41 := by rw [eI_148, up2_off _ _ _ (by decide)]
                  have rf_I_148 : FU (I_148 51 304) = FU (I_90 51 304) := by rw [r304_I_148]
                  refine ww_aload_n hX (pc := 149) dX11_night_149 rfl ?_
                  refine ww_dupR hX (pc := 150) dX11_night_150 ?_
                  refine ww_getI hX (pc := 151) fX11_95 (by decide) (xs_49 hL) dX11_night_151 ?_
                  refine ww_iconst hX (pc := 154) (x := 1) dX11_night_154 rfl ?_
                  refine ww_iadd hX (pc := 155) dX11_night_155 ?_
                  refine ww_putI hX (pc := 156) (fun h9 => absurd h9 (by decide)) gX11_95 rfl (xs_49 hL) dX11_night_156 ?_
                  refine ww_nmH (fun I_156 eI_156 => ?_)
                  have kI_156 : Ch [50, 61, 72] [0, 1, 25, 39, 40, 41] Ia I_156 := by rw [eI_156]; exact Ch_f kI_148 (by decide)
                  have cI_156 : RX I_156 := by rw [eI_156]; exact RX_39 cI_148 (by omega) (by omega)
                  have qI_156 := RX_n cI_156
                  have r304_I_156 : I_156 51 304 = I_148 51 304 := by rw [eI_156, up2_off _ _ _ (by decide)]
                  have r305_I_156 : I_156 51 305 = I_148 51 305 := by rw [eI_156, up2_off _ _ _ (by decide)]
                  have f40_I_156 : I_156 49 40 = I_148 49 40 := by rw [eI_156, up2_n _ _ (Or.inr (by decide))]
                  have f41_I_156 : I_156 49 41 = I_148 49 41 := by rw [eI_156, up2_n _ _ (Or.inr (by decide))]
                  have rf_I_156 : FU (I_156 51 304) = FU (I_148 51 304) := by rw [r304_I_156]
                  have f39b : I_156 49 39 = I_148 49 39 + 1 := by rw [eI_156, up2_s]
                  refine ww_goto hX (pc := 159) (tgt := 55) dX11_night_159 (by decide) ?_
                  refine ww_sub [some (kR (some 49)), some (kI a), some (kI b), some (kI c), some (kI x_114), none, none] (aLe_s (aLe_s (aLe_s (aLe_s (aLe_s (aLe_n (aLe_n aLe_0))))))) ?_
                  exact ih_55 _ (by have hm9 := Sh0_e hq_55; omega) x_114 I_156 J55 rfl ⟨kI_156, cI_156, kJ55, by omega, by omega, by omega, by omega, by omega, by omega⟩
                · simp only [w32_mod] at h_122
                  refine ww_aload_n hX (pc := 125) dX11_night_125 rfl ?_
                  refine ww_iload hX (pc := 126) dX11_night_126 rfl ?_
                  refine ww_putI hX (pc := 128) (fun h9 => absurd h9 (by decide)) gX11_347 rfl (xs_49 hL) dX11_night_128 ?_
                  refine ww_nmH (fun I_128 eI_128 => ?_)
                  have kI_128 : Ch [50, 61, 72] [0, 1, 25, 39, 40, 41] Ia I_128 := by rw [eI_128]; exact Ch_f kI_90 (by decide)
                  have cI_128 : RX I_128 := by rw [eI_128]; exact RX_f cI_90 (by decide)
                  have qI_128 := RX_n cI_128
                  have r304_I_128 : I_128 51 304 = I_90 51 304 := by rw [eI_128, up2_off _ _ _ (by decide)]
                  have r305_I_128 : I_128 51 305 = I_90 51 305 := by rw [eI_128, up2_off _ _ _ (by decide)]
                  have f39_I_128 : I_128 49 39 = I_90 49 39 := by rw [eI_128, up2_n _ _ (Or.inr (by decide))]
                  have f41_I_128 : I_128 49 41 = I_90 49 41 := by rw [eI_128, up2_n _ _ (Or.inr (by decide))]
                  have rf_I_128 : FU (I_128 51 304) = FU (I_90 51 304) := by rw [r304_I_128]
                  have f40b : I_128 49 40 = v_106 := by rw [eI_128, up2_s]
                  refine ww_goto hX (pc := 131) (tgt := 55) dX11_night_131 (by decide) ?_
                  refine ww_sub [some (kR (some 49)), some (kI a), some (kI b), some (kI c), some (kI sa), none, none] (aLe_s (aLe_s (aLe_s (aLe_s (aLe_s (aLe_n (aLe_n aLe_0))))))) ?_
                  exact ih_55 _ (by have hm9 := Sh0_e hq_55; omega) sa I_128 J55 rfl ⟨kI_128, cI_128, kJ55, by omega, by omega, by omega, by omega, by omega, by omega⟩
        exact hl_55 _ 0 I_49 J_34 rfl ⟨kI_49, cI_49, kJ_34, rfl, rfl, by omega, by omega, by omega, by omega⟩
      · simp only [w32_mod] at h_24
        refine ww_aload_n hX (pc := 27) dX11_night_27 rfl ?_
        refine ww_iconst hX (pc := 28) (x := (-1)) dX11_night_28 rfl ?_
        refine vI1 hX (pc := 29) sX11_105 (xs_49 hL) (c_X11_refuses l0 hL hQ (by omega) (by omega)) (by decide) (Nat.le_refl 0) (Nat.le_refl 0) (Nat.le_of_ble_eq_true rfl) dX11_night_29 (fun x_29 I_29 J_29 h_29 => ?_)
        have kJ_29 : Kp 49 73 Ja J_29 := Kp_tr (Kp_rf (a := 49) (b := 73)) h_29.2.1
        have kI_29 : Ch [50, 61, 72] [0, 1, 25, 39, 40, 41] Ia I_29 := Ch_tr Ch_rf (Ch_wd h_29.1 (by decide) (by decide))
        have cI_29 : RX I_29 := h_29.2.2.1
        have qI_29 := RX_n cI_29
        have r304_I_29 : I_29 51 304 = Ia 51 304 := by rw [h_29.1.1 51 (by decide) (by decide)]
        have r305_I_29 : I_29 51 305 = Ia 51 305 := by rw [h_29.1.1 51 (by decide) (by decide)]
        have f39_I_29 : I_29 49 39 = Ia 49 39 := h_29.1.2 39 (by decide)
        have f40_I_29 : I_29 49 40 = Ia 49 40 := h_29.1.2 40 (by decide)
        have f41_I_29 : I_29 49 41 = Ia 49 41 := h_29.1.2 41 (by decide)
        have rf_I_29 : FU (I_29 51 304) = FU (Ia 51 304) := by rw [r304_I_29]
        refine rI hX (pc := 32) hT (Nat.le_refl 0) (Nat.le_refl 0) dX11_night_32 ?_
        exact ⟨kI_29, kJ_29, cI_29, trivial⟩
end
