theorem GRest_le {T : Nat → Nat → Prop} {op : Int → Prop} {c : Nat → Int} (hT : ∀ a b, T a b → a < b) : ∀ n a b, GRest T op c n a b → a ≤ b
  | 0, a, b, h => Nat.le_of_eq h.1
  | n + 1, a, b, h => by
    obtain ⟨-, d, h1, h2⟩ := h
    have := hT _ _ h1
    have := GRest_le hT n d b h2
    omega
theorem GSeq_lt {T : Nat → Nat → Prop} {op : Int → Prop} {c : Nat → Int} (hT : ∀ a b, T a b → a < b) (a b : Nat) (h : GSeq T op c a b) : a < b := by
  obtain ⟨d, h1, n, h2⟩ := h
  have := hT _ _ h1
  have := GRest_le hT n d b h2
  omega
theorem GPart_lt {P : Nat → Nat → Prop} {c : Nat → Int} (hP : ∀ a b, P a b → a < b) (a b : Nat) (h : GPart P c a b) : a < b := by
  rcases h with ⟨-, h⟩ | ⟨-, d, h1, -, h2⟩
  · omega
  · have := hP _ _ h1
    omega
theorem GSum_lt {c : Nat → Int} : ∀ m a b, GSum c m a b → a < b
  | 0 => GSeq_lt (GSeq_lt (GPart_lt (fun _ _ h => False.elim h)))
  | m + 1 => GSeq_lt (GSeq_lt (GPart_lt (GSum_lt m)))
theorem GPm_lt {c : Nat → Int} (m a b : Nat) (h : GPm c m a b) : a < b := by
  cases m
  · exact GPart_lt (P := fun _ _ => False) (fun _ _ h => False.elim h) a b h
  · exact GPart_lt (GSum_lt _) a b h
theorem GPos_lt {P Sm : Nat → Nat → Prop} {c : Nat → Int} (hP : ∀ a b, P a b → a < b) (hS : ∀ a b, Sm a b → a < b) (a b : Nat) (h : GPos P Sm c a b) : a < b := by
  rcases h with ⟨-, d, h1, -, h2⟩ | ⟨-, d, h1, h2⟩
  · have := hP _ _ h1
    omega
  · have := hS _ _ h1
    have := hS _ _ h2
    omega
theorem GNots_lt {Q : Nat → Nat → Prop} {c : Nat → Int} (hQ : ∀ a b, Q a b → a < b) : ∀ n a b, GNots Q c n a b → a < b
  | 0, a, b, h => hQ a b h.2
  | n + 1, a, b, h => by
    have := GNots_lt hQ n (a + 1) b h.2
    omega
theorem GPlain_lt {P Sm : Nat → Nat → Prop} {c : Nat → Int} (hP : ∀ a b, P a b → a < b) (hS : ∀ a b, Sm a b → a < b) (a b : Nat) (h : GPlain P Sm c a b) : a < b := by
  obtain ⟨n, hn⟩ := h
  exact GNots_lt (GPos_lt hP hS) n a b hn
theorem GTest_lt {c : Nat → Int} : ∀ m a b, GTest c m a b → a < b
  | 0 => GSeq_lt (GSeq_lt (GPlain_lt (fun _ _ h => False.elim h) (GSum_lt 0)))
  | m + 1 => GSeq_lt (GSeq_lt (GPlain_lt (GTest_lt m) (GSum_lt (m + 1))))
theorem GPlm_lt {c : Nat → Int} (m a b : Nat) (h : GPlm c m a b) : a < b := by
  cases m
  · exact GPlain_lt (P := fun _ _ => False) (Sm := GSum c 0) (fun _ _ h => False.elim h) (GSum_lt 0) a b h
  · exact GPlain_lt (GTest_lt _) (GSum_lt _) a b h
theorem GClause_lt {c : Nat → Int} {a b : Nat} (h : GClause c a b) : a < b := by
  obtain ⟨-, d, h1, h2⟩ := h
  have := GSum_lt _ _ _ h1
  rcases h2 with ⟨-, h2⟩ | ⟨-, h2⟩
  · have := GTest_lt _ _ _ h2
    omega
  · omega
theorem GLaw_lt {c : Nat → Int} {n : Nat} : ∀ m a, GLaw c n m a → a < n
  | 0, a, h => GClause_lt h
  | m + 1, a, h => by
    obtain ⟨b, h1, -, h2⟩ := h
    have := GClause_lt h1
    have := GLaw_lt m (b + 1) h2
    omega
theorem GRest_l2 {T : Nat → Nat → Prop} {op : Int → Prop} {c : Nat → Int} {a b : Nat} (hT : ∀ a b, T a b → a < b) (h : ∃ n, GRest T op c n a b) : a ≤ b := by
  obtain ⟨n, hn⟩ := h
  exact GRest_le hT n a b hn
theorem GRest_op {T : Nat → Nat → Prop} {op : Int → Prop} {c : Nat → Int} {a b : Nat} (h : ∃ n, GRest T op c n a b) (ho : op (c a)) : ∃ d, T (a + 1) d ∧ ∃ n, GRest T op c n d b := by
  obtain ⟨n, hn⟩ := h
  cases n
  · exact absurd ho hn.2
  · obtain ⟨-, d, h1, h2⟩ := hn
    exact ⟨d, h1, _, h2⟩
theorem GRest_no {T : Nat → Nat → Prop} {op : Int → Prop} {c : Nat → Int} {a b : Nat} (h : ∃ n, GRest T op c n a b) (ho : ¬ op (c a)) : a = b := by
  obtain ⟨n, hn⟩ := h
  cases n
  · exact hn.1
  · exact absurd hn.1 ho
theorem GNots_op {Q : Nat → Nat → Prop} {c : Nat → Int} {a b : Nat} (h : ∃ n, GNots Q c n a b) (ho : c a = 5) : ∃ n, GNots Q c n (a + 1) b := by
  obtain ⟨n, hn⟩ := h
  cases n
  · exact absurd ho hn.1
  · exact ⟨_, hn.2⟩
theorem GNots_no {Q : Nat → Nat → Prop} {c : Nat → Int} {a b : Nat} (h : ∃ n, GNots Q c n a b) (ho : ¬ c a = 5) : Q a b := by
  obtain ⟨n, hn⟩ := h
  cases n
  · exact hn.2
  · exact absurd hn.1 ho
theorem GPm_br {c : Nat → Int} {m a b : Nat} (h : GPm c m a b) (hc : c a = 191) : ∃ mp, m = mp + 1 ∧ ∃ d, GSum c mp (a + 1) d ∧ c d = 193 ∧ b = d + 1 := by
  cases m
  · rcases h with ⟨h1, -⟩ | ⟨-, d, h1, -⟩
    · unfold GLeaf at h1; omega
    · exact h1.elim
  · rcases h with ⟨h1, -⟩ | ⟨-, d, h1, h3, h2⟩
    · unfold GLeaf at h1; omega
    · exact ⟨_, rfl, d, h1, h3, h2⟩
theorem GPm_lf {c : Nat → Int} {m a b : Nat} (h : GPm c m a b) (hc : ¬ c a = 191) : (c a = 50 ∨ (6 ≤ c a ∧ c a ≤ 13)) ∧ b = a + 1 := by
  cases m
  · rcases h with h | ⟨h, -⟩
    · exact h
    · exact absurd h hc
  · rcases h with h | ⟨h, -⟩
    · exact h
    · exact absurd h hc
def GPom (c : Nat → Int) : Nat → Nat → Nat → Prop
  | 0 => GPos (fun _ _ => False) (GSum c 0) c
  | k + 1 => GPos (GTest c k) (GSum c (k + 1)) c
theorem GPlm_eq {c : Nat → Int} {m a b : Nat} (h : GPlm c m a b) : ∃ n, GNots (GPom c m) c n a b := by cases m <;> exact h
theorem GPom_lt {c : Nat → Int} (m a b : Nat) (h : GPom c m a b) : a < b := by
  cases m
  · exact GPos_lt (P := fun _ _ => False) (Sm := GSum c 0) (fun _ _ h => False.elim h) (GSum_lt 0) a b h
  · exact GPos_lt (GTest_lt _) (GSum_lt _) a b h
theorem GPom_br {c : Nat → Int} {m a b : Nat} (h : GPom c m a b) (hc : c a = 140) : ∃ mp, m = mp + 1 ∧ ∃ d, GTest c mp (a + 1) d ∧ c d = 141 ∧ b = d + 1 := by
  cases m
  · rcases h with ⟨-, d, h1, -⟩ | ⟨h1, -⟩
    · exact h1.elim
    · exact absurd hc h1
  · rcases h with ⟨-, d, h1, h3, h2⟩ | ⟨h1, -⟩
    · exact ⟨_, rfl, d, h1, h3, h2⟩
    · exact absurd hc h1
theorem GPom_cm {c : Nat → Int} {m a b : Nat} (h : GPom c m a b) (hc : ¬ c a = 140) : ∃ d, GSum c m a d ∧ GSum c m (d + 1) b := by
  cases m
  · rcases h with ⟨h, -⟩ | ⟨-, h⟩
    · exact absurd h hc
    · exact h
  · rcases h with ⟨h, -⟩ | ⟨-, h⟩
    · exact absurd h hc
    · exact h
theorem GPm_nz {c : Nat → Int} {m a b : Nat} (h : GPm c m a b) : ¬ c a = 0 := by
  by_cases g : c a = 191
  · omega
  · have := (GPm_lf h g).1
    omega
theorem GSum_nz {c : Nat → Int} {m a b : Nat} (h : GSum c m a b) : ¬ c a = 0 := by
  rw [GSum_eq] at h
  obtain ⟨d, ⟨e, h1, -⟩, -⟩ := h
  exact GPm_nz h1
theorem GLaw_cl {c : Nat → Int} {n m a : Nat} (h : GLaw c n m a) : ∃ b, GClause c a b ∧ b ≤ n ∧ (b = n ∨ ∃ m', GLaw c n m' (b + 1)) := by
  cases m
  · exact ⟨n, h, Nat.le_refl _, Or.inl rfl⟩
  · obtain ⟨b, h1, -, h2⟩ := h
    have := GLaw_lt _ _ h2
    exact ⟨b, h1, by omega, Or.inr ⟨_, h2⟩⟩
theorem RX_rg {I : aI1} (h : RX I) (j : Int) (h1 : 317 ≤ j) (h2 : j < 2717) : 0 ≤ I 51 j.toNat ∧ I 51 j.toNat ≤ 400 := h.1.2.2.2.2.2.2.1 j.toNat (by omega) (by omega)
theorem RX_lg {I : aI1} (h : RX I) (t : Nat) (ht : (t : Int) < I 51 310) : (0 ≤ I 51 (311 + t) ∧ I 51 (311 + t) ≤ 400) ∧ LawG (cvw (I 51) t) (I 51 (311 + t)).toNat := h.1.2.2.2.2.2.2.2 t ht
/-- the evaluator's state: law t, at place a -/
def EV (I : aI1) (t : Nat) (c : Nat → Int) (a : Nat) : Prop := ((t : Int) < I 51 310 ∧ I 51 310 ≤ 6) ∧ (0 ≤ I 51 (311 + t) ∧ I 51 (311 + t) ≤ 400) ∧ I 49 20 = 400 * t + I 51 (311 + t) ∧ I 49 19 = 400 * t + a ∧ a ≤ 402 ∧ cvw (I 51) t = c
theorem EV_o {I : aI1} {t : Nat} {c : Nat → Int} {a : Nat} (h : EV I t c a) : ((t : Int) < I 51 310 ∧ I 51 310 ≤ 6) ∧ (0 ≤ I 51 (311 + t) ∧ I 51 (311 + t) ≤ 400) ∧ I 49 20 = 400 * t + I 51 (311 + t) ∧ I 49 19 = 400 * t + a ∧ a ≤ 402 ∧ (0 ≤ I 49 20 ∧ I 49 20 ≤ 2400) ∧ (0 ≤ I 49 19 ∧ I 49 19 ≤ 2402) := by
  obtain ⟨h1, h2, h3, h4, h5, -⟩ := h
  exact ⟨h1, h2, h3, h4, h5, by omega, by omega⟩
theorem EV_c {I : aI1} {t : Nat} {c : Nat → Int} {a : Nat} (h : EV I t c a) {x : Int} (hx : (x = I 51 (317 + I 49 19).toNat ∧ I 49 19 < I 49 20) ∨ (x = 0 ∧ ¬ I 49 19 < I 49 20)) : x = c a := by
  have h1 := EV_o h
  rw [← h.2.2.2.2.2]
  unfold cvw
  rcases hx with ⟨e, g⟩ | ⟨e, g⟩
  · rw [if_pos (by omega), e]
    exact congrArg _ (by omega)
  · rw [if_neg (by omega), e]
theorem EV_z {I : aI1} {t : Nat} {c : Nat → Int} {a i : Nat} (h : EV I t c a) (hz : ¬ c i = 0) : (i : Int) < I 51 (311 + t) := by
  have h1 := h.2.2.2.2.2
  rw [← h1] at hz
  unfold cvw at hz
  by_cases g : (i : Int) < I 51 (311 + t)
  · exact g
  · rw [if_neg g] at hz
    exact absurd rfl hz
theorem EV_st {I I' : aI1} {t : Nat} {c : Nat → Int} {a a' : Nat} (h : EV I t c a) (e51 : I' 51 = I 51) (e20 : I' 49 20 = I 49 20) (e19 : I' 49 19 = 400 * t + a') (ha : a' ≤ 402) : EV I' t c a' := by
  unfold EV at h ⊢
  rw [e51, e20, e19]
  exact ⟨h.1, h.2.1, h.2.2.1, rfl, ha, h.2.2.2.2.2⟩
def PS (x : Int) (c : Nat → Int) (a : Nat) (r : Int) : Prop := x = 1 ↔ c a = r
theorem PS_1 {x : Int} {c : Nat → Int} {a : Nat} {r : Int} (h : PS x c a r) (hx : x = 1) : c a = r := h.mp hx
theorem PS_0 {x : Int} {c : Nat → Int} {a : Nat} {r : Int} (h : PS x c a r) (hx : x = 0) : ¬ c a = r := fun g => by have := h.mpr g; omega
theorem EV_to {I : aI1} {t : Nat} {c : Nat → Int} {a a' : Nat} (h : EV I t c a) (e : a = a') : EV I t c a' := e ▸ h
theorem EV_0 {I : aI1} {q : Int} (hQ : RX I) (h0 : 0 ≤ q) (h1 : q < I 51 310) (e19 : I 49 19 = 400 * q) (e20 : I 49 20 = 400 * q + I 51 (311 + q).toNat) : EV I q.toNat (cvw (I 51) q.toNat) 0 := by
  have h2 := hQ.1.2.2.2.2.2.1
  have h3 := RX_lg hQ q.toNat (by omega)
  rw [show (311 + q).toNat = 311 + q.toNat by omega] at e20
  exact ⟨⟨by omega, by omega⟩, h3.1, by omega, by omega, by omega, rfl⟩
set_option maxHeartbeats 4000000 in
set_option maxRecDepth 20000 in
theorem c_X11_codeAt (l0 : Launch) {Ia Ja : aI1} {Ra : aR1} {Sa : aS1} (hL : LY Ra Sa) (hQ : RX Ia) {w : Int} (hw : w = Ia 49 19) {t a : Nat} {c : Nat → Int} (hE : EV Ia t c a)  : CT l0 0 0 0 mX11_codeAt [kR (some 49), kI w] Ia Ja Ra Sa (cI (fun x I' J' => Ia = I' ∧ Ja = J' ∧ x = c a ∧ 0 ≤ x ∧ x ≤ 400) Ra Sa) := by
  refine ct_in pn_X11 (Nat.le_of_ble_eq_true rfl) (fun X hX hT hIn => ?_)
  have hX : aK l0 X cX11_codeAt 2 RX11 (some .int) 0 0 0 := hX
  change WW X 0 [some (kR (some 49)), some (kI w)] [] Ia Ja Ra Sa 0 0
  have qIa := RX_w hQ
  have oIa := EV_o hE
  refine ww_iload_n hX (pc := 0) dX11_codeAt_0 rfl ?_
  refine ww_aload_n hX (pc := 1) dX11_codeAt_1 rfl ?_
  refine ww_getI hX (pc := 2) fX11_212 (by decide) (xs_49 hL) dX11_codeAt_2 ?_
  refine ww_icmp_ge hX (pc := 5) (tgt := 21) dX11_codeAt_5 (by decide) (fun h_5 => ?_) (fun h_5 => ?_)
  · simp only [w32_mod] at h_5
    refine ww_iconst hX (pc := 21) (x := 0) dX11_codeAt_21 rfl ?_
    refine rI hX (pc := 22) hT (Nat.le_refl 0) (Nat.le_refl 0) dX11_codeAt_22 ?_
    exact ⟨rfl, rfl, EV_c hE (Or.inr ⟨rfl, by omega⟩), by omega, by omega⟩
  · simp only [w32_mod] at h_5
    refine ww_aload_n hX (pc := 8) dX11_codeAt_8 rfl ?_
    refine ww_getR hX (pc := 9) fX11_20 (by decide) (xs_49 hL) (xr_49_3 hL) dX11_codeAt_9 ?_
    refine ww_sipush hX (pc := 12) (x := 317) dX11_codeAt_12 (by decide) ?_
    refine ww_iload_n hX (pc := 15) dX11_codeAt_15 rfl ?_
    refine ww_iadd hX (pc := 16) dX11_codeAt_16 ?_
    have hrg := RX_rg hQ (317 + w) (by omega) (by omega)
    refine ww_iald hX (pc := 17) (xs_51 hL) (by decide) (by omega) (by omega) dX11_codeAt_17 ?_
    refine ww_goto hX (pc := 18) (tgt := 22) dX11_codeAt_18 (by decide) ?_
    refine rI hX (pc := 22) hT (Nat.le_refl 0) (Nat.le_refl 0) dX11_codeAt_22 ?_
    exact ⟨rfl, rfl, EV_c hE (Or.inl ⟨by rw [hw], by omega⟩), by omega, by omega⟩
set_option maxHeartbeats 4000000 in
set_option maxRecDepth 20000 in
theorem c_X11_passes0 (l0 : Launch) {Ia Ja : aI1} {Ra : aR1} {Sa : aS1} (hL : LY Ra Sa) (hQ : RX Ia) {r : Int} (hr0 : 1 ≤ r) (hr1 : r ≤ 400) {t a : Nat} {c : Nat → Int} (hE : EV Ia t c a)  : CT l0 1 0 0 mX11_passes0 [kR (some 49), kI r] Ia Ja Ra Sa (cI (fun x I' J' => Ch [] [19] Ia I' ∧ Kp 49 73 Ja J' ∧ RX I' ∧ EV I' t c (a + x.toNat) ∧ (0 ≤ x ∧ x ≤ 1) ∧ PS x c a r) Ra Sa) := by
  refine ct_in pn_X11 (Nat.le_of_ble_eq_true rfl) (fun X hX hT hIn => ?_)
  have hX : aK l0 X cX11_passes0 3 RX11 (some .boolean) 1 0 0 := hX
  change WW X 0 [some (kR (some 49)), some (kI r), none] [] Ia Ja Ra Sa 0 0
  have qIa := RX_w hQ
  have oIa := EV_o hE
  refine ww_aload_n hX (pc := 0) dX11_passes0_0 rfl ?_
  refine ww_aload_n hX (pc := 1) dX11_passes0_1 rfl ?_
  refine ww_getI hX (pc := 2) fX11_215 (by decide) (xs_49 hL) dX11_passes0_2 ?_
  refine vI1 hX (pc := 5) sX11_218 (xs_49 hL) (c_X11_codeAt l0 hL hQ  rfl hE) (by decide) (Nat.le_refl 0) (Nat.le_refl 0) (Nat.le_of_ble_eq_true rfl) dX11_passes0_5 (fun x_5 I_5 J_5 h_5 => ?_)
  obtain ⟨rfl, rfl, h_5⟩ := h_5
  refine ww_iload_n hX (pc := 8) dX11_passes0_8 rfl ?_
  refine ww_icmp_ne hX (pc := 9) (tgt := 16) dX11_passes0_9 (by decide) (fun h_9 => ?_) (fun h_9 => ?_)
  · simp only [w32_mod] at h_9
    refine ww_iconst hX (pc := 16) (x := 0) dX11_passes0_16 rfl ?_
    refine ww_istore_n hX (pc := 17) (lv' := [some (kR (some 49)), some (kI r), some (kI 0)]) dX11_passes0_17 (by decide) rfl rfl ?_
    refine ww_iload_n hX (pc := 18) dX11_passes0_18 rfl ?_
    refine ww_if_eq hX (pc := 19) (tgt := 32) dX11_passes0_19 (by decide) (fun h_19 => ?_) (fun h_19 => ?_)
    · simp only [w32_mod] at h_19
      refine ww_iload_n hX (pc := 32) dX11_passes0_32 rfl ?_
      refine rZ hX (pc := 33) hT (Nat.le_refl 0) (Nat.le_refl 0) dX11_passes0_33 (by decide) ?_
      exact ⟨Ch_rf, (Kp_rf (a := 49) (b := 73)), hQ, EV_to hE (by omega), by omega, (by unfold PS; omega)⟩
    · simp only [w32_mod] at h_19
      exfalso
      omega
  · simp only [w32_mod] at h_9
    refine ww_iconst hX (pc := 12) (x := 1) dX11_passes0_12 rfl ?_
    refine ww_goto hX (pc := 13) (tgt := 17) dX11_passes0_13 (by decide) ?_
    refine ww_istore_n hX (pc := 17) (lv' := [some (kR (some 49)), some (kI r), some (kI 1)]) dX11_passes0_17 (by decide) rfl rfl ?_
    refine ww_iload_n hX (pc := 18) dX11_passes0_18 rfl ?_
    refine ww_if_eq hX (pc := 19) (tgt := 32) dX11_passes0_19 (by decide) (fun h_19 => ?_) (fun h_19 => ?_)
    · simp only [w32_mod] at h_19
      exfalso
      omega
    · simp only [w32_mod] at h_19
      have hz := EV_z (i := a) hE (by omega)
      refine ww_aload_n hX (pc := 22) dX11_passes0_22 rfl ?_
      refine ww_dupR hX (pc := 23) dX11_passes0_23 ?_
      refine ww_getI hX (pc := 24) fX11_215 (by decide) (xs_49 hL) dX11_passes0_24 ?_
      refine ww_iconst hX (pc := 27) (x := 1) dX11_passes0_27 rfl ?_
      refine ww_iadd hX (pc := 28) dX11_passes0_28 ?_
      refine ww_putI hX (pc := 29) (fun h9 => absurd h9 (by decide)) gX11_215 rfl (xs_49 hL) dX11_passes0_29 ?_
      refine ww_nmH (fun I_29 eI_29 => ?_)
      have kI_29 : Ch [] [19] Ia I_29 := by rw [eI_29]; exact Ch_f Ch_rf (by decide)
      have cI_29 : RX I_29 := by rw [eI_29]; exact RX_f hQ (by decide)
      have qI_29 := RX_w cI_29
      have f20_I_29 : I_29 49 20 = Ia 49 20 := by rw [eI_29, up2_n _ _ (Or.inr (by decide))]
      have f21_I_29 : I_29 49 21 = Ia 49 21 := by rw [eI_29, up2_n _ _ (Or.inr (by decide))]
      have vI_29 : EV I_29 t c (a + 1) := EV_st hE (by rw [eI_29, up2_off _ _ _ (by decide)]) (by omega) (by rw [eI_29, up2_s]; omega) (by omega)
      have oI_29 := EV_o vI_29
      refine ww_iload_n hX (pc := 32) dX11_passes0_32 rfl ?_
      refine rZ hX (pc := 33) hT (Nat.le_refl 0) (Nat.le_refl 0) dX11_passes0_33 (by decide) ?_
      exact ⟨kI_29, (Kp_rf (a := 49) (b := 73)), cI_29, EV_to vI_29 (by omega), by omega, (by unfold PS; omega)⟩
set_option maxHeartbeats 4000000 in
set_option maxRecDepth 20000 in
theorem c_X11_bounded (l0 : Launch) {Ia Ja : aI1} {Ra : aR1} {Sa : aS1} (hL : LY Ra Sa) (hQ : RX Ia) {v la : Int} (hla : 0 ≤ la ∧ la ≤ 1) {t a : Nat} {c : Nat → Int} (hE : EV Ia t c a)  : CT l0 0 0 0 mX11_bounded [kR (some 49), kL v, kI la] Ia Ja Ra Sa (cJ (fun x I' J' => Ch [] [21] Ia I' ∧ Kp 49 73 Ja J' ∧ RX I' ∧ EV I' t c a ∧ True) Ra Sa) := by
  refine ct_in pn_X11 (Nat.le_of_ble_eq_true rfl) (fun X hX hT hIn => ?_)
  have hX : aK l0 X cX11_bounded 4 RX11 (some .long) 0 0 0 := hX
  change WW X 0 [some (kR (some 49)), some (kL v), none, some (kI la)] [] Ia Ja Ra Sa 0 0
  have qIa := RX_w hQ
  have oIa := EV_o hE
  refine ww_iload_n hX (pc := 0) dX11_bounded_0 rfl ?_
  refine ww_if_eq hX (pc := 1) (tgt := 25) dX11_bounded_1 (by decide) (fun h_1 => ?_) (fun h_1 => ?_)
  · simp only [w32_mod] at h_1
    refine ww_aload_n hX (pc := 25) dX11_bounded_25 rfl ?_
    refine ww_getI hX (pc := 26) fX11_225 (by decide) (xs_49 hL) dX11_bounded_26 ?_
    refine ww_if_eq hX (pc := 29) (tgt := 36) dX11_bounded_29 (by decide) (fun h_29 => ?_) (fun h_29 => ?_)
    · simp only [w32_mod] at h_29
      refine ww_lload_n hX (pc := 36) dX11_bounded_36 rfl ?_
      refine rJ hX (pc := 37) hT (Nat.le_refl 0) (Nat.le_refl 0) dX11_bounded_37 ?_
      exact ⟨Ch_rf, (Kp_rf (a := 49) (b := 73)), hQ, hE, trivial⟩
    · simp only [w32_mod] at h_29
      refine ww_lconst hX (pc := 32) (x := 0) dX11_bounded_32 (by decide) ?_
      refine ww_goto hX (pc := 33) (tgt := 37) dX11_bounded_33 (by decide) ?_
      refine rJ hX (pc := 37) hT (Nat.le_refl 0) (Nat.le_refl 0) dX11_bounded_37 ?_
      exact ⟨Ch_rf, (Kp_rf (a := 49) (b := 73)), hQ, hE, trivial⟩
  · simp only [w32_mod] at h_1
    refine ww_lload_n hX (pc := 4) dX11_bounded_4 rfl ?_
    refine ww_ldc2 hX (pc := 5) (x := 1000000000) dX11_bounded_5 tb_1423 ?_
    refine ww_lcmp hX (pc := 8) dX11_bounded_8 ?_
    refine ww_if_gt hX (pc := 9) (tgt := 20) dX11_bounded_9 (by decide) (fun h_9 => ?_) (fun h_9 => ?_)
    · simp only [w32_mod] at h_9
      refine ww_aload_n hX (pc := 20) dX11_bounded_20 rfl ?_
      refine ww_iconst hX (pc := 21) (x := 1) dX11_bounded_21 rfl ?_
      refine ww_putZ hX (pc := 22) (fun h9 => absurd h9 (by decide)) gX11_225 rfl (by decide) (xs_49 hL) dX11_bounded_22 ?_
      refine ww_nmH (fun I_22 eI_22 => ?_)
      have kI_22 : Ch [] [21] Ia I_22 := by rw [eI_22]; exact Ch_f Ch_rf (by decide)
      have cI_22 : RX I_22 := by rw [eI_22]; exact RX_f hQ (by decide)
      have qI_22 := RX_w cI_22
      have f19_I_22 : I_22 49 19 = Ia 49 19 := by rw [eI_22, up2_n _ _ (Or.inr (by decide))]
      have f20_I_22 : I_22 49 20 = Ia 49 20 := by rw [eI_22, up2_n _ _ (Or.inr (by decide))]
      have vI_22 : EV I_22 t c a := EV_st hE (by rw [eI_22, up2_off _ _ _ (by decide)]) (by omega) (by omega) (by omega)
      have oI_22 := EV_o vI_22
      refine ww_aload_n hX (pc := 25) dX11_bounded_25 rfl ?_
      refine ww_getI hX (pc := 26) fX11_225 (by decide) (xs_49 hL) dX11_bounded_26 ?_
      refine ww_if_eq hX (pc := 29) (tgt := 36) dX11_bounded_29 (by decide) (fun h_29 => ?_) (fun h_29 => ?_)
      · simp only [w32_mod] at h_29
        refine ww_lload_n hX (pc := 36) dX11_bounded_36 rfl ?_
        refine rJ hX (pc := 37) hT (Nat.le_refl 0) (Nat.le_refl 0) dX11_bounded_37 ?_
        exact ⟨kI_22, (Kp_rf (a := 49) (b := 73)), cI_22, vI_22, trivial⟩
      · simp only [w32_mod] at h_29
        refine ww_lconst hX (pc := 32) (x := 0) dX11_bounded_32 (by decide) ?_
        refine ww_goto hX (pc := 33) (tgt := 37) dX11_bounded_33 (by decide) ?_
        refine rJ hX (pc := 37) hT (Nat.le_refl 0) (Nat.le_refl 0) dX11_bounded_37 ?_
        exact ⟨kI_22, (Kp_rf (a := 49) (b := 73)), cI_22, vI_22, trivial⟩
    · simp only [w32_mod] at h_9
      refine ww_lload_n hX (pc := 12) dX11_bounded_12 rfl ?_
      refine ww_ldc2 hX (pc := 13) (x := (-1000000000)) dX11_bounded_13 tb_1424 ?_
      refine ww_lcmp hX (pc := 16) dX11_bounded_16 ?_
      refine ww_if_ge hX (pc := 17) (tgt := 25) dX11_bounded_17 (by decide) (fun h_17 => ?_) (fun h_17 => ?_)
      · simp only [w32_mod] at h_17
        refine ww_aload_n hX (pc := 25) dX11_bounded_25 rfl ?_
        refine ww_getI hX (pc := 26) fX11_225 (by decide) (xs_49 hL) dX11_bounded_26 ?_
        refine ww_if_eq hX (pc := 29) (tgt := 36) dX11_bounded_29 (by decide) (fun h_29 => ?_) (fun h_29 => ?_)
        · simp only [w32_mod] at h_29
          refine ww_lload_n hX (pc := 36) dX11_bounded_36 rfl ?_
          refine rJ hX (pc := 37) hT (Nat.le_refl 0) (Nat.le_refl 0) dX11_bounded_37 ?_
          exact ⟨Ch_rf, (Kp_rf (a := 49) (b := 73)), hQ, hE, trivial⟩
        · simp only [w32_mod] at h_29
          refine ww_lconst hX (pc := 32) (x := 0) dX11_bounded_32 (by decide) ?_
          refine ww_goto hX (pc := 33) (tgt := 37) dX11_bounded_33 (by decide) ?_
          refine rJ hX (pc := 37) hT (Nat.le_refl 0) (Nat.le_refl 0) dX11_bounded_37 ?_
          exact ⟨Ch_rf, (Kp_rf (a := 49) (b := 73)), hQ, hE, trivial⟩
      · simp only [w32_mod] at h_17
        refine ww_aload_n hX (pc := 20) dX11_bounded_20 rfl ?_
        refine ww_iconst hX (pc := 21) (x := 1) dX11_bounded_21 rfl ?_
        refine ww_putZ hX (pc := 22) (fun h9 => absurd h9 (by decide)) gX11_225 rfl (by decide) (xs_49 hL) dX11_bounded_22 ?_
        refine ww_nmH (fun I_22 eI_22 => ?_)
        have kI_22 : Ch [] [21] Ia I_22 := by rw [eI_22]; exact Ch_f Ch_rf (by decide)
        have cI_22 : RX I_22 := by rw [eI_22]; exact RX_f hQ (by decide)
        have qI_22 := RX_w cI_22
        have f19_I_22 : I_22 49 19 = Ia 49 19 := by rw [eI_22, up2_n _ _ (Or.inr (by decide))]
        have f20_I_22 : I_22 49 20 = Ia 49 20 := by rw [eI_22, up2_n _ _ (Or.inr (by decide))]
        have vI_22 : EV I_22 t c a := EV_st hE (by rw [eI_22, up2_off _ _ _ (by decide)]) (by omega) (by omega) (by omega)
        have oI_22 := EV_o vI_22
        refine ww_aload_n hX (pc := 25) dX11_bounded_25 rfl ?_
        refine ww_getI hX (pc := 26) fX11_225 (by decide) (xs_49 hL) dX11_bounded_26 ?_
        refine ww_if_eq hX (pc := 29) (tgt := 36) dX11_bounded_29 (by decide) (fun h_29 => ?_) (fun h_29 => ?_)
        · simp only [w32_mod] at h_29
          refine ww_lload_n hX (pc := 36) dX11_bounded_36 rfl ?_
          refine rJ hX (pc := 37) hT (Nat.le_refl 0) (Nat.le_refl 0) dX11_bounded_37 ?_
          exact ⟨kI_22, (Kp_rf (a := 49) (b := 73)), cI_22, vI_22, trivial⟩
        · simp only [w32_mod] at h_29
          refine ww_lconst hX (pc := 32) (x := 0) dX11_bounded_32 (by decide) ?_
          refine ww_goto hX (pc := 33) (tgt := 37) dX11_bounded_33 (by decide) ?_
          refine rJ hX (pc := 37) hT (Nat.le_refl 0) (Nat.le_refl 0) dX11_bounded_37 ?_
          exact ⟨kI_22, (Kp_rf (a := 49) (b := 73)), cI_22, vI_22, trivial⟩
def ESum (l0 : Launch) (m : Nat) : Prop := ∀ {Ia Ja : aI1} {Ra : aR1} {Sa : aS1}, LY Ra Sa → RX Ia → ∀ {la : Int}, (0 ≤ la ∧ la ≤ 1) → ∀ {t a : Nat} {c : Nat → Int}, EV Ia t c a → ∀ {b : Nat}, GSum c m a b → CT l0 (3 * m + 5) 0 0 mX11_sumOf [kR (some 49), kI la] Ia Ja Ra Sa (cJ (fun x I' J' => Ch [] [19, 21] Ia I' ∧ Kp 49 73 Ja J' ∧ RX I' ∧ EV I' t c b ∧ True) Ra Sa)
def ETest (l0 : Launch) (m : Nat) : Prop := ∀ {Ia Ja : aI1} {Ra : aR1} {Sa : aS1}, LY Ra Sa → RX Ia → ∀ {la : Int}, (0 ≤ la ∧ la ≤ 1) → ∀ {t a : Nat} {c : Nat → Int}, EV Ia t c a → ∀ {b : Nat}, GTest c m a b → CT l0 (4 * m + 9) 0 0 mX11_testOf [kR (some 49), kI la] Ia Ja Ra Sa (cI (fun x I' J' => Ch [] [19, 21] Ia I' ∧ Kp 49 73 Ja J' ∧ RX I' ∧ EV I' t c b ∧ (0 ≤ x ∧ x ≤ 1)) Ra Sa)
set_option maxHeartbeats 4000000 in
set_option maxRecDepth 20000 in
theorem c_X11_partOf (l0 : Launch) {Ia Ja : aI1} {Ra : aR1} {Sa : aS1} (hL : LY Ra Sa) (hQ : RX Ia) {la : Int} (hla : 0 ≤ la ∧ la ≤ 1) {t a : Nat} {c : Nat → Int} (hE : EV Ia t c a) {m b : Nat} (hG : GPm c m a b) (hrec : ∀ mp, m = mp + 1 → ESum l0 mp)  : CT l0 (3 * m + 3) 0 0 mX11_partOf [kR (some 49), kI la] Ia Ja Ra Sa (cJ (fun x I' J' => Ch [] [19, 21] Ia I' ∧ Kp 49 73 Ja J' ∧ RX I' ∧ EV I' t c b ∧ True) Ra Sa) := by
  refine ct_in pn_X11 (Nat.le_of_ble_eq_true rfl) (fun X hX hT hIn => ?_)
  have hX : aK l0 X cX11_partOf 4 RX11 (some .long) (3 * m + 3) 0 0 := hX
  change WW X 0 [some (kR (some 49)), some (kI la), none, none] [] Ia Ja Ra Sa 0 0
  have qIa := RX_w hQ
  have oIa := EV_o hE
  refine ww_aload_n hX (pc := 0) dX11_partOf_0 rfl ?_
  refine ww_bipush hX (pc := 1) (x := 91) dX11_partOf_1 (by decide) ?_
  refine sI1 hX (pc := 3) sX11_190 (c_X11_sign l0 ) (by omega) (Nat.le_refl 0) (Nat.le_refl 0) (Nat.le_of_ble_eq_true rfl) dX11_partOf_3 (fun x_3 I_3 J_3 h_3 => ?_)
  obtain ⟨rfl, rfl, h_3⟩ := h_3
  refine vI1 hX (pc := 6) sX11_240 (xs_49 hL) (c_X11_passes0 l0 hL hQ  (by omega) (by omega) hE) (by omega) (Nat.le_refl 0) (Nat.le_refl 0) (Nat.le_of_ble_eq_true rfl) dX11_partOf_6 (fun x_6 I_6 J_6 h_6 => ?_)
  have kJ_6 : Kp 49 73 Ja J_6 := Kp_tr (Kp_rf (a := 49) (b := 73)) h_6.2.1
  have kI_6 : Ch [] [19, 21] Ia I_6 := Ch_tr Ch_rf (Ch_wd h_6.1 (by decide) (by decide))
  have cI_6 : RX I_6 := h_6.2.2.1
  have qI_6 := RX_w cI_6
  have f20_I_6 : I_6 49 20 = Ia 49 20 := h_6.1.2 20 (by decide)
  have f21_I_6 : I_6 49 21 = Ia 49 21 := h_6.1.2 21 (by decide)
  have vI_6 : EV I_6 t c (a + x_6.toNat) := h_6.2.2.2.1
  have oI_6 := EV_o vI_6
  have yI_6 := h_6.2.2.2.2
  refine ww_if_eq hX (pc := 9) (tgt := 30) dX11_partOf_9 (by decide) (fun h_9 => ?_) (fun h_9 => ?_)
  · simp only [w32_mod] at h_9
    have hlf0 := GPm_lf hG (by have := PS_0 yI_6.2 (by omega); omega)
    have hz := EV_z (i := a) hE (by omega)
    obtain ⟨hlf1, hlf⟩ := hlf0
    have w6 : EV I_6 t c a := EV_to vI_6 (by omega)
    refine ww_aload_n hX (pc := 30) dX11_partOf_30 rfl ?_
    refine ww_aload_n hX (pc := 31) dX11_partOf_31 rfl ?_
    refine ww_getI hX (pc := 32) fX11_215 (by decide) (xs_49 hL) dX11_partOf_32 ?_
    refine vI1 hX (pc := 35) sX11_218 (xs_49 hL) (c_X11_codeAt l0 hL cI_6  rfl w6) (by omega) (Nat.le_refl 0) (Nat.le_refl 0) (Nat.le_of_ble_eq_true rfl) dX11_partOf_35 (fun x_35 I_35 J_35 h_35 => ?_)
    obtain ⟨rfl, rfl, h_35⟩ := h_35
    refine ww_istore_n hX (pc := 38) (lv' := [some (kR (some 49)), some (kI la), some (kI x_35), none]) dX11_partOf_38 (by decide) rfl rfl ?_
    refine ww_aload_n hX (pc := 39) dX11_partOf_39 rfl ?_
    refine ww_dupR hX (pc := 40) dX11_partOf_40 ?_
    refine ww_getI hX (pc := 41) fX11_215 (by decide) (xs_49 hL) dX11_partOf_41 ?_
    refine ww_iconst hX (pc := 44) (x := 1) dX11_partOf_44 rfl ?_
    refine ww_iadd hX (pc := 45) dX11_partOf_45 ?_
    refine ww_putI hX (pc := 46) (fun h9 => absurd h9 (by decide)) gX11_215 rfl (xs_49 hL) dX11_partOf_46 ?_
    refine ww_nmH (fun I_46 eI_46 => ?_)
    have kI_46 : Ch [] [19, 21] Ia I_46 := by rw [eI_46]; exact Ch_f kI_6 (by decide)
    have cI_46 : RX I_46 := by rw [eI_46]; exact RX_f cI_6 (by decide)
    have qI_46 := RX_w cI_46
    have f20_I_46 : I_46 49 20 = I_6 49 20 := by rw [eI_46, up2_n _ _ (Or.inr (by decide))]
    have f21_I_46 : I_46 49 21 = I_6 49 21 := by rw [eI_46, up2_n _ _ (Or.inr (by decide))]
    have vI_46 : EV I_46 t c (a + 1) := EV_st w6 (by rw [eI_46, up2_off _ _ _ (by decide)]) (by omega) (by rw [eI_46, up2_s]; omega) (by omega)
    have oI_46 := EV_o vI_46
    refine ww_iload_n hX (pc := 49) dX11_partOf_49 rfl ?_
    refine ww_if_eq hX (pc := 50) (tgt := 60) dX11_partOf_50 (by decide) (fun h_50 => ?_) (fun h_50 => ?_)
    · simp only [w32_mod] at h_50
      refine ww_lconst hX (pc := 60) (x := 0) dX11_partOf_60 (by decide) ?_
      refine rJ hX (pc := 61) hT (Nat.le_refl 0) (Nat.le_refl 0) dX11_partOf_61 ?_
      exact ⟨kI_46, kJ_6, cI_46, EV_to vI_46 (by omega), trivial⟩
    · simp only [w32_mod] at h_50
      refine ww_aload_n hX (pc := 53) dX11_partOf_53 rfl ?_
      refine ww_getI hX (pc := 54) fX11_225 (by decide) (xs_49 hL) dX11_partOf_54 ?_
      refine ww_if_eq hX (pc := 57) (tgt := 62) dX11_partOf_57 (by decide) (fun h_57 => ?_) (fun h_57 => ?_)
      · simp only [w32_mod] at h_57
        refine ww_iload_n hX (pc := 62) dX11_partOf_62 rfl ?_
        refine ww_bipush hX (pc := 63) (x := 50) dX11_partOf_63 (by decide) ?_
        refine ww_icmp_ne hX (pc := 65) (tgt := 87) dX11_partOf_65 (by decide) (fun h_65 => ?_) (fun h_65 => ?_)
        · simp only [w32_mod] at h_65
          refine ww_aload_n hX (pc := 87) dX11_partOf_87 rfl ?_
          refine ww_getR hX (pc := 88) fX11_52 (by decide) (xs_49 hL) (xr_49_22 hL) dX11_partOf_88 ?_
          refine ww_iload_n hX (pc := 91) dX11_partOf_91 rfl ?_
          refine ww_bipush hX (pc := 92) (x := 6) dX11_partOf_92 (by decide) ?_
          refine ww_isub hX (pc := 94) dX11_partOf_94 ?_
          refine ww_iald hX (pc := 95) (xs_60 hL) (by decide) (by omega) (by omega) dX11_partOf_95 ?_
          refine ww_i2l hX (pc := 96) dX11_partOf_96 ?_
          refine rJ hX (pc := 97) hT (Nat.le_refl 0) (Nat.le_refl 0) dX11_partOf_97 ?_
          exact ⟨kI_46, kJ_6, cI_46, EV_to vI_46 (by omega), trivial⟩
        · simp only [w32_mod] at h_65
          refine ww_aload_n hX (pc := 68) dX11_partOf_68 rfl ?_
          refine ww_getR hX (pc := 69) fX11_20 (by decide) (xs_49 hL) (xr_49_3 hL) dX11_partOf_69 ?_
          refine ww_sipush hX (pc := 72) (x := 2717) dX11_partOf_72 (by decide) ?_
          refine ww_aload_n hX (pc := 75) dX11_partOf_75 rfl ?_
          refine ww_getI hX (pc := 76) fX11_215 (by decide) (xs_49 hL) dX11_partOf_76 ?_
          refine ww_iadd hX (pc := 79) dX11_partOf_79 ?_
          refine ww_iconst hX (pc := 80) (x := 1) dX11_partOf_80 rfl ?_
          refine ww_isub hX (pc := 81) dX11_partOf_81 ?_
          refine ww_iald hX (pc := 82) (xs_51 hL) (by decide) (by omega) (by omega) dX11_partOf_82 ?_
          refine ww_i2l hX (pc := 83) dX11_partOf_83 ?_
          refine ww_goto hX (pc := 84) (tgt := 97) dX11_partOf_84 (by decide) ?_
          refine rJ hX (pc := 97) hT (Nat.le_refl 0) (Nat.le_refl 0) dX11_partOf_97 ?_
          exact ⟨kI_46, kJ_6, cI_46, EV_to vI_46 (by omega), trivial⟩
      · simp only [w32_mod] at h_57
        refine ww_lconst hX (pc := 60) (x := 0) dX11_partOf_60 (by decide) ?_
        refine rJ hX (pc := 61) hT (Nat.le_refl 0) (Nat.le_refl 0) dX11_partOf_61 ?_
        exact ⟨kI_46, kJ_6, cI_46, EV_to vI_46 (by omega), trivial⟩
  · simp only [w32_mod] at h_9
    obtain ⟨mp, hmp, d9, hGd, hcd, hbd⟩ := GPm_br hG (by have := PS_1 yI_6.2 (by omega); omega)
    have hz := EV_z (i := d9) hE (by omega)
    have w6 : EV I_6 t c (a + 1) := EV_to vI_6 (by omega)
    refine ww_aload_n hX (pc := 12) dX11_partOf_12 rfl ?_
    refine ww_iload_n hX (pc := 13) dX11_partOf_13 rfl ?_
    refine vJ1 hX (pc := 14) sX11_243 (xs_49 hL) (hrec mp hmp hL cI_6 (by omega) w6 hGd) (by omega) (Nat.le_refl 0) (Nat.le_refl 0) (Nat.le_of_ble_eq_true rfl) dX11_partOf_14 (fun x_14 I_14 J_14 h_14 => ?_)
    have kJ_14 : Kp 49 73 Ja J_14 := Kp_tr kJ_6 h_14.2.1
    have kI_14 : Ch [] [19, 21] Ia I_14 := Ch_tr kI_6 (Ch_wd h_14.1 (by decide) (by decide))
    have cI_14 : RX I_14 := h_14.2.2.1
    have qI_14 := RX_w cI_14
    have f20_I_14 : I_14 49 20 = I_6 49 20 := h_14.1.2 20 (by decide)
    have vI_14 : EV I_14 t c d9 := h_14.2.2.2.1
    have oI_14 := EV_o vI_14
    have yI_14 := h_14.2.2.2.2
    refine ww_lstore_n hX (pc := 17) (lv' := [some (kR (some 49)), some (kI la), some (kL x_14), none]) dX11_partOf_17 (by decide) rfl rfl ?_
    refine ww_aload_n hX (pc := 18) dX11_partOf_18 rfl ?_
    refine ww_dupR hX (pc := 19) dX11_partOf_19 ?_
    refine ww_getI hX (pc := 20) fX11_215 (by decide) (xs_49 hL) dX11_partOf_20 ?_
    refine ww_iconst hX (pc := 23) (x := 1) dX11_partOf_23 rfl ?_
    refine ww_iadd hX (pc := 24) dX11_partOf_24 ?_
    refine ww_putI hX (pc := 25) (fun h9 => absurd h9 (by decide)) gX11_215 rfl (xs_49 hL) dX11_partOf_25 ?_
    refine ww_nmH (fun I_25 eI_25 => ?_)
    have kI_25 : Ch [] [19, 21] Ia I_25 := by rw [eI_25]; exact Ch_f kI_14 (by decide)
    have cI_25 : RX I_25 := by rw [eI_25]; exact RX_f cI_14 (by decide)
    have qI_25 := RX_w cI_25
    have f20_I_25 : I_25 49 20 = I_14 49 20 := by rw [eI_25, up2_n _ _ (Or.inr (by decide))]
    have f21_I_25 : I_25 49 21 = I_14 49 21 := by rw [eI_25, up2_n _ _ (Or.inr (by decide))]
    have vI_25 : EV I_25 t c (d9 + 1) := EV_st vI_14 (by rw [eI_25, up2_off _ _ _ (by decide)]) (by omega) (by rw [eI_25, up2_s]; omega) (by omega)
    have oI_25 := EV_o vI_25
    refine ww_lload_n hX (pc := 28) dX11_partOf_28 rfl ?_
    refine rJ hX (pc := 29) hT (Nat.le_refl 0) (Nat.le_refl 0) dX11_partOf_29 ?_
    exact ⟨kI_25, kJ_14, cI_25, EV_to vI_25 (by omega), trivial⟩
set_option maxHeartbeats 4000000 in
set_option maxRecDepth 20000 in
theorem c_X11_termOf (l0 : Launch) {Ia Ja : aI1} {Ra : aR1} {Sa : aS1} (hL : LY Ra Sa) (hQ : RX Ia) {la : Int} (hla : 0 ≤ la ∧ la ≤ 1) {t a : Nat} {c : Nat → Int} (hE : EV Ia t c a) {m b : Nat} (hG : GSeq (GPm c m) opT c a b) (hrec : ∀ mp, m = mp + 1 → ESum l0 mp)  : CT l0 (3 * m + 4) 0 0 mX11_termOf [kR (some 49), kI la] Ia Ja Ra Sa (cJ (fun x I' J' => Ch [] [19, 21] Ia I' ∧ Kp 49 73 Ja J' ∧ RX I' ∧ EV I' t c b ∧ True) Ra Sa) := by
  refine ct_in pn_X11 (Nat.le_of_ble_eq_true rfl) (fun X hX hT hIn => ?_)
  have hX : aK l0 X cX11_termOf 7 RX11 (some .long) (3 * m + 4) 0 0 := hX
  change WW X 0 [some (kR (some 49)), some (kI la), none, none, none, none, none] [] Ia Ja Ra Sa 0 0
  have qIa := RX_w hQ
  have oIa := EV_o hE
  obtain ⟨a1, hG1, hRs⟩ := hG
  refine ww_aload_n hX (pc := 0) dX11_termOf_0 rfl ?_
  refine ww_iload_n hX (pc := 1) dX11_termOf_1 rfl ?_
  refine vJ1 hX (pc := 2) sX11_237 (xs_49 hL) (c_X11_partOf l0 hL hQ  (by omega) hE hG1 hrec) (by omega) (Nat.le_refl 0) (Nat.le_refl 0) (Nat.le_of_ble_eq_true rfl) dX11_termOf_2 (fun x_2 I_2 J_2 h_2 => ?_)
  have kJ_2 : Kp 49 73 Ja J_2 := Kp_tr (Kp_rf (a := 49) (b := 73)) h_2.2.1
  have kI_2 : Ch [] [19, 21] Ia I_2 := Ch_tr Ch_rf (Ch_wd h_2.1 (by decide) (by decide))
  have cI_2 : RX I_2 := h_2.2.2.1
  have qI_2 := RX_w cI_2
  have f20_I_2 : I_2 49 20 = Ia 49 20 := h_2.1.2 20 (by decide)
  have vI_2 : EV I_2 t c a1 := h_2.2.2.2.1
  have oI_2 := EV_o vI_2
  have yI_2 := h_2.2.2.2.2
  refine ww_lstore_n hX (pc := 5) (lv' := [some (kR (some 49)), some (kI la), some (kL x_2), none, none, none, none]) dX11_termOf_5 (by decide) rfl rfl ?_
  have hl_6 : ∀ (n_6 : Nat) (v9 : Int) (I6 : aI1) (J6 : aI1), (400 * t + b - I6 49 19).toNat = n_6 → (Ch [] [19, 21] Ia I6 ∧ RX I6 ∧ Kp 49 73 Ja J6 ∧ ∃ p9 : Nat, EV I6 t c p9 ∧ ∃ n, GRest (GPm c m) opT c n p9 b) → WW X 6 [some (kR (some 49)), some (kI la), some (kL v9), none, none, none, none] [] I6 J6 Ra Sa 0 0 := by
    intro n_6
    induction n_6 using Nat.strongRecOn with
    | ind n_6 ih_6 =>
      intro v9 I6 J6 hm_6 hv_6
      have hq_6 := Sh0_i hm_6
      clear hm_6
      obtain ⟨kI6, cI6, kJ6, p9, vI6, hR6⟩ := hv_6
      have qI6 := RX_w cI6
      have oI6 := EV_o vI6
      refine ww_aload_n hX (pc := 6) dX11_termOf_6 rfl ?_
      refine ww_aload_n hX (pc := 7) dX11_termOf_7 rfl ?_
      refine ww_getI hX (pc := 8) fX11_215 (by decide) (xs_49 hL) dX11_termOf_8 ?_
      refine vI1 hX (pc := 11) sX11_218 (xs_49 hL) (c_X11_codeAt l0 hL cI6  rfl vI6) (by omega) (Nat.le_refl 0) (Nat.le_refl 0) (Nat.le_of_ble_eq_true rfl) dX11_termOf_11 (fun x_11 I_11 J_11 h_11 => ?_)
      obtain ⟨rfl, rfl, h_11⟩ := h_11
      refine ww_bipush hX (pc := 14) (x := 42) dX11_termOf_14 (by decide) ?_
      refine sI1 hX (pc := 16) sX11_190 (c_X11_sign l0 ) (by omega) (Nat.le_refl 0) (Nat.le_refl 0) (Nat.le_of_ble_eq_true rfl) dX11_termOf_16 (fun x_16 I_16 J_16 h_16 => ?_)
      obtain ⟨rfl, rfl, h_16⟩ := h_16
      refine ww_icmp_eq hX (pc := 19) (tgt := 54) dX11_termOf_19 (by decide) (fun h_19 => ?_) (fun h_19 => ?_)
      · simp only [w32_mod] at h_19
        have hop : opT (c p9) := by unfold opT; omega
        obtain ⟨d9, hT9, hR9⟩ := GRest_op hR6 hop
        have hz9 := EV_z (i := p9) vI6 (by unfold opT at hop; omega)
        have hlt9 := GPm_lt _ _ _ hT9
        have hle9 := GRest_l2 (GPm_lt m) hR9
        refine ww_aload_n hX (pc := 54) dX11_termOf_54 rfl ?_
        refine ww_aload_n hX (pc := 55) dX11_termOf_55 rfl ?_
        refine ww_getI hX (pc := 56) fX11_215 (by decide) (xs_49 hL) dX11_termOf_56 ?_
        refine vI1 hX (pc := 59) sX11_218 (xs_49 hL) (c_X11_codeAt l0 hL cI6  rfl vI6) (by omega) (Nat.le_refl 0) (Nat.le_refl 0) (Nat.le_of_ble_eq_true rfl) dX11_termOf_59 (fun x_59 I_59 J_59 h_59 => ?_)
        obtain ⟨rfl, rfl, h_59⟩ := h_59
        refine ww_istore hX (pc := 62) (lv' := [some (kR (some 49)), some (kI la), some (kL v9), none, some (kI x_59), none, none]) dX11_termOf_62 (by decide) rfl rfl ?_
        refine ww_aload_n hX (pc := 64) dX11_termOf_64 rfl ?_
        refine ww_dupR hX (pc := 65) dX11_termOf_65 ?_
        refine ww_getI hX (pc := 66) fX11_215 (by decide) (xs_49 hL) dX11_termOf_66 ?_
        refine ww_iconst hX (pc := 69) (x := 1) dX11_termOf_69 rfl ?_
        refine ww_iadd hX (pc := 70) dX11_termOf_70 ?_
        refine ww_putI hX (pc := 71) (fun h9 => absurd h9 (by decide)) gX11_215 rfl (xs_49 hL) dX11_termOf_71 ?_
        refine ww_nmH (fun I_71 eI_71 => ?_)
        have kI_71 : Ch [] [19, 21] Ia I_71 := by rw [eI_71]; exact Ch_f kI6 (by decide)
        have cI_71 : RX I_71 := by rw [eI_71]; exact RX_f cI6 (by decide)
        have qI_71 := RX_w cI_71
        have f20_I_71 : I_71 49 20 = I6 49 20 := by rw [eI_71, up2_n _ _ (Or.inr (by decide))]
        have f21_I_71 : I_71 49 21 = I6 49 21 := by rw [eI_71, up2_n _ _ (Or.inr (by decide))]
        have vI_71 : EV I_71 t c (p9 + 1) := EV_st vI6 (by rw [eI_71, up2_off _ _ _ (by decide)]) (by omega) (by rw [eI_71, up2_s]; omega) (by omega)
        have oI_71 := EV_o vI_71
        refine ww_aload_n hX (pc := 74) dX11_termOf_74 rfl ?_
        refine ww_iload_n hX (pc := 75) dX11_termOf_75 rfl ?_
        refine vJ1 hX (pc := 76) sX11_237 (xs_49 hL) (c_X11_partOf l0 hL cI_71  (by omega) vI_71 hT9 hrec) (by omega) (Nat.le_refl 0) (Nat.le_refl 0) (Nat.le_of_ble_eq_true rfl) dX11_termOf_76 (fun x_76 I_76 J_76 h_76 => ?_)
        have kJ_76 : Kp 49 73 Ja J_76 := Kp_tr kJ6 h_76.2.1
        have kI_76 : Ch [] [19, 21] Ia I_76 := Ch_tr kI_71 (Ch_wd h_76.1 (by decide) (by decide))
        have cI_76 : RX I_76 := h_76.2.2.1
        have qI_76 := RX_w cI_76
        have f20_I_76 : I_76 49 20 = I_71 49 20 := h_76.1.2 20 (by decide)
        have vI_76 : EV I_76 t c d9 := h_76.2.2.2.1
        have oI_76 := EV_o vI_76
        have yI_76 := h_76.2.2.2.2
        refine ww_lstore hX (pc := 79) (lv' := [some (kR (some 49)), some (kI la), some (kL v9), none, some (kI x_59), some (kL x_76), none]) dX11_termOf_79 (by decide) rfl rfl ?_
        refine ww_iload hX (pc := 81) dX11_termOf_81 rfl ?_
        refine ww_bipush hX (pc := 83) (x := 42) dX11_termOf_83 (by decide) ?_
        refine sI1 hX (pc := 85) sX11_190 (c_X11_sign l0 ) (by omega) (Nat.le_refl 0) (Nat.le_refl 0) (Nat.le_of_ble_eq_true rfl) dX11_termOf_85 (fun x_85 I_85 J_85 h_85 => ?_)
        obtain ⟨rfl, rfl, h_85⟩ := h_85
        refine ww_icmp_eq hX (pc := 88) (tgt := 121) dX11_termOf_88 (by decide) (fun h_88 => ?_) (fun h_88 => ?_)
        · simp only [w32_mod] at h_88
          refine ww_aload_n hX (pc := 121) dX11_termOf_121 rfl ?_
          refine ww_iload hX (pc := 122) dX11_termOf_122 rfl ?_
          refine ww_bipush hX (pc := 124) (x := 42) dX11_termOf_124 (by decide) ?_
          refine sI1 hX (pc := 126) sX11_190 (c_X11_sign l0 ) (by omega) (Nat.le_refl 0) (Nat.le_refl 0) (Nat.le_of_ble_eq_true rfl) dX11_termOf_126 (fun x_126 I_126 J_126 h_126 => ?_)
          obtain ⟨rfl, rfl, h_126⟩ := h_126
          refine ww_icmp_ne hX (pc := 129) (tgt := 139) dX11_termOf_129 (by decide) (fun h_129 => ?_) (fun h_129 => ?_)
          · simp only [w32_mod] at h_129
            exfalso
            omega
          · simp only [w32_mod] at h_129
            refine ww_lload_n hX (pc := 132) dX11_termOf_132 rfl ?_
            refine ww_lload hX (pc := 133) dX11_termOf_133 rfl ?_
            refine ww_lmul hX (pc := 135) dX11_termOf_135 ?_
            refine ww_goto hX (pc := 136) (tgt := 160) dX11_termOf_136 (by decide) ?_
            refine ww_iload_n hX (pc := 160) dX11_termOf_160 rfl ?_
            refine vJ2 hX (pc := 161) sX11_233 (xs_49 hL) (c_X11_bounded l0 hL cI_76  (by omega) vI_76) (by omega) (Nat.le_refl 0) (Nat.le_refl 0) (Nat.le_of_ble_eq_true rfl) dX11_termOf_161 (fun x_161 I_161 J_161 h_161 => ?_)
            have kJ_161 : Kp 49 73 Ja J_161 := Kp_tr kJ_76 h_161.2.1
            have kI_161 : Ch [] [19, 21] Ia I_161 := Ch_tr kI_76 (Ch_wd h_161.1 (by decide) (by decide))
            have cI_161 : RX I_161 := h_161.2.2.1
            have qI_161 := RX_w cI_161
            have f19_I_161 : I_161 49 19 = I_76 49 19 := h_161.1.2 19 (by decide)
            have f20_I_161 : I_161 49 20 = I_76 49 20 := h_161.1.2 20 (by decide)
            have vI_161 : EV I_161 t c d9 := h_161.2.2.2.1
            have oI_161 := EV_o vI_161
            have yI_161 := h_161.2.2.2.2
            refine ww_lstore_n hX (pc := 164) (lv' := [some (kR (some 49)), some (kI la), some (kL x_161), none, some (kI x_59), some (kL x_76), none]) dX11_termOf_164 (by decide) rfl rfl ?_
            refine ww_goto hX (pc := 165) (tgt := 6) dX11_termOf_165 (by decide) ?_
            refine ww_sub [some (kR (some 49)), some (kI la), some (kL x_161), none, none, none, none] (aLe_s (aLe_s (aLe_s (aLe_n (aLe_n (aLe_n (aLe_n aLe_0))))))) ?_
            exact ih_6 _ (by have hm9 := Sh0_e hq_6; omega) x_161 I_161 J_161 rfl ⟨kI_161, cI_161, kJ_161, ⟨d9, vI_161, hR9⟩⟩
        · simp only [w32_mod] at h_88
          exfalso
          omega
      · simp only [w32_mod] at h_19
        refine ww_aload_n hX (pc := 22) dX11_termOf_22 rfl ?_
        refine ww_aload_n hX (pc := 23) dX11_termOf_23 rfl ?_
        refine ww_getI hX (pc := 24) fX11_215 (by decide) (xs_49 hL) dX11_termOf_24 ?_
        refine vI1 hX (pc := 27) sX11_218 (xs_49 hL) (c_X11_codeAt l0 hL cI6  rfl vI6) (by omega) (Nat.le_refl 0) (Nat.le_refl 0) (Nat.le_of_ble_eq_true rfl) dX11_termOf_27 (fun x_27 I_27 J_27 h_27 => ?_)
        obtain ⟨rfl, rfl, h_27⟩ := h_27
        refine ww_bipush hX (pc := 30) (x := 47) dX11_termOf_30 (by decide) ?_
        refine sI1 hX (pc := 32) sX11_190 (c_X11_sign l0 ) (by omega) (Nat.le_refl 0) (Nat.le_refl 0) (Nat.le_of_ble_eq_true rfl) dX11_termOf_32 (fun x_32 I_32 J_32 h_32 => ?_)
        obtain ⟨rfl, rfl, h_32⟩ := h_32
        refine ww_icmp_eq hX (pc := 35) (tgt := 54) dX11_termOf_35 (by decide) (fun h_35 => ?_) (fun h_35 => ?_)
        · simp only [w32_mod] at h_35
          have hop : opT (c p9) := by unfold opT; omega
          obtain ⟨d9, hT9, hR9⟩ := GRest_op hR6 hop
          have hz9 := EV_z (i := p9) vI6 (by unfold opT at hop; omega)
          have hlt9 := GPm_lt _ _ _ hT9
          have hle9 := GRest_l2 (GPm_lt m) hR9
          refine ww_aload_n hX (pc := 54) dX11_termOf_54 rfl ?_
          refine ww_aload_n hX (pc := 55) dX11_termOf_55 rfl ?_
          refine ww_getI hX (pc := 56) fX11_215 (by decide) (xs_49 hL) dX11_termOf_56 ?_
          refine vI1 hX (pc := 59) sX11_218 (xs_49 hL) (c_X11_codeAt l0 hL cI6  rfl vI6) (by omega) (Nat.le_refl 0) (Nat.le_refl 0) (Nat.le_of_ble_eq_true rfl) dX11_termOf_59 (fun x_59 I_59 J_59 h_59 => ?_)
          obtain ⟨rfl, rfl, h_59⟩ := h_59
          refine ww_istore hX (pc := 62) (lv' := [some (kR (some 49)), some (kI la), some (kL v9), none, some (kI x_59), none, none]) dX11_termOf_62 (by decide) rfl rfl ?_
          refine ww_aload_n hX (pc := 64) dX11_termOf_64 rfl ?_
          refine ww_dupR hX (pc := 65) dX11_termOf_65 ?_
          refine ww_getI hX (pc := 66) fX11_215 (by decide) (xs_49 hL) dX11_termOf_66 ?_
          refine ww_iconst hX (pc := 69) (x := 1) dX11_termOf_69 rfl ?_
          refine ww_iadd hX (pc := 70) dX11_termOf_70 ?_
          refine ww_putI hX (pc := 71) (fun h9 => absurd h9 (by decide)) gX11_215 rfl (xs_49 hL) dX11_termOf_71 ?_
          refine ww_nmH (fun I_71 eI_71 => ?_)
          have kI_71 : Ch [] [19, 21] Ia I_71 := by rw [eI_71]; exact Ch_f kI6 (by decide)
          have cI_71 : RX I_71 := by rw [eI_71]; exact RX_f cI6 (by decide)
          have qI_71 := RX_w cI_71
          have f20_I_71 : I_71 49 20 = I6 49 20 := by rw [eI_71, up2_n _ _ (Or.inr (by decide))]
          have f21_I_71 : I_71 49 21 = I6 49 21 := by rw [eI_71, up2_n _ _ (Or.inr (by decide))]
          have vI_71 : EV I_71 t c (p9 + 1) := EV_st vI6 (by rw [eI_71, up2_off _ _ _ (by decide)]) (by omega) (by rw [eI_71, up2_s]; omega) (by omega)
          have oI_71 := EV_o vI_71
          refine ww_aload_n hX (pc := 74) dX11_termOf_74 rfl ?_
          refine ww_iload_n hX (pc := 75) dX11_termOf_75 rfl ?_
          refine vJ1 hX (pc := 76) sX11_237 (xs_49 hL) (c_X11_partOf l0 hL cI_71  (by omega) vI_71 hT9 hrec) (by omega) (Nat.le_refl 0) (Nat.le_refl 0) (Nat.le_of_ble_eq_true rfl) dX11_termOf_76 (fun x_76 I_76 J_76 h_76 => ?_)
          have kJ_76 : Kp 49 73 Ja J_76 := Kp_tr kJ6 h_76.2.1
          have kI_76 : Ch [] [19, 21] Ia I_76 := Ch_tr kI_71 (Ch_wd h_76.1 (by decide) (by decide))
          have cI_76 : RX I_76 := h_76.2.2.1
          have qI_76 := RX_w cI_76
          have f20_I_76 : I_76 49 20 = I_71 49 20 := h_76.1.2 20 (by decide)
          have vI_76 : EV I_76 t c d9 := h_76.2.2.2.1
          have oI_76 := EV_o vI_76
          have yI_76 := h_76.2.2.2.2
          refine ww_lstore hX (pc := 79) (lv' := [some (kR (some 49)), some (kI la), some (kL v9), none, some (kI x_59), some (kL x_76), none]) dX11_termOf_79 (by decide) rfl rfl ?_
          refine ww_iload hX (pc := 81) dX11_termOf_81 rfl ?_
          refine ww_bipush hX (pc := 83) (x := 42) dX11_termOf_83 (by decide) ?_
          refine sI1 hX (pc := 85) sX11_190 (c_X11_sign l0 ) (by omega) (Nat.le_refl 0) (Nat.le_refl 0) (Nat.le_of_ble_eq_true rfl) dX11_termOf_85 (fun x_85 I_85 J_85 h_85 => ?_)
          obtain ⟨rfl, rfl, h_85⟩ := h_85
          refine ww_icmp_eq hX (pc := 88) (tgt := 121) dX11_termOf_88 (by decide) (fun h_88 => ?_) (fun h_88 => ?_)
          · simp only [w32_mod] at h_88
            exfalso
            omega
          · simp only [w32_mod] at h_88
            refine ww_lload hX (pc := 91) dX11_termOf_91 rfl ?_
            refine ww_lconst hX (pc := 93) (x := 0) dX11_termOf_93 (by decide) ?_
            refine ww_lcmp hX (pc := 94) dX11_termOf_94 ?_
            refine ww_if_ne hX (pc := 95) (tgt := 121) dX11_termOf_95 (by decide) (fun h_95 => ?_) (fun h_95 => ?_)
            · simp only [w32_mod] at h_95
              have hnz := l_cmp_ne0 h_95
              refine ww_aload_n hX (pc := 121) dX11_termOf_121 rfl ?_
              refine ww_iload hX (pc := 122) dX11_termOf_122 rfl ?_
              refine ww_bipush hX (pc := 124) (x := 42) dX11_termOf_124 (by decide) ?_
              refine sI1 hX (pc := 126) sX11_190 (c_X11_sign l0 ) (by omega) (Nat.le_refl 0) (Nat.le_refl 0) (Nat.le_of_ble_eq_true rfl) dX11_termOf_126 (fun x_126 I_126 J_126 h_126 => ?_)
              obtain ⟨rfl, rfl, h_126⟩ := h_126
              refine ww_icmp_ne hX (pc := 129) (tgt := 139) dX11_termOf_129 (by decide) (fun h_129 => ?_) (fun h_129 => ?_)
              · simp only [w32_mod] at h_129
                refine ww_iload hX (pc := 139) dX11_termOf_139 rfl ?_
                refine ww_bipush hX (pc := 141) (x := 47) dX11_termOf_141 (by decide) ?_
                refine sI1 hX (pc := 143) sX11_190 (c_X11_sign l0 ) (by omega) (Nat.le_refl 0) (Nat.le_refl 0) (Nat.le_of_ble_eq_true rfl) dX11_termOf_143 (fun x_143 I_143 J_143 h_143 => ?_)
                obtain ⟨rfl, rfl, h_143⟩ := h_143
                refine ww_icmp_ne hX (pc := 146) (tgt := 156) dX11_termOf_146 (by decide) (fun h_146 => ?_) (fun h_146 => ?_)
                · simp only [w32_mod] at h_146
                  exfalso
                  omega
                · simp only [w32_mod] at h_146
                  refine ww_lload_n hX (pc := 149) dX11_termOf_149 rfl ?_
                  refine ww_lload hX (pc := 150) dX11_termOf_150 rfl ?_
                  refine ww_ldiv hX (pc := 152) dX11_termOf_152 (by first | exact hnz | decide) ?_
                  refine ww_goto hX (pc := 153) (tgt := 160) dX11_termOf_153 (by decide) ?_
                  refine ww_iload_n hX (pc := 160) dX11_termOf_160 rfl ?_
                  refine vJ2 hX (pc := 161) sX11_233 (xs_49 hL) (c_X11_bounded l0 hL cI_76  (by omega) vI_76) (by omega) (Nat.le_refl 0) (Nat.le_refl 0) (Nat.le_of_ble_eq_true rfl) dX11_termOf_161 (fun x_161 I_161 J_161 h_161 => ?_)
                  have kJ_161 : Kp 49 73 Ja J_161 := Kp_tr kJ_76 h_161.2.1
                  have kI_161 : Ch [] [19, 21] Ia I_161 := Ch_tr kI_76 (Ch_wd h_161.1 (by decide) (by decide))
                  have cI_161 : RX I_161 := h_161.2.2.1
                  have qI_161 := RX_w cI_161
                  have f19_I_161 : I_161 49 19 = I_76 49 19 := h_161.1.2 19 (by decide)
                  have f20_I_161 : I_161 49 20 = I_76 49 20 := h_161.1.2 20 (by decide)
                  have vI_161 : EV I_161 t c d9 := h_161.2.2.2.1
                  have oI_161 := EV_o vI_161
                  have yI_161 := h_161.2.2.2.2
                  refine ww_lstore_n hX (pc := 164) (lv' := [some (kR (some 49)), some (kI la), some (kL x_161), none, some (kI x_59), some (kL x_76), none]) dX11_termOf_164 (by decide) rfl rfl ?_
                  refine ww_goto hX (pc := 165) (tgt := 6) dX11_termOf_165 (by decide) ?_
                  refine ww_sub [some (kR (some 49)), some (kI la), some (kL x_161), none, none, none, none] (aLe_s (aLe_s (aLe_s (aLe_n (aLe_n (aLe_n (aLe_n aLe_0))))))) ?_
                  exact ih_6 _ (by have hm9 := Sh0_e hq_6; omega) x_161 I_161 J_161 rfl ⟨kI_161, cI_161, kJ_161, ⟨d9, vI_161, hR9⟩⟩
              · simp only [w32_mod] at h_129
                exfalso
                omega
            · simp only [w32_mod] at h_95
              refine ww_aload_n hX (pc := 98) dX11_termOf_98 rfl ?_
              refine ww_aload_n hX (pc := 99) dX11_termOf_99 rfl ?_
              refine ww_getI hX (pc := 100) fX11_225 (by decide) (xs_49 hL) dX11_termOf_100 ?_
              refine ww_if_ne hX (pc := 103) (tgt := 110) dX11_termOf_103 (by decide) (fun h_103 => ?_) (fun h_103 => ?_)
              · simp only [w32_mod] at h_103
                refine ww_iconst hX (pc := 110) (x := 1) dX11_termOf_110 rfl ?_
                refine ww_goto hX (pc := 111) (tgt := 115) dX11_termOf_111 (by decide) ?_
                refine ww_putZ hX (pc := 115) (fun h9 => absurd h9 (by decide)) gX11_225 rfl (by decide) (xs_49 hL) dX11_termOf_115 ?_
                refine ww_nmH (fun I_115 eI_115 => ?_)
                have kI_115 : Ch [] [19, 21] Ia I_115 := by rw [eI_115]; exact Ch_f kI_76 (by decide)
                have cI_115 : RX I_115 := by rw [eI_115]; exact RX_f cI_76 (by decide)
                have qI_115 := RX_w cI_115
                have f19_I_115 : I_115 49 19 = I_76 49 19 := by rw [eI_115, up2_n _ _ (Or.inr (by decide))]
                have f20_I_115 : I_115 49 20 = I_76 49 20 := by rw [eI_115, up2_n _ _ (Or.inr (by decide))]
                have vI_115 : EV I_115 t c d9 := EV_st vI_76 (by rw [eI_115, up2_off _ _ _ (by decide)]) (by omega) (by omega) (by omega)
                have oI_115 := EV_o vI_115
                refine ww_lconst hX (pc := 118) (x := 1) dX11_termOf_118 (by decide) ?_
                refine ww_lstore hX (pc := 119) (lv' := [some (kR (some 49)), some (kI la), some (kL v9), none, some (kI x_59), some (kL 1), none]) dX11_termOf_119 (by decide) rfl rfl ?_
                refine ww_aload_n hX (pc := 121) dX11_termOf_121 rfl ?_
                refine ww_iload hX (pc := 122) dX11_termOf_122 rfl ?_
                refine ww_bipush hX (pc := 124) (x := 42) dX11_termOf_124 (by decide) ?_
                refine sI1 hX (pc := 126) sX11_190 (c_X11_sign l0 ) (by omega) (Nat.le_refl 0) (Nat.le_refl 0) (Nat.le_of_ble_eq_true rfl) dX11_termOf_126 (fun x_126 I_126 J_126 h_126 => ?_)
                obtain ⟨rfl, rfl, h_126⟩ := h_126
                refine ww_icmp_ne hX (pc := 129) (tgt := 139) dX11_termOf_129 (by decide) (fun h_129 => ?_) (fun h_129 => ?_)
                · simp only [w32_mod] at h_129
                  refine ww_iload hX (pc := 139) dX11_termOf_139 rfl ?_
                  refine ww_bipush hX (pc := 141) (x := 47) dX11_termOf_141 (by decide) ?_
                  refine sI1 hX (pc := 143) sX11_190 (c_X11_sign l0 ) (by omega) (Nat.le_refl 0) (Nat.le_refl 0) (Nat.le_of_ble_eq_true rfl) dX11_termOf_143 (fun x_143 I_143 J_143 h_143 => ?_)
                  obtain ⟨rfl, rfl, h_143⟩ := h_143
                  refine ww_icmp_ne hX (pc := 146) (tgt := 156) dX11_termOf_146 (by decide) (fun h_146 => ?_) (fun h_146 => ?_)
                  · simp only [w32_mod] at h_146
                    exfalso
                    omega
                  · simp only [w32_mod] at h_146
                    refine ww_lload_n hX (pc := 149) dX11_termOf_149 rfl ?_
                    refine ww_lload hX (pc := 150) dX11_termOf_150 rfl ?_
                    refine ww_ldiv hX (pc := 152) dX11_termOf_152 (by first | exact hnz | decide) ?_
                    refine ww_goto hX (pc := 153) (tgt := 160) dX11_termOf_153 (by decide) ?_
                    refine ww_iload_n hX (pc := 160) dX11_termOf_160 rfl ?_
                    refine vJ2 hX (pc := 161) sX11_233 (xs_49 hL) (c_X11_bounded l0 hL cI_115  (by omega) vI_115) (by omega) (Nat.le_refl 0) (Nat.le_refl 0) (Nat.le_of_ble_eq_true rfl) dX11_termOf_161 (fun x_161 I_161 J_161 h_161 => ?_)
                    have kJ_161 : Kp 49 73 Ja J_161 := Kp_tr kJ_76 h_161.2.1
                    have kI_161 : Ch [] [19, 21] Ia I_161 := Ch_tr kI_115 (Ch_wd h_161.1 (by decide) (by decide))
                    have cI_161 : RX I_161 := h_161.2.2.1
                    have qI_161 := RX_w cI_161
                    have f19_I_161 : I_161 49 19 = I_115 49 19 := h_161.1.2 19 (by decide)
                    have f20_I_161 : I_161 49 20 = I_115 49 20 := h_161.1.2 20 (by decide)
                    have vI_161 : EV I_161 t c d9 := h_161.2.2.2.1
                    have oI_161 := EV_o vI_161
                    have yI_161 := h_161.2.2.2.2
                    refine ww_lstore_n hX (pc := 164) (lv' := [some (kR (some 49)), some (kI la), some (kL x_161), none, some (kI x_59), some (kL 1), none]) dX11_termOf_164 (by decide) rfl rfl ?_
                    refine ww_goto hX (pc := 165) (tgt := 6) dX11_termOf_165 (by decide) ?_
                    refine ww_sub [some (kR (some 49)), some (kI la), some (kL x_161), none, none, none, none] (aLe_s (aLe_s (aLe_s (aLe_n (aLe_n (aLe_n (aLe_n aLe_0))))))) ?_
                    exact ih_6 _ (by have hm9 := Sh0_e hq_6; omega) x_161 I_161 J_161 rfl ⟨kI_161, cI_161, kJ_161, ⟨d9, vI_161, hR9⟩⟩
                · simp only [w32_mod] at h_129
                  exfalso
                  omega
              · simp only [w32_mod] at h_103
                refine ww_iload_n hX (pc := 106) dX11_termOf_106 rfl ?_
                refine ww_if_eq hX (pc := 107) (tgt := 114) dX11_termOf_107 (by decide) (fun h_107 => ?_) (fun h_107 => ?_)
                · simp only [w32_mod] at h_107
                  refine ww_iconst hX (pc := 114) (x := 0) dX11_termOf_114 rfl ?_
                  refine ww_putZ hX (pc := 115) (fun h9 => absurd h9 (by decide)) gX11_225 rfl (by decide) (xs_49 hL) dX11_termOf_115 ?_
                  refine ww_nmH (fun I_115 eI_115 => ?_)
                  have kI_115 : Ch [] [19, 21] Ia I_115 := by rw [eI_115]; exact Ch_f kI_76 (by decide)
                  have cI_115 : RX I_115 := by rw [eI_115]; exact RX_f cI_76 (by decide)
                  have qI_115 := RX_w cI_115
                  have f19_I_115 : I_115 49 19 = I_76 49 19 := by rw [eI_115, up2_n _ _ (Or.inr (by decide))]
                  have f20_I_115 : I_115 49 20 = I_76 49 20 := by rw [eI_115, up2_n _ _ (Or.inr (by decide))]
                  have vI_115 : EV I_115 t c d9 := EV_st vI_76 (by rw [eI_115, up2_off _ _ _ (by decide)]) (by omega) (by omega) (by omega)
                  have oI_115 := EV_o vI_115
                  refine ww_lconst hX (pc := 118) (x := 1) dX11_termOf_118 (by decide) ?_
                  refine ww_lstore hX (pc := 119) (lv' := [some (kR (some 49)), some (kI la), some (kL v9), none, some (kI x_59), some (kL 1), none]) dX11_termOf_119 (by decide) rfl rfl ?_
                  refine ww_aload_n hX (pc := 121) dX11_termOf_121 rfl ?_
                  refine ww_iload hX (pc := 122) dX11_termOf_122 rfl ?_
                  refine ww_bipush hX (pc := 124) (x := 42) dX11_termOf_124 (by decide) ?_
                  refine sI1 hX (pc := 126) sX11_190 (c_X11_sign l0 ) (by omega) (Nat.le_refl 0) (Nat.le_refl 0) (Nat.le_of_ble_eq_true rfl) dX11_termOf_126 (fun x_126 I_126 J_126 h_126 => ?_)
                  obtain ⟨rfl, rfl, h_126⟩ := h_126
                  refine ww_icmp_ne hX (pc := 129) (tgt := 139) dX11_termOf_129 (by decide) (fun h_129 => ?_) (fun h_129 => ?_)
                  · simp only [w32_mod] at h_129
                    refine ww_iload hX (pc := 139) dX11_termOf_139 rfl ?_
                    refine ww_bipush hX (pc := 141) (x := 47) dX11_termOf_141 (by decide) ?_
                    refine sI1 hX (pc := 143) sX11_190 (c_X11_sign l0 ) (by omega) (Nat.le_refl 0) (Nat.le_refl 0) (Nat.le_of_ble_eq_true rfl) dX11_termOf_143 (fun x_143 I_143 J_143 h_143 => ?_)
                    obtain ⟨rfl, rfl, h_143⟩ := h_143
                    refine ww_icmp_ne hX (pc := 146) (tgt := 156) dX11_termOf_146 (by decide) (fun h_146 => ?_) (fun h_146 => ?_)
                    · simp only [w32_mod] at h_146
                      exfalso
                      omega
                    · simp only [w32_mod] at h_146
                      refine ww_lload_n hX (pc := 149) dX11_termOf_149 rfl ?_
                      refine ww_lload hX (pc := 150) dX11_termOf_150 rfl ?_
                      refine ww_ldiv hX (pc := 152) dX11_termOf_152 (by first | exact hnz | decide) ?_
                      refine ww_goto hX (pc := 153) (tgt := 160) dX11_termOf_153 (by decide) ?_
                      refine ww_iload_n hX (pc := 160) dX11_termOf_160 rfl ?_
                      refine vJ2 hX (pc := 161) sX11_233 (xs_49 hL) (c_X11_bounded l0 hL cI_115  (by omega) vI_115) (by omega) (Nat.le_refl 0) (Nat.le_refl 0) (Nat.le_of_ble_eq_true rfl) dX11_termOf_161 (fun x_161 I_161 J_161 h_161 => ?_)
                      have kJ_161 : Kp 49 73 Ja J_161 := Kp_tr kJ_76 h_161.2.1
                      have kI_161 : Ch [] [19, 21] Ia I_161 := Ch_tr kI_115 (Ch_wd h_161.1 (by decide) (by decide))
                      have cI_161 : RX I_161 := h_161.2.2.1
                      have qI_161 := RX_w cI_161
                      have f19_I_161 : I_161 49 19 = I_115 49 19 := h_161.1.2 19 (by decide)
                      have f20_I_161 : I_161 49 20 = I_115 49 20 := h_161.1.2 20 (by decide)
                      have vI_161 : EV I_161 t c d9 := h_161.2.2.2.1
                      have oI_161 := EV_o vI_161
                      have yI_161 := h_161.2.2.2.2
                      refine ww_lstore_n hX (pc := 164) (lv' := [some (kR (some 49)), some (kI la), some (kL x_161), none, some (kI x_59), some (kL 1), none]) dX11_termOf_164 (by decide) rfl rfl ?_
                      refine ww_goto hX (pc := 165) (tgt := 6) dX11_termOf_165 (by decide) ?_
                      refine ww_sub [some (kR (some 49)), some (kI la), some (kL x_161), none, none, none, none] (aLe_s (aLe_s (aLe_s (aLe_n (aLe_n (aLe_n (aLe_n aLe_0))))))) ?_
                      exact ih_6 _ (by have hm9 := Sh0_e hq_6; omega) x_161 I_161 J_161 rfl ⟨kI_161, cI_161, kJ_161, ⟨d9, vI_161, hR9⟩⟩
                  · simp only [w32_mod] at h_129
                    exfalso
                    omega
                · simp only [w32_mod] at h_107
                  refine ww_iconst hX (pc := 110) (x := 1) dX11_termOf_110 rfl ?_
                  refine ww_goto hX (pc := 111) (tgt := 115) dX11_termOf_111 (by decide) ?_
                  refine ww_putZ hX (pc := 115) (fun h9 => absurd h9 (by decide)) gX11_225 rfl (by decide) (xs_49 hL) dX11_termOf_115 ?_
                  refine ww_nmH (fun I_115 eI_115 => ?_)
                  have kI_115 : Ch [] [19, 21] Ia I_115 := by rw [eI_115]; exact Ch_f kI_76 (by decide)
                  have cI_115 : RX I_115 := by rw [eI_115]; exact RX_f cI_76 (by decide)
                  have qI_115 := RX_w cI_115
                  have f19_I_115 : I_115 49 19 = I_76 49 19 := by rw [eI_115, up2_n _ _ (Or.inr (by decide))]
                  have f20_I_115 : I_115 49 20 = I_76 49 20 := by rw [eI_115, up2_n _ _ (Or.inr (by decide))]
                  have vI_115 : EV I_115 t c d9 := EV_st vI_76 (by rw [eI_115, up2_off _ _ _ (by decide)]) (by omega) (by omega) (by omega)
                  have oI_115 := EV_o vI_115
                  refine ww_lconst hX (pc := 118) (x := 1) dX11_termOf_118 (by decide) ?_
                  refine ww_lstore hX (pc := 119) (lv' := [some (kR (some 49)), some (kI la), some (kL v9), none, some (kI x_59), some (kL 1), none]) dX11_termOf_119 (by decide) rfl rfl ?_
                  refine ww_aload_n hX (pc := 121) dX11_termOf_121 rfl ?_
                  refine ww_iload hX (pc := 122) dX11_termOf_122 rfl ?_
                  refine ww_bipush hX (pc := 124) (x := 42) dX11_termOf_124 (by decide) ?_
                  refine sI1 hX (pc := 126) sX11_190 (c_X11_sign l0 ) (by omega) (Nat.le_refl 0) (Nat.le_refl 0) (Nat.le_of_ble_eq_true rfl) dX11_termOf_126 (fun x_126 I_126 J_126 h_126 => ?_)
                  obtain ⟨rfl, rfl, h_126⟩ := h_126
                  refine ww_icmp_ne hX (pc := 129) (tgt := 139) dX11_termOf_129 (by decide) (fun h_129 => ?_) (fun h_129 => ?_)
                  · simp only [w32_mod] at h_129
                    refine ww_iload hX (pc := 139) dX11_termOf_139 rfl ?_
                    refine ww_bipush hX (pc := 141) (x := 47) dX11_termOf_141 (by decide) ?_
                    refine sI1 hX (pc := 143) sX11_190 (c_X11_sign l0 ) (by omega) (Nat.le_refl 0) (Nat.le_refl 0) (Nat.le_of_ble_eq_true rfl) dX11_termOf_143 (fun x_143 I_143 J_143 h_143 => ?_)
                    obtain ⟨rfl, rfl, h_143⟩ := h_143
                    refine ww_icmp_ne hX (pc := 146) (tgt := 156) dX11_termOf_146 (by decide) (fun h_146 => ?_) (fun h_146 => ?_)
                    · simp only [w32_mod] at h_146
                      exfalso
                      omega
                    · simp only [w32_mod] at h_146
                      refine ww_lload_n hX (pc := 149) dX11_termOf_149 rfl ?_
                      refine ww_lload hX (pc := 150) dX11_termOf_150 rfl ?_
                      refine ww_ldiv hX (pc := 152) dX11_termOf_152 (by first | exact hnz | decide) ?_
                      refine ww_goto hX (pc := 153) (tgt := 160) dX11_termOf_153 (by decide) ?_
                      refine ww_iload_n hX (pc := 160) dX11_termOf_160 rfl ?_
                      refine vJ2 hX (pc := 161) sX11_233 (xs_49 hL) (c_X11_bounded l0 hL cI_115  (by omega) vI_115) (by omega) (Nat.le_refl 0) (Nat.le_refl 0) (Nat.le_of_ble_eq_true rfl) dX11_termOf_161 (fun x_161 I_161 J_161 h_161 => ?_)
                      have kJ_161 : Kp 49 73 Ja J_161 := Kp_tr kJ_76 h_161.2.1
                      have kI_161 : Ch [] [19, 21] Ia I_161 := Ch_tr kI_115 (Ch_wd h_161.1 (by decide) (by decide))
                      have cI_161 : RX I_161 := h_161.2.2.1
                      have qI_161 := RX_w cI_161
                      have f19_I_161 : I_161 49 19 = I_115 49 19 := h_161.1.2 19 (by decide)
                      have f20_I_161 : I_161 49 20 = I_115 49 20 := h_161.1.2 20 (by decide)
                      have vI_161 : EV I_161 t c d9 := h_161.2.2.2.1
                      have oI_161 := EV_o vI_161
                      have yI_161 := h_161.2.2.2.2
                      refine ww_lstore_n hX (pc := 164) (lv' := [some (kR (some 49)), some (kI la), some (kL x_161), none, some (kI x_59), some (kL 1), none]) dX11_termOf_164 (by decide) rfl rfl ?_
                      refine ww_goto hX (pc := 165) (tgt := 6) dX11_termOf_165 (by decide) ?_
                      refine ww_sub [some (kR (some 49)), some (kI la), some (kL x_161), none, none, none, none] (aLe_s (aLe_s (aLe_s (aLe_n (aLe_n (aLe_n (aLe_n aLe_0))))))) ?_
                      exact ih_6 _ (by have hm9 := Sh0_e hq_6; omega) x_161 I_161 J_161 rfl ⟨kI_161, cI_161, kJ_161, ⟨d9, vI_161, hR9⟩⟩
                  · simp only [w32_mod] at h_129
                    exfalso
                    omega
        · simp only [w32_mod] at h_35
          refine ww_aload_n hX (pc := 38) dX11_termOf_38 rfl ?_
          refine ww_aload_n hX (pc := 39) dX11_termOf_39 rfl ?_
          refine ww_getI hX (pc := 40) fX11_215 (by decide) (xs_49 hL) dX11_termOf_40 ?_
          refine vI1 hX (pc := 43) sX11_218 (xs_49 hL) (c_X11_codeAt l0 hL cI6  rfl vI6) (by omega) (Nat.le_refl 0) (Nat.le_refl 0) (Nat.le_of_ble_eq_true rfl) dX11_termOf_43 (fun x_43 I_43 J_43 h_43 => ?_)
          obtain ⟨rfl, rfl, h_43⟩ := h_43
          refine ww_bipush hX (pc := 46) (x := 37) dX11_termOf_46 (by decide) ?_
          refine sI1 hX (pc := 48) sX11_190 (c_X11_sign l0 ) (by omega) (Nat.le_refl 0) (Nat.le_refl 0) (Nat.le_of_ble_eq_true rfl) dX11_termOf_48 (fun x_48 I_48 J_48 h_48 => ?_)
          obtain ⟨rfl, rfl, h_48⟩ := h_48
          refine ww_icmp_ne hX (pc := 51) (tgt := 168) dX11_termOf_51 (by decide) (fun h_51 => ?_) (fun h_51 => ?_)
          · simp only [w32_mod] at h_51
            refine ww_lload_n hX (pc := 168) dX11_termOf_168 rfl ?_
            refine rJ hX (pc := 169) hT (Nat.le_refl 0) (Nat.le_refl 0) dX11_termOf_169 ?_
            exact ⟨kI6, kJ6, cI6, EV_to vI6 (GRest_no hR6 (by unfold opT; omega)), trivial⟩
          · simp only [w32_mod] at h_51
            have hop : opT (c p9) := by unfold opT; omega
            obtain ⟨d9, hT9, hR9⟩ := GRest_op hR6 hop
            have hz9 := EV_z (i := p9) vI6 (by unfold opT at hop; omega)
            have hlt9 := GPm_lt _ _ _ hT9
            have hle9 := GRest_l2 (GPm_lt m) hR9
            refine ww_aload_n hX (pc := 54) dX11_termOf_54 rfl ?_
            refine ww_aload_n hX (pc := 55) dX11_termOf_55 rfl ?_
            refine ww_getI hX (pc := 56) fX11_215 (by decide) (xs_49 hL) dX11_termOf_56 ?_
            refine vI1 hX (pc := 59) sX11_218 (xs_49 hL) (c_X11_codeAt l0 hL cI6  rfl vI6) (by omega) (Nat.le_refl 0) (Nat.le_refl 0) (Nat.le_of_ble_eq_true rfl) dX11_termOf_59 (fun x_59 I_59 J_59 h_59 => ?_)
            obtain ⟨rfl, rfl, h_59⟩ := h_59
            refine ww_istore hX (pc := 62) (lv' := [some (kR (some 49)), some (kI la), some (kL v9), none, some (kI x_59), none, none]) dX11_termOf_62 (by decide) rfl rfl ?_
            refine ww_aload_n hX (pc := 64) dX11_termOf_64 rfl ?_
            refine ww_dupR hX (pc := 65) dX11_termOf_65 ?_
            refine ww_getI hX (pc := 66) fX11_215 (by decide) (xs_49 hL) dX11_termOf_66 ?_
            refine ww_iconst hX (pc := 69) (x := 1) dX11_termOf_69 rfl ?_
            refine ww_iadd hX (pc := 70) dX11_termOf_70 ?_
            refine ww_putI hX (pc := 71) (fun h9 => absurd h9 (by decide)) gX11_215 rfl (xs_49 hL) dX11_termOf_71 ?_
            refine ww_nmH (fun I_71 eI_71 => ?_)
            have kI_71 : Ch [] [19, 21] Ia I_71 := by rw [eI_71]; exact Ch_f kI6 (by decide)
            have cI_71 : RX I_71 := by rw [eI_71]; exact RX_f cI6 (by decide)
            have qI_71 := RX_w cI_71
            have f20_I_71 : I_71 49 20 = I6 49 20 := by rw [eI_71, up2_n _ _ (Or.inr (by decide))]
            have f21_I_71 : I_71 49 21 = I6 49 21 := by rw [eI_71, up2_n _ _ (Or.inr (by decide))]
            have vI_71 : EV I_71 t c (p9 + 1) := EV_st vI6 (by rw [eI_71, up2_off _ _ _ (by decide)]) (by omega) (by rw [eI_71, up2_s]; omega) (by omega)
            have oI_71 := EV_o vI_71
            refine ww_aload_n hX (pc := 74) dX11_termOf_74 rfl ?_
            refine ww_iload_n hX (pc := 75) dX11_termOf_75 rfl ?_
            refine vJ1 hX (pc := 76) sX11_237 (xs_49 hL) (c_X11_partOf l0 hL cI_71  (by omega) vI_71 hT9 hrec) (by omega) (Nat.le_refl 0) (Nat.le_refl 0) (Nat.le_of_ble_eq_true rfl) dX11_termOf_76 (fun x_76 I_76 J_76 h_76 => ?_)
            have kJ_76 : Kp 49 73 Ja J_76 := Kp_tr kJ6 h_76.2.1
            have kI_76 : Ch [] [19, 21] Ia I_76 := Ch_tr kI_71 (Ch_wd h_76.1 (by decide) (by decide))
            have cI_76 : RX I_76 := h_76.2.2.1
            have qI_76 := RX_w cI_76
            have f20_I_76 : I_76 49 20 = I_71 49 20 := h_76.1.2 20 (by decide)
            have vI_76 : EV I_76 t c d9 := h_76.2.2.2.1
            have oI_76 := EV_o vI_76
            have yI_76 := h_76.2.2.2.2
            refine ww_lstore hX (pc := 79) (lv' := [some (kR (some 49)), some (kI la), some (kL v9), none, some (kI x_59), some (kL x_76), none]) dX11_termOf_79 (by decide) rfl rfl ?_
            refine ww_iload hX (pc := 81) dX11_termOf_81 rfl ?_
            refine ww_bipush hX (pc := 83) (x := 42) dX11_termOf_83 (by decide) ?_
            refine sI1 hX (pc := 85) sX11_190 (c_X11_sign l0 ) (by omega) (Nat.le_refl 0) (Nat.le_refl 0) (Nat.le_of_ble_eq_true rfl) dX11_termOf_85 (fun x_85 I_85 J_85 h_85 => ?_)
            obtain ⟨rfl, rfl, h_85⟩ := h_85
            refine ww_icmp_eq hX (pc := 88) (tgt := 121) dX11_termOf_88 (by decide) (fun h_88 => ?_) (fun h_88 => ?_)
            · simp only [w32_mod] at h_88
              exfalso
              omega
            · simp only [w32_mod] at h_88
              refine ww_lload hX (pc := 91) dX11_termOf_91 rfl ?_
              refine ww_lconst hX (pc := 93) (x := 0) dX11_termOf_93 (by decide) ?_
              refine ww_lcmp hX (pc := 94) dX11_termOf_94 ?_
              refine ww_if_ne hX (pc := 95) (tgt := 121) dX11_termOf_95 (by decide) (fun h_95 => ?_) (fun h_95 => ?_)
              · simp only [w32_mod] at h_95
                have hnz := l_cmp_ne0 h_95
                refine ww_aload_n hX (pc := 121) dX11_termOf_121 rfl ?_
                refine ww_iload hX (pc := 122) dX11_termOf_122 rfl ?_
                refine ww_bipush hX (pc := 124) (x := 42) dX11_termOf_124 (by decide) ?_
                refine sI1 hX (pc := 126) sX11_190 (c_X11_sign l0 ) (by omega) (Nat.le_refl 0) (Nat.le_refl 0) (Nat.le_of_ble_eq_true rfl) dX11_termOf_126 (fun x_126 I_126 J_126 h_126 => ?_)
                obtain ⟨rfl, rfl, h_126⟩ := h_126
                refine ww_icmp_ne hX (pc := 129) (tgt := 139) dX11_termOf_129 (by decide) (fun h_129 => ?_) (fun h_129 => ?_)
                · simp only [w32_mod] at h_129
                  refine ww_iload hX (pc := 139) dX11_termOf_139 rfl ?_
                  refine ww_bipush hX (pc := 141) (x := 47) dX11_termOf_141 (by decide) ?_
                  refine sI1 hX (pc := 143) sX11_190 (c_X11_sign l0 ) (by omega) (Nat.le_refl 0) (Nat.le_refl 0) (Nat.le_of_ble_eq_true rfl) dX11_termOf_143 (fun x_143 I_143 J_143 h_143 => ?_)
                  obtain ⟨rfl, rfl, h_143⟩ := h_143
                  refine ww_icmp_ne hX (pc := 146) (tgt := 156) dX11_termOf_146 (by decide) (fun h_146 => ?_) (fun h_146 => ?_)
                  · simp only [w32_mod] at h_146
                    refine ww_lload_n hX (pc := 156) dX11_termOf_156 rfl ?_
                    refine ww_lload hX (pc := 157) dX11_termOf_157 rfl ?_
                    refine ww_lrem hX (pc := 159) dX11_termOf_159 (by first | exact hnz | decide) ?_
                    refine ww_iload_n hX (pc := 160) dX11_termOf_160 rfl ?_
                    refine vJ2 hX (pc := 161) sX11_233 (xs_49 hL) (c_X11_bounded l0 hL cI_76  (by omega) vI_76) (by omega) (Nat.le_refl 0) (Nat.le_refl 0) (Nat.le_of_ble_eq_true rfl) dX11_termOf_161 (fun x_161 I_161 J_161 h_161 => ?_)
                    have kJ_161 : Kp 49 73 Ja J_161 := Kp_tr kJ_76 h_161.2.1
                    have kI_161 : Ch [] [19, 21] Ia I_161 := Ch_tr kI_76 (Ch_wd h_161.1 (by decide) (by decide))
                    have cI_161 : RX I_161 := h_161.2.2.1
                    have qI_161 := RX_w cI_161
                    have f19_I_161 : I_161 49 19 = I_76 49 19 := h_161.1.2 19 (by decide)
                    have f20_I_161 : I_161 49 20 = I_76 49 20 := h_161.1.2 20 (by decide)
                    have vI_161 : EV I_161 t c d9 := h_161.2.2.2.1
                    have oI_161 := EV_o vI_161
                    have yI_161 := h_161.2.2.2.2
                    refine ww_lstore_n hX (pc := 164) (lv' := [some (kR (some 49)), some (kI la), some (kL x_161), none, some (kI x_59), some (kL x_76), none]) dX11_termOf_164 (by decide) rfl rfl ?_
                    refine ww_goto hX (pc := 165) (tgt := 6) dX11_termOf_165 (by decide) ?_
                    refine ww_sub [some (kR (some 49)), some (kI la), some (kL x_161), none, none, none, none] (aLe_s (aLe_s (aLe_s (aLe_n (aLe_n (aLe_n (aLe_n aLe_0))))))) ?_
                    exact ih_6 _ (by have hm9 := Sh0_e hq_6; omega) x_161 I_161 J_161 rfl ⟨kI_161, cI_161, kJ_161, ⟨d9, vI_161, hR9⟩⟩
                  · simp only [w32_mod] at h_146
                    exfalso
                    omega
                · simp only [w32_mod] at h_129
                  exfalso
                  omega
              · simp only [w32_mod] at h_95
                refine ww_aload_n hX (pc := 98) dX11_termOf_98 rfl ?_
                refine ww_aload_n hX (pc := 99) dX11_termOf_99 rfl ?_
                refine ww_getI hX (pc := 100) fX11_225 (by decide) (xs_49 hL) dX11_termOf_100 ?_
                refine ww_if_ne hX (pc := 103) (tgt := 110) dX11_termOf_103 (by decide) (fun h_103 => ?_) (fun h_103 => ?_)
                · simp only [w32_mod] at h_103
                  refine ww_iconst hX (pc := 110) (x := 1) dX11_termOf_110 rfl ?_
                  refine ww_goto hX (pc := 111) (tgt := 115) dX11_termOf_111 (by decide) ?_
                  refine ww_putZ hX (pc := 115) (fun h9 => absurd h9 (by decide)) gX11_225 rfl (by decide) (xs_49 hL) dX11_termOf_115 ?_
                  refine ww_nmH (fun I_115 eI_115 => ?_)
                  have kI_115 : Ch [] [19, 21] Ia I_115 := by rw [eI_115]; exact Ch_f kI_76 (by decide)
                  have cI_115 : RX I_115 := by rw [eI_115]; exact RX_f cI_76 (by decide)
                  have qI_115 := RX_w cI_115
                  have f19_I_115 : I_115 49 19 = I_76 49 19 := by rw [eI_115, up2_n _ _ (Or.inr (by decide))]
                  have f20_I_115 : I_115 49 20 = I_76 49 20 := by rw [eI_115, up2_n _ _ (Or.inr (by decide))]
                  have vI_115 : EV I_115 t c d9 := EV_st vI_76 (by rw [eI_115, up2_off _ _ _ (by decide)]) (by omega) (by omega) (by omega)
                  have oI_115 := EV_o vI_115
                  refine ww_lconst hX (pc := 118) (x := 1) dX11_termOf_118 (by decide) ?_
                  refine ww_lstore hX (pc := 119) (lv' := [some (kR (some 49)), some (kI la), some (kL v9), none, some (kI x_59), some (kL 1), none]) dX11_termOf_119 (by decide) rfl rfl ?_
                  refine ww_aload_n hX (pc := 121) dX11_termOf_121 rfl ?_
                  refine ww_iload hX (pc := 122) dX11_termOf_122 rfl ?_
                  refine ww_bipush hX (pc := 124) (x := 42) dX11_termOf_124 (by decide) ?_
                  refine sI1 hX (pc := 126) sX11_190 (c_X11_sign l0 ) (by omega) (Nat.le_refl 0) (Nat.le_refl 0) (Nat.le_of_ble_eq_true rfl) dX11_termOf_126 (fun x_126 I_126 J_126 h_126 => ?_)
                  obtain ⟨rfl, rfl, h_126⟩ := h_126
                  refine ww_icmp_ne hX (pc := 129) (tgt := 139) dX11_termOf_129 (by decide) (fun h_129 => ?_) (fun h_129 => ?_)
                  · simp only [w32_mod] at h_129
                    refine ww_iload hX (pc := 139) dX11_termOf_139 rfl ?_
                    refine ww_bipush hX (pc := 141) (x := 47) dX11_termOf_141 (by decide) ?_
                    refine sI1 hX (pc := 143) sX11_190 (c_X11_sign l0 ) (by omega) (Nat.le_refl 0) (Nat.le_refl 0) (Nat.le_of_ble_eq_true rfl) dX11_termOf_143 (fun x_143 I_143 J_143 h_143 => ?_)
                    obtain ⟨rfl, rfl, h_143⟩ := h_143
                    refine ww_icmp_ne hX (pc := 146) (tgt := 156) dX11_termOf_146 (by decide) (fun h_146 => ?_) (fun h_146 => ?_)
                    · simp only [w32_mod] at h_146
                      refine ww_lload_n hX (pc := 156) dX11_termOf_156 rfl ?_
                      refine ww_lload hX (pc := 157) dX11_termOf_157 rfl ?_
                      refine ww_lrem hX (pc := 159) dX11_termOf_159 (by first | exact hnz | decide) ?_
                      refine ww_iload_n hX (pc := 160) dX11_termOf_160 rfl ?_
                      refine vJ2 hX (pc := 161) sX11_233 (xs_49 hL) (c_X11_bounded l0 hL cI_115  (by omega) vI_115) (by omega) (Nat.le_refl 0) (Nat.le_refl 0) (Nat.le_of_ble_eq_true rfl) dX11_termOf_161 (fun x_161 I_161 J_161 h_161 => ?_)
                      have kJ_161 : Kp 49 73 Ja J_161 := Kp_tr kJ_76 h_161.2.1
                      have kI_161 : Ch [] [19, 21] Ia I_161 := Ch_tr kI_115 (Ch_wd h_161.1 (by decide) (by decide))
                      have cI_161 : RX I_161 := h_161.2.2.1
                      have qI_161 := RX_w cI_161
                      have f19_I_161 : I_161 49 19 = I_115 49 19 := h_161.1.2 19 (by decide)
                      have f20_I_161 : I_161 49 20 = I_115 49 20 := h_161.1.2 20 (by decide)
                      have vI_161 : EV I_161 t c d9 := h_161.2.2.2.1
                      have oI_161 := EV_o vI_161
                      have yI_161 := h_161.2.2.2.2
                      refine ww_lstore_n hX (pc := 164) (lv' := [some (kR (some 49)), some (kI la), some (kL x_161), none, some (kI x_59), some (kL 1), none]) dX11_termOf_164 (by decide) rfl rfl ?_
                      refine ww_goto hX (pc := 165) (tgt := 6) dX11_termOf_165 (by decide) ?_
                      refine ww_sub [some (kR (some 49)), some (kI la), some (kL x_161), none, none, none, none] (aLe_s (aLe_s (aLe_s (aLe_n (aLe_n (aLe_n (aLe_n aLe_0))))))) ?_
                      exact ih_6 _ (by have hm9 := Sh0_e hq_6; omega) x_161 I_161 J_161 rfl ⟨kI_161, cI_161, kJ_161, ⟨d9, vI_161, hR9⟩⟩
                    · simp only [w32_mod] at h_146
                      exfalso
                      omega
                  · simp only [w32_mod] at h_129
                    exfalso
                    omega
                · simp only [w32_mod] at h_103
                  refine ww_iload_n hX (pc := 106) dX11_termOf_106 rfl ?_
                  refine ww_if_eq hX (pc := 107) (tgt := 114) dX11_termOf_107 (by decide) (fun h_107 => ?_) (fun h_107 => ?_)
                  · simp only [w32_mod] at h_107
                    refine ww_iconst hX (pc := 114) (x := 0) dX11_termOf_114 rfl ?_
                    refine ww_putZ hX (pc := 115) (fun h9 => absurd h9 (by decide)) gX11_225 rfl (by decide) (xs_49 hL) dX11_termOf_115 ?_
                    refine ww_nmH (fun I_115 eI_115 => ?_)
                    have kI_115 : Ch [] [19, 21] Ia I_115 := by rw [eI_115]; exact Ch_f kI_76 (by decide)
                    have cI_115 : RX I_115 := by rw [eI_115]; exact RX_f cI_76 (by decide)
                    have qI_115 := RX_w cI_115
                    have f19_I_115 : I_115 49 19 = I_76 49 19 := by rw [eI_115, up2_n _ _ (Or.inr (by decide))]
                    have f20_I_115 : I_115 49 20 = I_76 49 20 := by rw [eI_115, up2_n _ _ (Or.inr (by decide))]
                    have vI_115 : EV I_115 t c d9 := EV_st vI_76 (by rw [eI_115, up2_off _ _ _ (by decide)]) (by omega) (by omega) (by omega)
                    have oI_115 := EV_o vI_115
                    refine ww_lconst hX (pc := 118) (x := 1) dX11_termOf_118 (by decide) ?_
                    refine ww_lstore hX (pc := 119) (lv' := [some (kR (some 49)), some (kI la), some (kL v9), none, some (kI x_59), some (kL 1), none]) dX11_termOf_119 (by decide) rfl rfl ?_
                    refine ww_aload_n hX (pc := 121) dX11_termOf_121 rfl ?_
                    refine ww_iload hX (pc := 122) dX11_termOf_122 rfl ?_
                    refine ww_bipush hX (pc := 124) (x := 42) dX11_termOf_124 (by decide) ?_
                    refine sI1 hX (pc := 126) sX11_190 (c_X11_sign l0 ) (by omega) (Nat.le_refl 0) (Nat.le_refl 0) (Nat.le_of_ble_eq_true rfl) dX11_termOf_126 (fun x_126 I_126 J_126 h_126 => ?_)
                    obtain ⟨rfl, rfl, h_126⟩ := h_126
                    refine ww_icmp_ne hX (pc := 129) (tgt := 139) dX11_termOf_129 (by decide) (fun h_129 => ?_) (fun h_129 => ?_)
                    · simp only [w32_mod] at h_129
                      refine ww_iload hX (pc := 139) dX11_termOf_139 rfl ?_
                      refine ww_bipush hX (pc := 141) (x := 47) dX11_termOf_141 (by decide) ?_
                      refine sI1 hX (pc := 143) sX11_190 (c_X11_sign l0 ) (by omega) (Nat.le_refl 0) (Nat.le_refl 0) (Nat.le_of_ble_eq_true rfl) dX11_termOf_143 (fun x_143 I_143 J_143 h_143 => ?_)
                      obtain ⟨rfl, rfl, h_143⟩ := h_143
                      refine ww_icmp_ne hX (pc := 146) (tgt := 156) dX11_termOf_146 (by decide) (fun h_146 => ?_) (fun h_146 => ?_)
                      · simp only [w32_mod] at h_146
                        refine ww_lload_n hX (pc := 156) dX11_termOf_156 rfl ?_
                        refine ww_lload hX (pc := 157) dX11_termOf_157 rfl ?_
                        refine ww_lrem hX (pc := 159) dX11_termOf_159 (by first | exact hnz | decide) ?_
                        refine ww_iload_n hX (pc := 160) dX11_termOf_160 rfl ?_
                        refine vJ2 hX (pc := 161) sX11_233 (xs_49 hL) (c_X11_bounded l0 hL cI_115  (by omega) vI_115) (by omega) (Nat.le_refl 0) (Nat.le_refl 0) (Nat.le_of_ble_eq_true rfl) dX11_termOf_161 (fun x_161 I_161 J_161 h_161 => ?_)
                        have kJ_161 : Kp 49 73 Ja J_161 := Kp_tr kJ_76 h_161.2.1
                        have kI_161 : Ch [] [19, 21] Ia I_161 := Ch_tr kI_115 (Ch_wd h_161.1 (by decide) (by decide))
                        have cI_161 : RX I_161 := h_161.2.2.1
                        have qI_161 := RX_w cI_161
                        have f19_I_161 : I_161 49 19 = I_115 49 19 := h_161.1.2 19 (by decide)
                        have f20_I_161 : I_161 49 20 = I_115 49 20 := h_161.1.2 20 (by decide)
                        have vI_161 : EV I_161 t c d9 := h_161.2.2.2.1
                        have oI_161 := EV_o vI_161
                        have yI_161 := h_161.2.2.2.2
                        refine ww_lstore_n hX (pc := 164) (lv' := [some (kR (some 49)), some (kI la), some (kL x_161), none, some (kI x_59), some (kL 1), none]) dX11_termOf_164 (by decide) rfl rfl ?_
                        refine ww_goto hX (pc := 165) (tgt := 6) dX11_termOf_165 (by decide) ?_
                        refine ww_sub [some (kR (some 49)), some (kI la), some (kL x_161), none, none, none, none] (aLe_s (aLe_s (aLe_s (aLe_n (aLe_n (aLe_n (aLe_n aLe_0))))))) ?_
                        exact ih_6 _ (by have hm9 := Sh0_e hq_6; omega) x_161 I_161 J_161 rfl ⟨kI_161, cI_161, kJ_161, ⟨d9, vI_161, hR9⟩⟩
                      · simp only [w32_mod] at h_146
                        exfalso
                        omega
                    · simp only [w32_mod] at h_129
                      exfalso
                      omega
                  · simp only [w32_mod] at h_107
                    refine ww_iconst hX (pc := 110) (x := 1) dX11_termOf_110 rfl ?_
                    refine ww_goto hX (pc := 111) (tgt := 115) dX11_termOf_111 (by decide) ?_
                    refine ww_putZ hX (pc := 115) (fun h9 => absurd h9 (by decide)) gX11_225 rfl (by decide) (xs_49 hL) dX11_termOf_115 ?_
                    refine ww_nmH (fun I_115 eI_115 => ?_)
                    have kI_115 : Ch [] [19, 21] Ia I_115 := by rw [eI_115]; exact Ch_f kI_76 (by decide)
                    have cI_115 : RX I_115 := by rw [eI_115]; exact RX_f cI_76 (by decide)
                    have qI_115 := RX_w cI_115
                    have f19_I_115 : I_115 49 19 = I_76 49 19 := by rw [eI_115, up2_n _ _ (Or.inr (by decide))]
                    have f20_I_115 : I_115 49 20 = I_76 49 20 := by rw [eI_115, up2_n _ _ (Or.inr (by decide))]
                    have vI_115 : EV I_115 t c d9 := EV_st vI_76 (by rw [eI_115, up2_off _ _ _ (by decide)]) (by omega) (by omega) (by omega)
                    have oI_115 := EV_o vI_115
                    refine ww_lconst hX (pc := 118) (x := 1) dX11_termOf_118 (by decide) ?_
                    refine ww_lstore hX (pc := 119) (lv' := [some (kR (some 49)), some (kI la), some (kL v9), none, some (kI x_59), some (kL 1), none]) dX11_termOf_119 (by decide) rfl rfl ?_
                    refine ww_aload_n hX (pc := 121) dX11_termOf_121 rfl ?_
                    refine ww_iload hX (pc := 122) dX11_termOf_122 rfl ?_
                    refine ww_bipush hX (pc := 124) (x := 42) dX11_termOf_124 (by decide) ?_
                    refine sI1 hX (pc := 126) sX11_190 (c_X11_sign l0 ) (by omega) (Nat.le_refl 0) (Nat.le_refl 0) (Nat.le_of_ble_eq_true rfl) dX11_termOf_126 (fun x_126 I_126 J_126 h_126 => ?_)
                    obtain ⟨rfl, rfl, h_126⟩ := h_126
                    refine ww_icmp_ne hX (pc := 129) (tgt := 139) dX11_termOf_129 (by decide) (fun h_129 => ?_) (fun h_129 => ?_)
                    · simp only [w32_mod] at h_129
                      refine ww_iload hX (pc := 139) dX11_termOf_139 rfl ?_
                      refine ww_bipush hX (pc := 141) (x := 47) dX11_termOf_141 (by decide) ?_
                      refine sI1 hX (pc := 143) sX11_190 (c_X11_sign l0 ) (by omega) (Nat.le_refl 0) (Nat.le_refl 0) (Nat.le_of_ble_eq_true rfl) dX11_termOf_143 (fun x_143 I_143 J_143 h_143 => ?_)
                      obtain ⟨rfl, rfl, h_143⟩ := h_143
                      refine ww_icmp_ne hX (pc := 146) (tgt := 156) dX11_termOf_146 (by decide) (fun h_146 => ?_) (fun h_146 => ?_)
                      · simp only [w32_mod] at h_146
                        refine ww_lload_n hX (pc := 156) dX11_termOf_156 rfl ?_
                        refine ww_lload hX (pc := 157) dX11_termOf_157 rfl ?_
                        refine ww_lrem hX (pc := 159) dX11_termOf_159 (by first | exact hnz | decide) ?_
                        refine ww_iload_n hX (pc := 160) dX11_termOf_160 rfl ?_
                        refine vJ2 hX (pc := 161) sX11_233 (xs_49 hL) (c_X11_bounded l0 hL cI_115  (by omega) vI_115) (by omega) (Nat.le_refl 0) (Nat.le_refl 0) (Nat.le_of_ble_eq_true rfl) dX11_termOf_161 (fun x_161 I_161 J_161 h_161 => ?_)
                        have kJ_161 : Kp 49 73 Ja J_161 := Kp_tr kJ_76 h_161.2.1
                        have kI_161 : Ch [] [19, 21] Ia I_161 := Ch_tr kI_115 (Ch_wd h_161.1 (by decide) (by decide))
                        have cI_161 : RX I_161 := h_161.2.2.1
                        have qI_161 := RX_w cI_161
                        have f19_I_161 : I_161 49 19 = I_115 49 19 := h_161.1.2 19 (by decide)
                        have f20_I_161 : I_161 49 20 = I_115 49 20 := h_161.1.2 20 (by decide)
                        have vI_161 : EV I_161 t c d9 := h_161.2.2.2.1
                        have oI_161 := EV_o vI_161
                        have yI_161 := h_161.2.2.2.2
                        refine ww_lstore_n hX (pc := 164) (lv' := [some (kR (some 49)), some (kI la), some (kL x_161), none, some (kI x_59), some (kL 1), none]) dX11_termOf_164 (by decide) rfl rfl ?_
                        refine ww_goto hX (pc := 165) (tgt := 6) dX11_termOf_165 (by decide) ?_
                        refine ww_sub [some (kR (some 49)), some (kI la), some (kL x_161), none, none, none, none] (aLe_s (aLe_s (aLe_s (aLe_n (aLe_n (aLe_n (aLe_n aLe_0))))))) ?_
                        exact ih_6 _ (by have hm9 := Sh0_e hq_6; omega) x_161 I_161 J_161 rfl ⟨kI_161, cI_161, kJ_161, ⟨d9, vI_161, hR9⟩⟩
                      · simp only [w32_mod] at h_146
                        exfalso
                        omega
                    · simp only [w32_mod] at h_129
                      exfalso
                      omega
  exact hl_6 _ x_2 I_2 J_2 rfl ⟨kI_2, cI_2, kJ_2, ⟨a1, vI_2, hRs⟩⟩
set_option maxHeartbeats 4000000 in
set_option maxRecDepth 20000 in
theorem c_X11_sumOf (l0 : Launch) {Ia Ja : aI1} {Ra : aR1} {Sa : aS1} (hL : LY Ra Sa) (hQ : RX Ia) {la : Int} (hla : 0 ≤ la ∧ la ≤ 1) {t a : Nat} {c : Nat → Int} (hE : EV Ia t c a) {m b : Nat} (hG : GSum c m a b) (hrec : ∀ mp, m = mp + 1 → ESum l0 mp)  : CT l0 (3 * m + 5) 0 0 mX11_sumOf [kR (some 49), kI la] Ia Ja Ra Sa (cJ (fun x I' J' => Ch [] [19, 21] Ia I' ∧ Kp 49 73 Ja J' ∧ RX I' ∧ EV I' t c b ∧ True) Ra Sa) := by
  refine ct_in pn_X11 (Nat.le_of_ble_eq_true rfl) (fun X hX hT hIn => ?_)
  have hX : aK l0 X cX11_sumOf 7 RX11 (some .long) (3 * m + 5) 0 0 := hX
  change WW X 0 [some (kR (some 49)), some (kI la), none, none, none, none, none] [] Ia Ja Ra Sa 0 0
  have qIa := RX_w hQ
  have oIa := EV_o hE
  rw [GSum_eq] at hG
  obtain ⟨a1, hG1, hRs⟩ := hG
  refine ww_aload_n hX (pc := 0) dX11_sumOf_0 rfl ?_
  refine ww_iload_n hX (pc := 1) dX11_sumOf_1 rfl ?_
  refine vJ1 hX (pc := 2) sX11_229 (xs_49 hL) (c_X11_termOf l0 hL hQ  (by omega) hE hG1 hrec) (by omega) (Nat.le_refl 0) (Nat.le_refl 0) (Nat.le_of_ble_eq_true rfl) dX11_sumOf_2 (fun x_2 I_2 J_2 h_2 => ?_)
  have kJ_2 : Kp 49 73 Ja J_2 := Kp_tr (Kp_rf (a := 49) (b := 73)) h_2.2.1
  have kI_2 : Ch [] [19, 21] Ia I_2 := Ch_tr Ch_rf (Ch_wd h_2.1 (by decide) (by decide))
  have cI_2 : RX I_2 := h_2.2.2.1
  have qI_2 := RX_w cI_2
  have f20_I_2 : I_2 49 20 = Ia 49 20 := h_2.1.2 20 (by decide)
  have vI_2 : EV I_2 t c a1 := h_2.2.2.2.1
  have oI_2 := EV_o vI_2
  have yI_2 := h_2.2.2.2.2
  refine ww_lstore_n hX (pc := 5) (lv' := [some (kR (some 49)), some (kI la), some (kL x_2), none, none, none, none]) dX11_sumOf_5 (by decide) rfl rfl ?_
  have hl_6 : ∀ (n_6 : Nat) (v9 : Int) (I6 : aI1) (J6 : aI1), (400 * t + b - I6 49 19).toNat = n_6 → (Ch [] [19, 21] Ia I6 ∧ RX I6 ∧ Kp 49 73 Ja J6 ∧ ∃ p9 : Nat, EV I6 t c p9 ∧ ∃ n, GRest (GSeq (GPm c m) opT c) opS c n p9 b) → WW X 6 [some (kR (some 49)), some (kI la), some (kL v9), none, none, none, none] [] I6 J6 Ra Sa 0 0 := by
    intro n_6
    induction n_6 using Nat.strongRecOn with
    | ind n_6 ih_6 =>
      intro v9 I6 J6 hm_6 hv_6
      have hq_6 := Sh0_i hm_6
      clear hm_6
      obtain ⟨kI6, cI6, kJ6, p9, vI6, hR6⟩ := hv_6
      have qI6 := RX_w cI6
      have oI6 := EV_o vI6
      refine ww_aload_n hX (pc := 6) dX11_sumOf_6 rfl ?_
      refine ww_aload_n hX (pc := 7) dX11_sumOf_7 rfl ?_
      refine ww_getI hX (pc := 8) fX11_215 (by decide) (xs_49 hL) dX11_sumOf_8 ?_
      refine vI1 hX (pc := 11) sX11_218 (xs_49 hL) (c_X11_codeAt l0 hL cI6  rfl vI6) (by omega) (Nat.le_refl 0) (Nat.le_refl 0) (Nat.le_of_ble_eq_true rfl) dX11_sumOf_11 (fun x_11 I_11 J_11 h_11 => ?_)
      obtain ⟨rfl, rfl, h_11⟩ := h_11
      refine ww_bipush hX (pc := 14) (x := 43) dX11_sumOf_14 (by decide) ?_
      refine sI1 hX (pc := 16) sX11_190 (c_X11_sign l0 ) (by omega) (Nat.le_refl 0) (Nat.le_refl 0) (Nat.le_of_ble_eq_true rfl) dX11_sumOf_16 (fun x_16 I_16 J_16 h_16 => ?_)
      obtain ⟨rfl, rfl, h_16⟩ := h_16
      refine ww_icmp_eq hX (pc := 19) (tgt := 38) dX11_sumOf_19 (by decide) (fun h_19 => ?_) (fun h_19 => ?_)
      · simp only [w32_mod] at h_19
        have hop : opS (c p9) := by unfold opS; omega
        obtain ⟨d9, hT9, hR9⟩ := GRest_op hR6 hop
        have hz9 := EV_z (i := p9) vI6 (by unfold opS at hop; omega)
        have hlt9 := GSeq_lt (GPm_lt m) _ _ hT9
        have hle9 := GRest_l2 (GSeq_lt (GPm_lt m)) hR9
        refine ww_aload_n hX (pc := 38) dX11_sumOf_38 rfl ?_
        refine ww_aload_n hX (pc := 39) dX11_sumOf_39 rfl ?_
        refine ww_getI hX (pc := 40) fX11_215 (by decide) (xs_49 hL) dX11_sumOf_40 ?_
        refine vI1 hX (pc := 43) sX11_218 (xs_49 hL) (c_X11_codeAt l0 hL cI6  rfl vI6) (by omega) (Nat.le_refl 0) (Nat.le_refl 0) (Nat.le_of_ble_eq_true rfl) dX11_sumOf_43 (fun x_43 I_43 J_43 h_43 => ?_)
        obtain ⟨rfl, rfl, h_43⟩ := h_43
        refine ww_bipush hX (pc := 46) (x := 43) dX11_sumOf_46 (by decide) ?_
        refine sI1 hX (pc := 48) sX11_190 (c_X11_sign l0 ) (by omega) (Nat.le_refl 0) (Nat.le_refl 0) (Nat.le_of_ble_eq_true rfl) dX11_sumOf_48 (fun x_48 I_48 J_48 h_48 => ?_)
        obtain ⟨rfl, rfl, h_48⟩ := h_48
        refine ww_icmp_ne hX (pc := 51) (tgt := 58) dX11_sumOf_51 (by decide) (fun h_51 => ?_) (fun h_51 => ?_)
        · simp only [w32_mod] at h_51
          exfalso
          omega
        · simp only [w32_mod] at h_51
          refine ww_iconst hX (pc := 54) (x := 1) dX11_sumOf_54 rfl ?_
          refine ww_goto hX (pc := 55) (tgt := 59) dX11_sumOf_55 (by decide) ?_
          refine ww_istore hX (pc := 59) (lv' := [some (kR (some 49)), some (kI la), some (kL v9), none, some (kI 1), none, none]) dX11_sumOf_59 (by decide) rfl rfl ?_
          refine ww_aload_n hX (pc := 61) dX11_sumOf_61 rfl ?_
          refine ww_dupR hX (pc := 62) dX11_sumOf_62 ?_
          refine ww_getI hX (pc := 63) fX11_215 (by decide) (xs_49 hL) dX11_sumOf_63 ?_
          refine ww_iconst hX (pc := 66) (x := 1) dX11_sumOf_66 rfl ?_
          refine ww_iadd hX (pc := 67) dX11_sumOf_67 ?_
          refine ww_putI hX (pc := 68) (fun h9 => absurd h9 (by decide)) gX11_215 rfl (xs_49 hL) dX11_sumOf_68 ?_
          refine ww_nmH (fun I_68 eI_68 => ?_)
          have kI_68 : Ch [] [19, 21] Ia I_68 := by rw [eI_68]; exact Ch_f kI6 (by decide)
          have cI_68 : RX I_68 := by rw [eI_68]; exact RX_f cI6 (by decide)
          have qI_68 := RX_w cI_68
          have f20_I_68 : I_68 49 20 = I6 49 20 := by rw [eI_68, up2_n _ _ (Or.inr (by decide))]
          have f21_I_68 : I_68 49 21 = I6 49 21 := by rw [eI_68, up2_n _ _ (Or.inr (by decide))]
          have vI_68 : EV I_68 t c (p9 + 1) := EV_st vI6 (by rw [eI_68, up2_off _ _ _ (by decide)]) (by omega) (by rw [eI_68, up2_s]; omega) (by omega)
          have oI_68 := EV_o vI_68
          refine ww_aload_n hX (pc := 71) dX11_sumOf_71 rfl ?_
          refine ww_iload_n hX (pc := 72) dX11_sumOf_72 rfl ?_
          refine vJ1 hX (pc := 73) sX11_229 (xs_49 hL) (c_X11_termOf l0 hL cI_68  (by omega) vI_68 hT9 hrec) (by omega) (Nat.le_refl 0) (Nat.le_refl 0) (Nat.le_of_ble_eq_true rfl) dX11_sumOf_73 (fun x_73 I_73 J_73 h_73 => ?_)
          have kJ_73 : Kp 49 73 Ja J_73 := Kp_tr kJ6 h_73.2.1
          have kI_73 : Ch [] [19, 21] Ia I_73 := Ch_tr kI_68 (Ch_wd h_73.1 (by decide) (by decide))
          have cI_73 : RX I_73 := h_73.2.2.1
          have qI_73 := RX_w cI_73
          have f20_I_73 : I_73 49 20 = I_68 49 20 := h_73.1.2 20 (by decide)
          have vI_73 : EV I_73 t c d9 := h_73.2.2.2.1
          have oI_73 := EV_o vI_73
          have yI_73 := h_73.2.2.2.2
          refine ww_lstore hX (pc := 76) (lv' := [some (kR (some 49)), some (kI la), some (kL v9), none, some (kI 1), some (kL x_73), none]) dX11_sumOf_76 (by decide) rfl rfl ?_
          refine ww_aload_n hX (pc := 78) dX11_sumOf_78 rfl ?_
          refine ww_iload hX (pc := 79) dX11_sumOf_79 rfl ?_
          refine ww_if_eq hX (pc := 81) (tgt := 91) dX11_sumOf_81 (by decide) (fun h_81 => ?_) (fun h_81 => ?_)
          · simp only [w32_mod] at h_81
            exfalso
            omega
          · simp only [w32_mod] at h_81
            refine ww_lload_n hX (pc := 84) dX11_sumOf_84 rfl ?_
            refine ww_lload hX (pc := 85) dX11_sumOf_85 rfl ?_
            refine ww_ladd hX (pc := 87) dX11_sumOf_87 ?_
            refine ww_goto hX (pc := 88) (tgt := 95) dX11_sumOf_88 (by decide) ?_
            refine ww_iload_n hX (pc := 95) dX11_sumOf_95 rfl ?_
            refine vJ2 hX (pc := 96) sX11_233 (xs_49 hL) (c_X11_bounded l0 hL cI_73  (by omega) vI_73) (by omega) (Nat.le_refl 0) (Nat.le_refl 0) (Nat.le_of_ble_eq_true rfl) dX11_sumOf_96 (fun x_96 I_96 J_96 h_96 => ?_)
            have kJ_96 : Kp 49 73 Ja J_96 := Kp_tr kJ_73 h_96.2.1
            have kI_96 : Ch [] [19, 21] Ia I_96 := Ch_tr kI_73 (Ch_wd h_96.1 (by decide) (by decide))
            have cI_96 : RX I_96 := h_96.2.2.1
            have qI_96 := RX_w cI_96
            have f19_I_96 : I_96 49 19 = I_73 49 19 := h_96.1.2 19 (by decide)
            have f20_I_96 : I_96 49 20 = I_73 49 20 := h_96.1.2 20 (by decide)
            have vI_96 : EV I_96 t c d9 := h_96.2.2.2.1
            have oI_96 := EV_o vI_96
            have yI_96 := h_96.2.2.2.2
            refine ww_lstore_n hX (pc := 99) (lv' := [some (kR (some 49)), some (kI la), some (kL x_96), none, some (kI 1), some (kL x_73), none]) dX11_sumOf_99 (by decide) rfl rfl ?_
            refine ww_goto hX (pc := 100) (tgt := 6) dX11_sumOf_100 (by decide) ?_
            refine ww_sub [some (kR (some 49)), some (kI la), some (kL x_96), none, none, none, none] (aLe_s (aLe_s (aLe_s (aLe_n (aLe_n (aLe_n (aLe_n aLe_0))))))) ?_
            exact ih_6 _ (by have hm9 := Sh0_e hq_6; omega) x_96 I_96 J_96 rfl ⟨kI_96, cI_96, kJ_96, ⟨d9, vI_96, hR9⟩⟩
      · simp only [w32_mod] at h_19
        refine ww_aload_n hX (pc := 22) dX11_sumOf_22 rfl ?_
        refine ww_aload_n hX (pc := 23) dX11_sumOf_23 rfl ?_
        refine ww_getI hX (pc := 24) fX11_215 (by decide) (xs_49 hL) dX11_sumOf_24 ?_
        refine vI1 hX (pc := 27) sX11_218 (xs_49 hL) (c_X11_codeAt l0 hL cI6  rfl vI6) (by omega) (Nat.le_refl 0) (Nat.le_refl 0) (Nat.le_of_ble_eq_true rfl) dX11_sumOf_27 (fun x_27 I_27 J_27 h_27 => ?_)
        obtain ⟨rfl, rfl, h_27⟩ := h_27
        refine ww_bipush hX (pc := 30) (x := 45) dX11_sumOf_30 (by decide) ?_
        refine sI1 hX (pc := 32) sX11_190 (c_X11_sign l0 ) (by omega) (Nat.le_refl 0) (Nat.le_refl 0) (Nat.le_of_ble_eq_true rfl) dX11_sumOf_32 (fun x_32 I_32 J_32 h_32 => ?_)
        obtain ⟨rfl, rfl, h_32⟩ := h_32
        refine ww_icmp_ne hX (pc := 35) (tgt := 103) dX11_sumOf_35 (by decide) (fun h_35 => ?_) (fun h_35 => ?_)
        · simp only [w32_mod] at h_35
          refine ww_lload_n hX (pc := 103) dX11_sumOf_103 rfl ?_
          refine rJ hX (pc := 104) hT (Nat.le_refl 0) (Nat.le_refl 0) dX11_sumOf_104 ?_
          exact ⟨kI6, kJ6, cI6, EV_to vI6 (GRest_no hR6 (by unfold opS; omega)), trivial⟩
        · simp only [w32_mod] at h_35
          have hop : opS (c p9) := by unfold opS; omega
          obtain ⟨d9, hT9, hR9⟩ := GRest_op hR6 hop
          have hz9 := EV_z (i := p9) vI6 (by unfold opS at hop; omega)
          have hlt9 := GSeq_lt (GPm_lt m) _ _ hT9
          have hle9 := GRest_l2 (GSeq_lt (GPm_lt m)) hR9
          refine ww_aload_n hX (pc := 38) dX11_sumOf_38 rfl ?_
          refine ww_aload_n hX (pc := 39) dX11_sumOf_39 rfl ?_
          refine ww_getI hX (pc := 40) fX11_215 (by decide) (xs_49 hL) dX11_sumOf_40 ?_
          refine vI1 hX (pc := 43) sX11_218 (xs_49 hL) (c_X11_codeAt l0 hL cI6  rfl vI6) (by omega) (Nat.le_refl 0) (Nat.le_refl 0) (Nat.le_of_ble_eq_true rfl) dX11_sumOf_43 (fun x_43 I_43 J_43 h_43 => ?_)
          obtain ⟨rfl, rfl, h_43⟩ := h_43
          refine ww_bipush hX (pc := 46) (x := 43) dX11_sumOf_46 (by decide) ?_
          refine sI1 hX (pc := 48) sX11_190 (c_X11_sign l0 ) (by omega) (Nat.le_refl 0) (Nat.le_refl 0) (Nat.le_of_ble_eq_true rfl) dX11_sumOf_48 (fun x_48 I_48 J_48 h_48 => ?_)
          obtain ⟨rfl, rfl, h_48⟩ := h_48
          refine ww_icmp_ne hX (pc := 51) (tgt := 58) dX11_sumOf_51 (by decide) (fun h_51 => ?_) (fun h_51 => ?_)
          · simp only [w32_mod] at h_51
            refine ww_iconst hX (pc := 58) (x := 0) dX11_sumOf_58 rfl ?_
            refine ww_istore hX (pc := 59) (lv' := [some (kR (some 49)), some (kI la), some (kL v9), none, some (kI 0), none, none]) dX11_sumOf_59 (by decide) rfl rfl ?_
            refine ww_aload_n hX (pc := 61) dX11_sumOf_61 rfl ?_
            refine ww_dupR hX (pc := 62) dX11_sumOf_62 ?_
            refine ww_getI hX (pc := 63) fX11_215 (by decide) (xs_49 hL) dX11_sumOf_63 ?_
            refine ww_iconst hX (pc := 66) (x := 1) dX11_sumOf_66 rfl ?_
            refine ww_iadd hX (pc := 67) dX11_sumOf_67 ?_
            refine ww_putI hX (pc := 68) (fun h9 => absurd h9 (by decide)) gX11_215 rfl (xs_49 hL) dX11_sumOf_68 ?_
            refine ww_nmH (fun I_68 eI_68 => ?_)
            have kI_68 : Ch [] [19, 21] Ia I_68 := by rw [eI_68]; exact Ch_f kI6 (by decide)
            have cI_68 : RX I_68 := by rw [eI_68]; exact RX_f cI6 (by decide)
            have qI_68 := RX_w cI_68
            have f20_I_68 : I_68 49 20 = I6 49 20 := by rw [eI_68, up2_n _ _ (Or.inr (by decide))]
            have f21_I_68 : I_68 49 21 = I6 49 21 := by rw [eI_68, up2_n _ _ (Or.inr (by decide))]
            have vI_68 : EV I_68 t c (p9 + 1) := EV_st vI6 (by rw [eI_68, up2_off _ _ _ (by decide)]) (by omega) (by rw [eI_68, up2_s]; omega) (by omega)
            have oI_68 := EV_o vI_68
            refine ww_aload_n hX (pc := 71) dX11_sumOf_71 rfl ?_
            refine ww_iload_n hX (pc := 72) dX11_sumOf_72 rfl ?_
            refine vJ1 hX (pc := 73) sX11_229 (xs_49 hL) (c_X11_termOf l0 hL cI_68  (by omega) vI_68 hT9 hrec) (by omega) (Nat.le_refl 0) (Nat.le_refl 0) (Nat.le_of_ble_eq_true rfl) dX11_sumOf_73 (fun x_73 I_73 J_73 h_73 => ?_)
            have kJ_73 : Kp 49 73 Ja J_73 := Kp_tr kJ6 h_73.2.1
            have kI_73 : Ch [] [19, 21] Ia I_73 := Ch_tr kI_68 (Ch_wd h_73.1 (by decide) (by decide))
            have cI_73 : RX I_73 := h_73.2.2.1
            have qI_73 := RX_w cI_73
            have f20_I_73 : I_73 49 20 = I_68 49 20 := h_73.1.2 20 (by decide)
            have vI_73 : EV I_73 t c d9 := h_73.2.2.2.1
            have oI_73 := EV_o vI_73
            have yI_73 := h_73.2.2.2.2
            refine ww_lstore hX (pc := 76) (lv' := [some (kR (some 49)), some (kI la), some (kL v9), none, some (kI 0), some (kL x_73), none]) dX11_sumOf_76 (by decide) rfl rfl ?_
            refine ww_aload_n hX (pc := 78) dX11_sumOf_78 rfl ?_
            refine ww_iload hX (pc := 79) dX11_sumOf_79 rfl ?_
            refine ww_if_eq hX (pc := 81) (tgt := 91) dX11_sumOf_81 (by decide) (fun h_81 => ?_) (fun h_81 => ?_)
            · simp only [w32_mod] at h_81
              refine ww_lload_n hX (pc := 91) dX11_sumOf_91 rfl ?_
              refine ww_lload hX (pc := 92) dX11_sumOf_92 rfl ?_
              refine ww_lsub hX (pc := 94) dX11_sumOf_94 ?_
              refine ww_iload_n hX (pc := 95) dX11_sumOf_95 rfl ?_
              refine vJ2 hX (pc := 96) sX11_233 (xs_49 hL) (c_X11_bounded l0 hL cI_73  (by omega) vI_73) (by omega) (Nat.le_refl 0) (Nat.le_refl 0) (Nat.le_of_ble_eq_true rfl) dX11_sumOf_96 (fun x_96 I_96 J_96 h_96 => ?_)
              have kJ_96 : Kp 49 73 Ja J_96 := Kp_tr kJ_73 h_96.2.1
              have kI_96 : Ch [] [19, 21] Ia I_96 := Ch_tr kI_73 (Ch_wd h_96.1 (by decide) (by decide))
              have cI_96 : RX I_96 := h_96.2.2.1
              have qI_96 := RX_w cI_96
              have f19_I_96 : I_96 49 19 = I_73 49 19 := h_96.1.2 19 (by decide)
              have f20_I_96 : I_96 49 20 = I_73 49 20 := h_96.1.2 20 (by decide)
              have vI_96 : EV I_96 t c d9 := h_96.2.2.2.1
              have oI_96 := EV_o vI_96
              have yI_96 := h_96.2.2.2.2
              refine ww_lstore_n hX (pc := 99) (lv' := [some (kR (some 49)), some (kI la), some (kL x_96), none, some (kI 0), some (kL x_73), none]) dX11_sumOf_99 (by decide) rfl rfl ?_
              refine ww_goto hX (pc := 100) (tgt := 6) dX11_sumOf_100 (by decide) ?_
              refine ww_sub [some (kR (some 49)), some (kI la), some (kL x_96), none, none, none, none] (aLe_s (aLe_s (aLe_s (aLe_n (aLe_n (aLe_n (aLe_n aLe_0))))))) ?_
              exact ih_6 _ (by have hm9 := Sh0_e hq_6; omega) x_96 I_96 J_96 rfl ⟨kI_96, cI_96, kJ_96, ⟨d9, vI_96, hR9⟩⟩
            · simp only [w32_mod] at h_81
              exfalso
              omega
          · simp only [w32_mod] at h_51
            exfalso
            omega
  exact hl_6 _ x_2 I_2 J_2 rfl ⟨kI_2, cI_2, kJ_2, ⟨a1, vI_2, hRs⟩⟩
theorem c_ESum (l0 : Launch) : ∀ m : Nat, ESum l0 m
  | 0 => fun hL hQ _ hla _ _ _ hE _ hG => c_X11_sumOf l0 hL hQ hla hE (m := 0) hG (fun mp e => absurd e (by omega))
  | m + 1 => fun hL hQ _ hla _ _ _ hE _ hG => c_X11_sumOf l0 hL hQ hla hE (m := m + 1) hG (fun mp e => by
      obtain rfl : m = mp := by omega
      exact c_ESum l0 m)
