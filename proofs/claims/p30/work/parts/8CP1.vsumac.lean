theorem zS_lt {c vl : Nat → Int} (m t l : Nat) (q : Nat × Nat × zD) (h : zS c vl m t l = .inr q) : t < q.1 := zSeq_lt (zTm_lt m) t l q h
theorem zG_lt {P : zP} {a b : Nat} {D : zD} (hP : ∀ t l q, P t l = .inr q → t < q.1) (h : zG P a b D) : a < b := by
  obtain ⟨l, l', h⟩ := h
  exact hP _ _ _ h
theorem zG_br {c vl : Nat → Int} {m a b : Nat} {D : zD} (h : zG (zPart (zSu c vl m) c vl) a b D) (hc : c a = 191) : ∃ mp, m = mp + 1 ∧ ∃ d, zG (zS c vl mp) (a + 1) d D ∧ c d = 193 ∧ b = d + 1 := by
  obtain ⟨l, l', h⟩ := h
  rw [zPart_b hc] at h
  cases m with
  | zero => cases h
  | succ m =>
    have h : zBr (some (zS c vl m)) c 193 a l = .inr (b, l', D) := h
    cases hp : zS c vl m (a + 1) l with
    | inl f => rw [zBr_f hp] at h; cases h
    | inr p =>
      obtain ⟨p1, p2, p3⟩ := p
      by_cases hc2 : c p1 = 193
      · rw [zBr_s hp hc2] at h
        cases h
        exact ⟨m, rfl, p1, ⟨l, _, hp⟩, hc2, rfl⟩
      · rw [zBr_n hp hc2] at h; cases h
theorem zG_lf {c vl : Nat → Int} {m a b : Nat} {D : zD} (h : zG (zPart (zSu c vl m) c vl) a b D) (hc : ¬ c a = 191) : b = a + 1 ∧ ((c a = 50 ∧ vl a ≤ 1000 ∧ ∀ en, D en = some (vl a)) ∨ (¬ c a = 50 ∧ 6 ≤ c a ∧ c a ≤ 13 ∧ ∀ en, D en = some (en (c a - 6).toNat))) := by
  obtain ⟨l, l', h⟩ := h
  rw [zPart_l hc] at h
  by_cases h1 : c a = 50 ∧ vl a ≤ 1000
  · by_cases hl : l < 50
    · rw [zLe_s (zLf_n h1) hl] at h
      cases h
      exact ⟨rfl, Or.inl ⟨h1.1, h1.2, fun _ => rfl⟩⟩
    · rw [zLe_f (zLf_n h1) hl] at h; cases h
  · by_cases h2 : 6 ≤ c a ∧ c a ≤ 13
    · by_cases hl : l < 50
      · have hw : zLf c vl a = some (fun en => some (en (c a - 6).toNat)) := zLf_w h2
        rw [zLe_s hw hl] at h
        cases h
        exact ⟨rfl, Or.inr ⟨by omega, h2.1, h2.2, fun _ => rfl⟩⟩
      · have hw : zLf c vl a = some (fun en => some (en (c a - 6).toNat)) := zLf_w h2
        rw [zLe_f hw hl] at h; cases h
    · rw [zLe_0 (zLf_0 h1 h2)] at h; cases h
/-- values, what is asked: of law t -/
def zEV (I : aI1) (t : Nat) (vl : Nat → Int) (en : zE) : Prop := (∀ j : Nat, (j : Int) < I 51 (311 + t) → I 51 (2717 + 400 * t + j) = vl j ∧ 0 ≤ vl j) ∧ (∀ j, j < 8 → I 60 j = en j ∧ -1000 ≤ en j ∧ en j ≤ 1000)
theorem zEV_ch {rs fs : List Nat} {I I' : aI1} {t : Nat} {vl : Nat → Int} {en : zE} (h : Ch rs fs I I') (h1 : 51 ∉ rs) (h2 : 60 ∉ rs) (hv : zEV I t vl en) : zEV I' t vl en := by
  unfold zEV at hv ⊢
  rw [h.1 51 (by decide) h1, h.1 60 (by decide) h2]
  exact hv
def zB1 (I : aI1) : Prop := I 49 21 = 0 ∨ I 49 21 = 1
theorem zB1_e {I I' : aI1} (h : zB1 I) (e : I' 49 21 = I 49 21) : zB1 I' := by unfold zB1 at h ⊢; rw [e]; exact h
set_option maxHeartbeats 4000000 in
set_option maxRecDepth 20000 in
theorem c6_X11_bounded (l0 : Launch) {Ia Ja : aI1} {Ra : aR1} {Sa : aS1} (hL : LY Ra Sa) (hQ : RX Ia) {v la : Int} (hla : 0 ≤ la ∧ la ≤ 1) {t a : Nat} {c : Nat → Int} (hE : EV Ia t c a) {vl : Nat → Int} {en : zE} (hV : zEV Ia t vl en) (hB : zB1 Ia)  : CT l0 0 0 0 mX11_bounded [kR (some 49), kL v, kI la] Ia Ja Ra Sa (cJ (fun x I' J' => Ch [] [19, 21] Ia I' ∧ Kp 49 73 Ja J' ∧ RX I' ∧ EV I' t c a ∧ zB1 I' ∧ zBnd la (Ia 49 21) v x (I' 49 21)) Ra Sa) := by
  refine ct_in pn_X11 (Nat.le_of_ble_eq_true rfl) (fun X hX hT hIn => ?_)
  have hX : aK l0 X cX11_bounded 4 RX11 (some .long) 0 0 0 := hX
  change WW X 0 [some (kR (some 49)), some (kL v), none, some (kI la)] [] Ia Ja Ra Sa 0 0
  have qIa := RX_w hQ
  have oIa := EV_o hE
  have w64v : -2000000000000000000 ≤ v → v ≤ 2000000000000000000 → w64 v = v := fun g1 g2 => w64_id (by omega) (by omega)
  refine ww_iload_n hX (pc := 0) dX11_bounded_0 rfl ?_
  refine ww_if_eq hX (pc := 1) (tgt := 25) dX11_bounded_1 (by decide) (fun h_1 => ?_) (fun h_1 => ?_)
  · simp only [w32_mod] at h_1
    refine ww_aload_n hX (pc := 25) dX11_bounded_25 rfl ?_
    refine ww_getI hX (pc := 26) fX11_225 (by decide) (xs_49 hL) dX11_bounded_26 ?_
    refine ww_if_eq hX (pc := 29) (tgt := 36) dX11_bounded_29 (by decide) (fun h_29 => ?_) (fun h_29 => ?_)
    · simp only [w32_mod] at h_29
      have hB0 := hB
      unfold zB1 at hB0
      refine ww_lload_n hX (pc := 36) dX11_bounded_36 rfl ?_
      refine rJ hX (pc := 37) hT (Nat.le_refl 0) (Nat.le_refl 0) dX11_bounded_37 ?_
      exact ⟨Ch_rf, (Kp_rf (a := 49) (b := 73)), hQ, hE, hB, ⟨fun g => by omega, fun g g2 => by omega, fun g g2 g3 g4 => ⟨fun g5 => by omega, fun g5 => by omega⟩⟩⟩
    · simp only [w32_mod] at h_29
      have hB0 := hB
      unfold zB1 at hB0
      refine ww_lconst hX (pc := 32) (x := 0) dX11_bounded_32 (by decide) ?_
      refine ww_goto hX (pc := 33) (tgt := 37) dX11_bounded_33 (by decide) ?_
      refine rJ hX (pc := 37) hT (Nat.le_refl 0) (Nat.le_refl 0) dX11_bounded_37 ?_
      exact ⟨Ch_rf, (Kp_rf (a := 49) (b := 73)), hQ, hE, hB, ⟨fun g => by omega, fun g g2 => by omega, fun g g2 g3 g4 => ⟨fun g5 => by omega, fun g5 => by omega⟩⟩⟩
  · simp only [w32_mod] at h_1
    refine ww_lload_n hX (pc := 4) dX11_bounded_4 rfl ?_
    refine ww_ldc2 hX (pc := 5) (x := 1000000000) dX11_bounded_5 tb_1423 ?_
    have hl8 := l_cmp_v v 1000000000
    have hk8 : w64 1000000000 = 1000000000 := rfl
    refine ww_lcmp hX (pc := 8) dX11_bounded_8 ?_
    refine ww_if_gt hX (pc := 9) (tgt := 20) dX11_bounded_9 (by decide) (fun h_9 => ?_) (fun h_9 => ?_)
    · simp only [w32_mod] at h_9
      refine ww_aload_n hX (pc := 20) dX11_bounded_20 rfl ?_
      refine ww_iconst hX (pc := 21) (x := 1) dX11_bounded_21 rfl ?_
      refine ww_putZ hX (pc := 22) (fun h9 => absurd h9 (by decide)) gX11_225 rfl (by decide) (xs_49 hL) dX11_bounded_22 ?_
      refine ww_nmH (fun I_22 eI_22 => ?_)
      have kI_22 : Ch [] [19, 21] Ia I_22 := by rw [eI_22]; exact Ch_f Ch_rf (by decide)
      have cI_22 : RX I_22 := by rw [eI_22]; exact RX_f hQ (by decide)
      have qI_22 := RX_w cI_22
      have f19_I_22 : I_22 49 19 = Ia 49 19 := by rw [eI_22, up2_n _ _ (Or.inr (by decide))]
      have f20_I_22 : I_22 49 20 = Ia 49 20 := by rw [eI_22, up2_n _ _ (Or.inr (by decide))]
      have w21 : I_22 49 21 = 1 := by rw [eI_22, up2_s]
      have vI_22 : EV I_22 t c a := EV_st hE (by rw [eI_22, up2_off _ _ _ (by decide)]) (by omega) (by omega) (by omega)
      have oI_22 := EV_o vI_22
      have bI_22 : zB1 I_22 := by unfold zB1; rw [eI_22, up2_s]; omega
      refine ww_aload_n hX (pc := 25) dX11_bounded_25 rfl ?_
      refine ww_getI hX (pc := 26) fX11_225 (by decide) (xs_49 hL) dX11_bounded_26 ?_
      refine ww_if_eq hX (pc := 29) (tgt := 36) dX11_bounded_29 (by decide) (fun h_29 => ?_) (fun h_29 => ?_)
      · simp only [w32_mod] at h_29
        have hB0 := hB
        unfold zB1 at hB0
        refine ww_lload_n hX (pc := 36) dX11_bounded_36 rfl ?_
        refine rJ hX (pc := 37) hT (Nat.le_refl 0) (Nat.le_refl 0) dX11_bounded_37 ?_
        exact ⟨kI_22, (Kp_rf (a := 49) (b := 73)), cI_22, vI_22, bI_22, ⟨fun g => by omega, fun g g2 => by omega, fun g g2 g3 g4 => ⟨fun g5 => by omega, fun g5 => by omega⟩⟩⟩
      · simp only [w32_mod] at h_29
        have hB0 := hB
        unfold zB1 at hB0
        refine ww_lconst hX (pc := 32) (x := 0) dX11_bounded_32 (by decide) ?_
        refine ww_goto hX (pc := 33) (tgt := 37) dX11_bounded_33 (by decide) ?_
        refine rJ hX (pc := 37) hT (Nat.le_refl 0) (Nat.le_refl 0) dX11_bounded_37 ?_
        exact ⟨kI_22, (Kp_rf (a := 49) (b := 73)), cI_22, vI_22, bI_22, ⟨fun g => by omega, fun g g2 => by omega, fun g g2 g3 g4 => ⟨fun g5 => by omega, fun g5 => by omega⟩⟩⟩
    · simp only [w32_mod] at h_9
      refine ww_lload_n hX (pc := 12) dX11_bounded_12 rfl ?_
      refine ww_ldc2 hX (pc := 13) (x := (-1000000000)) dX11_bounded_13 tb_1424 ?_
      have hl16 := l_cmp_v v (-1000000000)
      have hk16 : w64 (-1000000000) = (-1000000000) := rfl
      refine ww_lcmp hX (pc := 16) dX11_bounded_16 ?_
      refine ww_if_ge hX (pc := 17) (tgt := 25) dX11_bounded_17 (by decide) (fun h_17 => ?_) (fun h_17 => ?_)
      · simp only [w32_mod] at h_17
        refine ww_aload_n hX (pc := 25) dX11_bounded_25 rfl ?_
        refine ww_getI hX (pc := 26) fX11_225 (by decide) (xs_49 hL) dX11_bounded_26 ?_
        refine ww_if_eq hX (pc := 29) (tgt := 36) dX11_bounded_29 (by decide) (fun h_29 => ?_) (fun h_29 => ?_)
        · simp only [w32_mod] at h_29
          have hB0 := hB
          unfold zB1 at hB0
          refine ww_lload_n hX (pc := 36) dX11_bounded_36 rfl ?_
          refine rJ hX (pc := 37) hT (Nat.le_refl 0) (Nat.le_refl 0) dX11_bounded_37 ?_
          exact ⟨Ch_rf, (Kp_rf (a := 49) (b := 73)), hQ, hE, hB, ⟨fun g => by omega, fun g g2 => by omega, fun g g2 g3 g4 => ⟨fun g5 => by omega, fun g5 => by omega⟩⟩⟩
        · simp only [w32_mod] at h_29
          have hB0 := hB
          unfold zB1 at hB0
          refine ww_lconst hX (pc := 32) (x := 0) dX11_bounded_32 (by decide) ?_
          refine ww_goto hX (pc := 33) (tgt := 37) dX11_bounded_33 (by decide) ?_
          refine rJ hX (pc := 37) hT (Nat.le_refl 0) (Nat.le_refl 0) dX11_bounded_37 ?_
          exact ⟨Ch_rf, (Kp_rf (a := 49) (b := 73)), hQ, hE, hB, ⟨fun g => by omega, fun g g2 => by omega, fun g g2 g3 g4 => ⟨fun g5 => by omega, fun g5 => by omega⟩⟩⟩
      · simp only [w32_mod] at h_17
        refine ww_aload_n hX (pc := 20) dX11_bounded_20 rfl ?_
        refine ww_iconst hX (pc := 21) (x := 1) dX11_bounded_21 rfl ?_
        refine ww_putZ hX (pc := 22) (fun h9 => absurd h9 (by decide)) gX11_225 rfl (by decide) (xs_49 hL) dX11_bounded_22 ?_
        refine ww_nmH (fun I_22 eI_22 => ?_)
        have kI_22 : Ch [] [19, 21] Ia I_22 := by rw [eI_22]; exact Ch_f Ch_rf (by decide)
        have cI_22 : RX I_22 := by rw [eI_22]; exact RX_f hQ (by decide)
        have qI_22 := RX_w cI_22
        have f19_I_22 : I_22 49 19 = Ia 49 19 := by rw [eI_22, up2_n _ _ (Or.inr (by decide))]
        have f20_I_22 : I_22 49 20 = Ia 49 20 := by rw [eI_22, up2_n _ _ (Or.inr (by decide))]
        have w21 : I_22 49 21 = 1 := by rw [eI_22, up2_s]
        have vI_22 : EV I_22 t c a := EV_st hE (by rw [eI_22, up2_off _ _ _ (by decide)]) (by omega) (by omega) (by omega)
        have oI_22 := EV_o vI_22
        have bI_22 : zB1 I_22 := by unfold zB1; rw [eI_22, up2_s]; omega
        refine ww_aload_n hX (pc := 25) dX11_bounded_25 rfl ?_
        refine ww_getI hX (pc := 26) fX11_225 (by decide) (xs_49 hL) dX11_bounded_26 ?_
        refine ww_if_eq hX (pc := 29) (tgt := 36) dX11_bounded_29 (by decide) (fun h_29 => ?_) (fun h_29 => ?_)
        · simp only [w32_mod] at h_29
          have hB0 := hB
          unfold zB1 at hB0
          refine ww_lload_n hX (pc := 36) dX11_bounded_36 rfl ?_
          refine rJ hX (pc := 37) hT (Nat.le_refl 0) (Nat.le_refl 0) dX11_bounded_37 ?_
          exact ⟨kI_22, (Kp_rf (a := 49) (b := 73)), cI_22, vI_22, bI_22, ⟨fun g => by omega, fun g g2 => by omega, fun g g2 g3 g4 => ⟨fun g5 => by omega, fun g5 => by omega⟩⟩⟩
        · simp only [w32_mod] at h_29
          have hB0 := hB
          unfold zB1 at hB0
          refine ww_lconst hX (pc := 32) (x := 0) dX11_bounded_32 (by decide) ?_
          refine ww_goto hX (pc := 33) (tgt := 37) dX11_bounded_33 (by decide) ?_
          refine rJ hX (pc := 37) hT (Nat.le_refl 0) (Nat.le_refl 0) dX11_bounded_37 ?_
          exact ⟨kI_22, (Kp_rf (a := 49) (b := 73)), cI_22, vI_22, bI_22, ⟨fun g => by omega, fun g g2 => by omega, fun g g2 g3 g4 => ⟨fun g5 => by omega, fun g5 => by omega⟩⟩⟩
