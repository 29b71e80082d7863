theorem zPl_G {P : Option zP} {S : zP} {c : Nat → Int} {t l : Nat} {q : Nat × Nat × zD} (h : zPl P S c t l = .inr q) : ∃ D, zPos P S c (zNt c 400 t 0).1 l = .inr (q.1, q.2.1, D) ∧ q.2.2 = if (zNt c 400 t 0).2 = 1 then zFl D else D := by
  unfold zPl at h
  cases hp : zPos P S c (zNt c 400 t 0).1 l with
  | inl f => rw [hp] at h; cases h
  | inr p =>
    rw [hp] at h
    cases h
    exact ⟨p.2.2, rfl, rfl⟩
theorem zPl_lt {c vl : Nat → Int} {m : Nat} (hP : ∀ mp, m = mp + 1 → ∀ t l q, zT c vl mp t l = .inr q → t < q.1) (t l : Nat) (q : Nat × Nat × zD) (h : zPl (zTu c vl m) (zS c vl m) c t l = .inr q) : t < q.1 := by
  obtain ⟨D, h1, -⟩ := zPl_G h
  have h2 := zPos_lt hP _ _ _ h1
  have h3 := zNt_le (c := c) 400 t 0
  omega
theorem zT_lt {c vl : Nat → Int} : ∀ (m t l : Nat) (q : Nat × Nat × zD), zT c vl m t l = .inr q → t < q.1
  | 0, t, l, q, h => zSeq_lt (zSeq_lt (zPl_lt (fun mp e => absurd e (by omega)))) t l q h
  | m + 1, t, l, q, h => zSeq_lt (zSeq_lt (zPl_lt (fun mp e => by
      obtain rfl : m = mp := by omega
      exact zT_lt m))) t l q h
theorem zPl_l {c vl : Nat → Int} (m t l : Nat) (q : Nat × Nat × zD) (h : zPl (zTu c vl m) (zS c vl m) c t l = .inr q) : t < q.1 := zPl_lt (fun mp _ => zT_lt mp) t l q h
theorem zBo_l {c vl : Nat → Int} (m t l : Nat) (q : Nat × Nat × zD) (h : zBo (zTu c vl m) (zS c vl m) c t l = .inr q) : t < q.1 := zSeq_lt (zPl_l m) t l q h
theorem zPos_l {c vl : Nat → Int} (m t l : Nat) (q : Nat × Nat × zD) (h : zPos (zTu c vl m) (zS c vl m) c t l = .inr q) : t < q.1 := zPos_lt (fun mp _ => zT_lt mp) t l q h
theorem zG_pb {c vl : Nat → Int} {m a b : Nat} {D : zD} (h : zG (zPos (zTu c vl m) (zS c vl m) c) a b D) (hc : c a = 140) : ∃ mp, m = mp + 1 ∧ ∃ d, zG (zT c vl mp) (a + 1) d D ∧ c d = 141 ∧ b = d + 1 := by
  obtain ⟨l, l', h⟩ := h
  rw [zPos_b hc] at h
  cases m with
  | zero => cases h
  | succ m =>
    have h : zBr (some (zT c vl m)) c 141 a l = .inr (b, l', D) := h
    cases hp : zT c vl m (a + 1) l with
    | inl f => rw [zBr_f hp] at h; cases h
    | inr p =>
      obtain ⟨p1, p2, p3⟩ := p
      by_cases hc2 : c p1 = 141
      · rw [zBr_s hp hc2] at h
        cases h
        exact ⟨m, rfl, p1, ⟨l, _, hp⟩, hc2, rfl⟩
      · rw [zBr_n hp hc2] at h; cases h
theorem zG_pc {c vl : Nat → Int} {m a b : Nat} {D : zD} (h : zG (zPos (zTu c vl m) (zS c vl m) c) a b D) (hc : ¬ c a = 140) : ∃ d D1 D2, zG (zS c vl m) a d D1 ∧ (160 ≤ c d ∧ c d ≤ 162) ∧ zG (zS c vl m) (d + 1) b D2 ∧ D = zJD (c d) D1 D2 := by
  obtain ⟨l, l', h⟩ := h
  rw [zPos_c hc] at h
  cases h1 : zS c vl m a l with
  | inl f => rw [zCm_f h1] at h; cases h
  | inr p =>
    obtain ⟨p1, p2, p3⟩ := p
    by_cases h2 : 160 ≤ c p1 ∧ c p1 ≤ 162
    · cases h3 : zS c vl m (p1 + 1) p2 with
      | inl f => rw [zCm_g h1 h2 h3] at h; cases h
      | inr r =>
        obtain ⟨r1, r2, r3⟩ := r
        rw [zCm_s h1 h2 h3] at h
        cases h
        exact ⟨p1, p3, r3, ⟨l, _, h1⟩, h2, ⟨p2, _, h3⟩, rfl⟩
    · rw [zCm_n h1 h2] at h; cases h
def zHN (c : Nat → Int) (p : Nat) (ng : Int) (t1 : Nat) (f : Int) : Prop := ∃ n, 400 ≤ n + p ∧ zNt c n p ng = (t1, f)
theorem zHN_op {c : Nat → Int} {p t1 : Nat} {ng f : Int} (h : zHN c p ng t1 f) (hc : c p = 5) (hp : p < 400) : zHN c (p + 1) (1 - ng) t1 f := by
  obtain ⟨n, hn, h⟩ := h
  obtain ⟨k, rfl⟩ : ∃ k, n = k + 1 := ⟨n - 1, by omega⟩
  rw [zNt_s hc] at h
  exact ⟨k, by omega, h⟩
theorem zHN_no {c : Nat → Int} {p t1 : Nat} {ng f : Int} (h : zHN c p ng t1 f) (hc : ¬ c p = 5) : p = t1 ∧ ng = f := by
  obtain ⟨n, hn, h⟩ := h
  rw [zNt_n hc] at h
  cases h
  exact ⟨rfl, rfl⟩
theorem zHN_le {c : Nat → Int} {p t1 : Nat} {ng f : Int} (h : zHN c p ng t1 f) : p ≤ t1 := by
  obtain ⟨n, hn, h⟩ := h
  have := zNt_le (c := c) n p ng
  rw [h] at this
  exact this
theorem zG_pl {c vl : Nat → Int} {m a b : Nat} {D : zD} (h : zG (zPl (zTu c vl m) (zS c vl m) c) a b D) : ∃ t1 f Dp, zHN c a 0 t1 f ∧ zG (zPos (zTu c vl m) (zS c vl m) c) t1 b Dp ∧ D = if f = 1 then zFl Dp else Dp := by
  obtain ⟨l, l', h⟩ := h
  obtain ⟨Dp, h1, h2⟩ := zPl_G h
  exact ⟨_, _, Dp, ⟨400, by omega, rfl⟩, ⟨l, l', h1⟩, h2⟩
theorem zSeq_nz {P : zP} {ops : List Int} {jn : Int → zD → zD → zD} {c : Nat → Int} (hP : ∀ t l q, P t l = .inr q → ¬ c t = 0) (t l : Nat) (q : Nat × Nat × zD) (h : zSeq P ops jn c t l = .inr q) : ¬ c t = 0 := by
  cases hp : P t l with
  | inl f => rw [zSeq_f hp] at h; cases h
  | inr r => exact hP _ _ _ hp
theorem zS_nz {c vl : Nat → Int} {m a b : Nat} {D : zD} (h : zG (zS c vl m) a b D) : ¬ c a = 0 := by
  obtain ⟨l, l', h⟩ := h
  refine zSeq_nz (zSeq_nz (P := zPart (zSu c vl m) c vl) (fun t l q h => ?_)) a l _ h
  by_cases hc : c t = 191
  · omega
  · rw [zPart_l hc] at h
    have := (zLe_G h).1
    rcases this with h9 | h9 <;> omega
set_option maxHeartbeats 4000000 in
set_option maxRecDepth 20000 in
theorem c6_X11_positiveOf (l0 : Launch) {Ia Ja : aI1} {Ra : aR1} {Sa : aS1} (hL : LY Ra Sa) (hQ : RX Ia) {la : Int} (hla : 0 ≤ la ∧ la ≤ 1) {t a : Nat} {c : Nat → Int} (hE : EV Ia t c a) {vl : Nat → Int} {en : zE} (hV : zEV Ia t vl en) (hB : zB1 Ia) {m b : Nat} {D : zD} (hG : zG (zPos (zTu c vl m) (zS c vl m) c) a b D) (hrec : ∀ mp, m = mp + 1 → VTest l0 mp)  : CT l0 (4 * m + 6) 0 0 mX11_positiveOf [kR (some 49), kI la] Ia Ja Ra Sa (cI (fun x I' J' => Ch [] [19, 21] Ia I' ∧ Kp 49 73 Ja J' ∧ RX I' ∧ EV I' t c b ∧ zB1 I' ∧ (0 ≤ x ∧ x ≤ 1) ∧ zRv la (Ia 49 21) (I' 49 21) x (D en)) Ra Sa) := by
  refine ct_in pn_X11 (Nat.le_of_ble_eq_true rfl) (fun X hX hT hIn => ?_)
  have hX : aK l0 X cX11_positiveOf 7 RX11 (some .boolean) (4 * m + 6) 0 0 := hX
  change WW X 0 [some (kR (some 49)), some (kI la), none, none, none, none, none] [] Ia Ja Ra Sa 0 0
  have qIa := RX_w hQ
  have oIa := EV_o hE
  refine ww_aload_n hX (pc := 0) dX11_positiveOf_0 rfl ?_
  refine ww_bipush hX (pc := 1) (x := 40) dX11_positiveOf_1 (by decide) ?_
  refine sI1 hX (pc := 3) sX11_190 (c_X11_sign l0 ) (by omega) (Nat.le_refl 0) (Nat.le_refl 0) (Nat.le_of_ble_eq_true rfl) dX11_positiveOf_3 (fun x_3 I_3 J_3 h_3 => ?_)
  obtain ⟨rfl, rfl, h_3⟩ := h_3
  refine vI1 hX (pc := 6) sX11_240 (xs_49 hL) (c_X11_passes0 l0 hL hQ  (by omega) (by omega) hE) (by omega) (Nat.le_refl 0) (Nat.le_refl 0) (Nat.le_of_ble_eq_true rfl) dX11_positiveOf_6 (fun x_6 I_6 J_6 h_6 => ?_)
  have kJ_6 : Kp 49 73 Ja J_6 := Kp_tr (Kp_rf (a := 49) (b := 73)) h_6.2.1
  have kI_6 : Ch [] [19, 21] Ia I_6 := Ch_tr Ch_rf (Ch_wd h_6.1 (by decide) (by decide))
  have cI_6 : RX I_6 := h_6.2.2.1
  have qI_6 := RX_w cI_6
  have f20_I_6 : I_6 49 20 = Ia 49 20 := h_6.1.2 20 (by decide)
  have f21_I_6 : I_6 49 21 = Ia 49 21 := h_6.1.2 21 (by decide)
  have vI_6 : EV I_6 t c (a + x_6.toNat) := h_6.2.2.2.1
  have oI_6 := EV_o vI_6
  have yI_6 := h_6.2.2.2.2
  have bI_6 : zB1 I_6 := zB1_e hB f21_I_6
  refine ww_if_eq hX (pc := 9) (tgt := 30) dX11_positiveOf_9 (by decide) (fun h_9 => ?_) (fun h_9 => ?_)
  · simp only [w32_mod] at h_9
    obtain ⟨d9, D1, D2, hGa, hop9, hGb, hD9⟩ := zG_pc hG (by have := PS_0 yI_6.2 (by omega); omega)
    have hz := EV_z (i := d9 + 1) hE (zS_nz hGb)
    have w6 : EV I_6 t c a := EV_to vI_6 (by omega)
    refine ww_aload_n hX (pc := 30) dX11_positiveOf_30 rfl ?_
    refine ww_iload_n hX (pc := 31) dX11_positiveOf_31 rfl ?_
    refine vJ1 hX (pc := 32) sX11_243 (xs_49 hL) (c_VSum l0 m hL cI_6 (by omega) w6 (zEV_ch kI_6 (by decide) (by decide) hV) bI_6 hGa) (by omega) (Nat.le_refl 0) (Nat.le_refl 0) (Nat.le_of_ble_eq_true rfl) dX11_positiveOf_32 (fun x_32 I_32 J_32 h_32 => ?_)
    have kJ_32 : Kp 49 73 Ja J_32 := Kp_tr kJ_6 h_32.2.1
    have kI_32 : Ch [] [19, 21] Ia I_32 := Ch_tr kI_6 (Ch_wd h_32.1 (by decide) (by decide))
    have cI_32 : RX I_32 := h_32.2.2.1
    have qI_32 := RX_w cI_32
    have f20_I_32 : I_32 49 20 = I_6 49 20 := h_32.1.2 20 (by decide)
    have vI_32 : EV I_32 t c d9 := h_32.2.2.2.1
    have oI_32 := EV_o vI_32
    have yI_32 := h_32.2.2.2.2
    have bI_32 : zB1 I_32 := yI_32.1
    refine ww_lstore_n hX (pc := 35) (lv' := [some (kR (some 49)), some (kI la), some (kL x_32), none, none, none, none]) dX11_positiveOf_35 (by decide) rfl rfl ?_
    refine ww_aload_n hX (pc := 36) dX11_positiveOf_36 rfl ?_
    refine ww_aload_n hX (pc := 37) dX11_positiveOf_37 rfl ?_
    refine ww_getI hX (pc := 38) fX11_215 (by decide) (xs_49 hL) dX11_positiveOf_38 ?_
    refine vI1 hX (pc := 41) sX11_218 (xs_49 hL) (c_X11_codeAt l0 hL cI_32  rfl vI_32) (by omega) (Nat.le_refl 0) (Nat.le_refl 0) (Nat.le_of_ble_eq_true rfl) dX11_positiveOf_41 (fun x_41 I_41 J_41 h_41 => ?_)
    obtain ⟨rfl, rfl, h_41⟩ := h_41
    refine ww_istore hX (pc := 44) (lv' := [some (kR (some 49)), some (kI la), some (kL x_32), none, some (kI x_41), none, none]) dX11_positiveOf_44 (by decide) rfl rfl ?_
    refine ww_aload_n hX (pc := 46) dX11_positiveOf_46 rfl ?_
    refine ww_dupR hX (pc := 47) dX11_positiveOf_47 ?_
    refine ww_getI hX (pc := 48) fX11_215 (by decide) (xs_49 hL) dX11_positiveOf_48 ?_
    refine ww_iconst hX (pc := 51) (x := 1) dX11_positiveOf_51 rfl ?_
    refine ww_iadd hX (pc := 52) dX11_positiveOf_52 ?_
    refine ww_putI hX (pc := 53) (fun h9 => absurd h9 (by decide)) gX11_215 rfl (xs_49 hL) dX11_positiveOf_53 ?_
    refine ww_nmH (fun I_53 eI_53 => ?_)
    have kI_53 : Ch [] [19, 21] Ia I_53 := by rw [eI_53]; exact Ch_f kI_32 (by decide)
    have cI_53 : RX I_53 := by rw [eI_53]; exact RX_f cI_32 (by decide)
    have qI_53 := RX_w cI_53
    have f20_I_53 : I_53 49 20 = I_32 49 20 := by rw [eI_53, up2_n _ _ (Or.inr (by decide))]
    have f21_I_53 : I_53 49 21 = I_32 49 21 := by rw [eI_53, up2_n _ _ (Or.inr (by decide))]
    have vI_53 : EV I_53 t c (d9 + 1) := EV_st vI_32 (by rw [eI_53, up2_off _ _ _ (by decide)]) (by omega) (by rw [eI_53, up2_s]; omega) (by omega)
    have oI_53 := EV_o vI_53
    have bI_53 : zB1 I_53 := zB1_e bI_32 f21_I_53
    refine ww_aload_n hX (pc := 56) dX11_positiveOf_56 rfl ?_
    refine ww_iload_n hX (pc := 57) dX11_positiveOf_57 rfl ?_
    refine vJ1 hX (pc := 58) sX11_243 (xs_49 hL) (c_VSum l0 m hL cI_53 (by omega) vI_53 (zEV_ch kI_53 (by decide) (by decide) hV) bI_53 hGb) (by omega) (Nat.le_refl 0) (Nat.le_refl 0) (Nat.le_of_ble_eq_true rfl) dX11_positiveOf_58 (fun x_58 I_58 J_58 h_58 => ?_)
    have kJ_58 : Kp 49 73 Ja J_58 := Kp_tr kJ_32 h_58.2.1
    have kI_58 : Ch [] [19, 21] Ia I_58 := Ch_tr kI_53 (Ch_wd h_58.1 (by decide) (by decide))
    have cI_58 : RX I_58 := h_58.2.2.1
    have qI_58 := RX_w cI_58
    have f20_I_58 : I_58 49 20 = I_53 49 20 := h_58.1.2 20 (by decide)
    have vI_58 : EV I_58 t c b := h_58.2.2.2.1
    have oI_58 := EV_o vI_58
    have yI_58 := h_58.2.2.2.2
    have bI_58 : zB1 I_58 := yI_58.1
    refine ww_lstore hX (pc := 61) (lv' := [some (kR (some 49)), some (kI la), some (kL x_32), none, some (kI x_41), some (kL x_58), none]) dX11_positiveOf_61 (by decide) rfl rfl ?_
    refine ww_iload_n hX (pc := 63) dX11_positiveOf_63 rfl ?_
    refine ww_if_eq hX (pc := 64) (tgt := 125) dX11_positiveOf_64 (by decide) (fun h_64 => ?_) (fun h_64 => ?_)
    · simp only [w32_mod] at h_64
      refine ww_iconst hX (pc := 125) (x := 0) dX11_positiveOf_125 rfl ?_
      refine rZ hX (pc := 126) hT (Nat.le_refl 0) (Nat.le_refl 0) dX11_positiveOf_126 (by decide) ?_
      exact ⟨kI_58, kJ_58, cI_58, EV_to vI_58 (by omega), bI_58, by omega, (by
          have hw8 := fun (g1 : -1000000000 ≤ x_32) (g2 : x_32 ≤ 1000000000) => w64_id (x := x_32) (by omega) (by omega)
          have hw9 := fun (g1 : -1000000000 ≤ x_58) (g2 : x_58 ≤ 1000000000) => w64_id (x := x_58) (by omega) (by omega)
          have hl9 := l_cmp_v x_32 x_58
          rw [hD9, zJD_2]
          refine zRv_cm hla (by have h9 := hB; unfold zB1 at h9; exact h9) (zRv_cg yI_32.2 (by omega) rfl) (zRv_cg yI_58.2 (by omega) (by omega)) hop9 (fun g1 g2 g3 g4 g5 g6 => ?_)
          have := hw8 g1 g2
          have := hw9 g3 g4
          have := h_41.1
          refine ⟨by omega, fun g => ?_, fun g => ?_, fun g => ?_⟩ <;> omega)⟩
    · simp only [w32_mod] at h_64
      refine ww_aload_n hX (pc := 67) dX11_positiveOf_67 rfl ?_
      refine ww_getI hX (pc := 68) fX11_225 (by decide) (xs_49 hL) dX11_positiveOf_68 ?_
      refine ww_if_ne hX (pc := 71) (tgt := 125) dX11_positiveOf_71 (by decide) (fun h_71 => ?_) (fun h_71 => ?_)
      · simp only [w32_mod] at h_71
        refine ww_iconst hX (pc := 125) (x := 0) dX11_positiveOf_125 rfl ?_
        refine rZ hX (pc := 126) hT (Nat.le_refl 0) (Nat.le_refl 0) dX11_positiveOf_126 (by decide) ?_
        exact ⟨kI_58, kJ_58, cI_58, EV_to vI_58 (by omega), bI_58, by omega, (by
            have hw8 := fun (g1 : -1000000000 ≤ x_32) (g2 : x_32 ≤ 1000000000) => w64_id (x := x_32) (by omega) (by omega)
            have hw9 := fun (g1 : -1000000000 ≤ x_58) (g2 : x_58 ≤ 1000000000) => w64_id (x := x_58) (by omega) (by omega)
            have hl9 := l_cmp_v x_32 x_58
            rw [hD9, zJD_2]
            refine zRv_cm hla (by have h9 := hB; unfold zB1 at h9; exact h9) (zRv_cg yI_32.2 (by omega) rfl) (zRv_cg yI_58.2 (by omega) (by omega)) hop9 (fun g1 g2 g3 g4 g5 g6 => ?_)
            have := hw8 g1 g2
            have := hw9 g3 g4
            have := h_41.1
            refine ⟨by omega, fun g => ?_, fun g => ?_, fun g => ?_⟩ <;> omega)⟩
      · simp only [w32_mod] at h_71
        refine ww_iload hX (pc := 74) dX11_positiveOf_74 rfl ?_
        refine ww_bipush hX (pc := 76) (x := 60) dX11_positiveOf_76 (by decide) ?_
        refine sI1 hX (pc := 78) sX11_190 (c_X11_sign l0 ) (by omega) (Nat.le_refl 0) (Nat.le_refl 0) (Nat.le_of_ble_eq_true rfl) dX11_positiveOf_78 (fun x_78 I_78 J_78 h_78 => ?_)
        obtain ⟨rfl, rfl, h_78⟩ := h_78
        refine ww_icmp_ne hX (pc := 81) (tgt := 94) dX11_positiveOf_81 (by decide) (fun h_81 => ?_) (fun h_81 => ?_)
        · simp only [w32_mod] at h_81
          refine ww_iload hX (pc := 94) dX11_positiveOf_94 rfl ?_
          refine ww_bipush hX (pc := 96) (x := 62) dX11_positiveOf_96 (by decide) ?_
          refine sI1 hX (pc := 98) sX11_190 (c_X11_sign l0 ) (by omega) (Nat.le_refl 0) (Nat.le_refl 0) (Nat.le_of_ble_eq_true rfl) dX11_positiveOf_98 (fun x_98 I_98 J_98 h_98 => ?_)
          obtain ⟨rfl, rfl, h_98⟩ := h_98
          refine ww_icmp_ne hX (pc := 101) (tgt := 114) dX11_positiveOf_101 (by decide) (fun h_101 => ?_) (fun h_101 => ?_)
          · simp only [w32_mod] at h_101
            refine ww_lload_n hX (pc := 114) dX11_positiveOf_114 rfl ?_
            refine ww_lload hX (pc := 115) dX11_positiveOf_115 rfl ?_
            refine ww_lcmp hX (pc := 117) dX11_positiveOf_117 ?_
            refine ww_if_ne hX (pc := 118) (tgt := 125) dX11_positiveOf_118 (by decide) (fun h_118 => ?_) (fun h_118 => ?_)
            · simp only [w32_mod] at h_118
              refine ww_iconst hX (pc := 125) (x := 0) dX11_positiveOf_125 rfl ?_
              refine rZ hX (pc := 126) hT (Nat.le_refl 0) (Nat.le_refl 0) dX11_positiveOf_126 (by decide) ?_
              exact ⟨kI_58, kJ_58, cI_58, EV_to vI_58 (by omega), bI_58, by omega, (by
                  have hw8 := fun (g1 : -1000000000 ≤ x_32) (g2 : x_32 ≤ 1000000000) => w64_id (x := x_32) (by omega) (by omega)
                  have hw9 := fun (g1 : -1000000000 ≤ x_58) (g2 : x_58 ≤ 1000000000) => w64_id (x := x_58) (by omega) (by omega)
                  have hl9 := l_cmp_v x_32 x_58
                  rw [hD9, zJD_2]
                  refine zRv_cm hla (by have h9 := hB; unfold zB1 at h9; exact h9) (zRv_cg yI_32.2 (by omega) rfl) (zRv_cg yI_58.2 (by omega) (by omega)) hop9 (fun g1 g2 g3 g4 g5 g6 => ?_)
                  have := hw8 g1 g2
                  have := hw9 g3 g4
                  have := h_41.1
                  refine ⟨by omega, fun g => ?_, fun g => ?_, fun g => ?_⟩ <;> omega)⟩
            · simp only [w32_mod] at h_118
              refine ww_iconst hX (pc := 121) (x := 1) dX11_positiveOf_121 rfl ?_
              refine ww_goto hX (pc := 122) (tgt := 126) dX11_positiveOf_122 (by decide) ?_
              refine rZ hX (pc := 126) hT (Nat.le_refl 0) (Nat.le_refl 0) dX11_positiveOf_126 (by decide) ?_
              exact ⟨kI_58, kJ_58, cI_58, EV_to vI_58 (by omega), bI_58, by omega, (by
                  have hw8 := fun (g1 : -1000000000 ≤ x_32) (g2 : x_32 ≤ 1000000000) => w64_id (x := x_32) (by omega) (by omega)
                  have hw9 := fun (g1 : -1000000000 ≤ x_58) (g2 : x_58 ≤ 1000000000) => w64_id (x := x_58) (by omega) (by omega)
                  have hl9 := l_cmp_v x_32 x_58
                  rw [hD9, zJD_2]
                  refine zRv_cm hla (by have h9 := hB; unfold zB1 at h9; exact h9) (zRv_cg yI_32.2 (by omega) rfl) (zRv_cg yI_58.2 (by omega) (by omega)) hop9 (fun g1 g2 g3 g4 g5 g6 => ?_)
                  have := hw8 g1 g2
                  have := hw9 g3 g4
                  have := h_41.1
                  refine ⟨by omega, fun g => ?_, fun g => ?_, fun g => ?_⟩ <;> omega)⟩
          · simp only [w32_mod] at h_101
            refine ww_lload_n hX (pc := 104) dX11_positiveOf_104 rfl ?_
            refine ww_lload hX (pc := 105) dX11_positiveOf_105 rfl ?_
            refine ww_lcmp hX (pc := 107) dX11_positiveOf_107 ?_
            refine ww_if_le hX (pc := 108) (tgt := 125) dX11_positiveOf_108 (by decide) (fun h_108 => ?_) (fun h_108 => ?_)
            · simp only [w32_mod] at h_108
              refine ww_iconst hX (pc := 125) (x := 0) dX11_positiveOf_125 rfl ?_
              refine rZ hX (pc := 126) hT (Nat.le_refl 0) (Nat.le_refl 0) dX11_positiveOf_126 (by decide) ?_
              exact ⟨kI_58, kJ_58, cI_58, EV_to vI_58 (by omega), bI_58, by omega, (by
                  have hw8 := fun (g1 : -1000000000 ≤ x_32) (g2 : x_32 ≤ 1000000000) => w64_id (x := x_32) (by omega) (by omega)
                  have hw9 := fun (g1 : -1000000000 ≤ x_58) (g2 : x_58 ≤ 1000000000) => w64_id (x := x_58) (by omega) (by omega)
                  have hl9 := l_cmp_v x_32 x_58
                  rw [hD9, zJD_2]
                  refine zRv_cm hla (by have h9 := hB; unfold zB1 at h9; exact h9) (zRv_cg yI_32.2 (by omega) rfl) (zRv_cg yI_58.2 (by omega) (by omega)) hop9 (fun g1 g2 g3 g4 g5 g6 => ?_)
                  have := hw8 g1 g2
                  have := hw9 g3 g4
                  have := h_41.1
                  refine ⟨by omega, fun g => ?_, fun g => ?_, fun g => ?_⟩ <;> omega)⟩
            · simp only [w32_mod] at h_108
              refine ww_goto hX (pc := 111) (tgt := 121) dX11_positiveOf_111 (by decide) ?_
              refine ww_iconst hX (pc := 121) (x := 1) dX11_positiveOf_121 rfl ?_
              refine ww_goto hX (pc := 122) (tgt := 126) dX11_positiveOf_122 (by decide) ?_
              refine rZ hX (pc := 126) hT (Nat.le_refl 0) (Nat.le_refl 0) dX11_positiveOf_126 (by decide) ?_
              exact ⟨kI_58, kJ_58, cI_58, EV_to vI_58 (by omega), bI_58, by omega, (by
                  have hw8 := fun (g1 : -1000000000 ≤ x_32) (g2 : x_32 ≤ 1000000000) => w64_id (x := x_32) (by omega) (by omega)
                  have hw9 := fun (g1 : -1000000000 ≤ x_58) (g2 : x_58 ≤ 1000000000) => w64_id (x := x_58) (by omega) (by omega)
                  have hl9 := l_cmp_v x_32 x_58
                  rw [hD9, zJD_2]
                  refine zRv_cm hla (by have h9 := hB; unfold zB1 at h9; exact h9) (zRv_cg yI_32.2 (by omega) rfl) (zRv_cg yI_58.2 (by omega) (by omega)) hop9 (fun g1 g2 g3 g4 g5 g6 => ?_)
                  have := hw8 g1 g2
                  have := hw9 g3 g4
                  have := h_41.1
                  refine ⟨by omega, fun g => ?_, fun g => ?_, fun g => ?_⟩ <;> omega)⟩
        · simp only [w32_mod] at h_81
          refine ww_lload_n hX (pc := 84) dX11_positiveOf_84 rfl ?_
          refine ww_lload hX (pc := 85) dX11_positiveOf_85 rfl ?_
          refine ww_lcmp hX (pc := 87) dX11_positiveOf_87 ?_
          refine ww_if_ge hX (pc := 88) (tgt := 125) dX11_positiveOf_88 (by decide) (fun h_88 => ?_) (fun h_88 => ?_)
          · simp only [w32_mod] at h_88
            refine ww_iconst hX (pc := 125) (x := 0) dX11_positiveOf_125 rfl ?_
            refine rZ hX (pc := 126) hT (Nat.le_refl 0) (Nat.le_refl 0) dX11_positiveOf_126 (by decide) ?_
            exact ⟨kI_58, kJ_58, cI_58, EV_to vI_58 (by omega), bI_58, by omega, (by
                have hw8 := fun (g1 : -1000000000 ≤ x_32) (g2 : x_32 ≤ 1000000000) => w64_id (x := x_32) (by omega) (by omega)
                have hw9 := fun (g1 : -1000000000 ≤ x_58) (g2 : x_58 ≤ 1000000000) => w64_id (x := x_58) (by omega) (by omega)
                have hl9 := l_cmp_v x_32 x_58
                rw [hD9, zJD_2]
                refine zRv_cm hla (by have h9 := hB; unfold zB1 at h9; exact h9) (zRv_cg yI_32.2 (by omega) rfl) (zRv_cg yI_58.2 (by omega) (by omega)) hop9 (fun g1 g2 g3 g4 g5 g6 => ?_)
                have := hw8 g1 g2
                have := hw9 g3 g4
                have := h_41.1
                refine ⟨by omega, fun g => ?_, fun g => ?_, fun g => ?_⟩ <;> omega)⟩
          · simp only [w32_mod] at h_88
            refine ww_goto hX (pc := 91) (tgt := 121) dX11_positiveOf_91 (by decide) ?_
            refine ww_iconst hX (pc := 121) (x := 1) dX11_positiveOf_121 rfl ?_
            refine ww_goto hX (pc := 122) (tgt := 126) dX11_positiveOf_122 (by decide) ?_
            refine rZ hX (pc := 126) hT (Nat.le_refl 0) (Nat.le_refl 0) dX11_positiveOf_126 (by decide) ?_
            exact ⟨kI_58, kJ_58, cI_58, EV_to vI_58 (by omega), bI_58, by omega, (by
                have hw8 := fun (g1 : -1000000000 ≤ x_32) (g2 : x_32 ≤ 1000000000) => w64_id (x := x_32) (by omega) (by omega)
                have hw9 := fun (g1 : -1000000000 ≤ x_58) (g2 : x_58 ≤ 1000000000) => w64_id (x := x_58) (by omega) (by omega)
                have hl9 := l_cmp_v x_32 x_58
                rw [hD9, zJD_2]
                refine zRv_cm hla (by have h9 := hB; unfold zB1 at h9; exact h9) (zRv_cg yI_32.2 (by omega) rfl) (zRv_cg yI_58.2 (by omega) (by omega)) hop9 (fun g1 g2 g3 g4 g5 g6 => ?_)
                have := hw8 g1 g2
                have := hw9 g3 g4
                have := h_41.1
                refine ⟨by omega, fun g => ?_, fun g => ?_, fun g => ?_⟩ <;> omega)⟩
  · simp only [w32_mod] at h_9
    obtain ⟨mp, hmp, d9, hGd, hcd, hbd⟩ := zG_pb hG (by have := PS_1 yI_6.2 (by omega); omega)
    have hz := EV_z (i := d9) hE (by omega)
    have w6 : EV I_6 t c (a + 1) := EV_to vI_6 (by omega)
    refine ww_aload_n hX (pc := 12) dX11_positiveOf_12 rfl ?_
    refine ww_iload_n hX (pc := 13) dX11_positiveOf_13 rfl ?_
    refine vI1 hX (pc := 14) sX11_256 (xs_49 hL) (hrec mp hmp hL cI_6 (by omega) w6 (zEV_ch kI_6 (by decide) (by decide) hV) bI_6 hGd) (by omega) (Nat.le_refl 0) (Nat.le_refl 0) (Nat.le_of_ble_eq_true rfl) dX11_positiveOf_14 (fun x_14 I_14 J_14 h_14 => ?_)
    have kJ_14 : Kp 49 73 Ja J_14 := Kp_tr kJ_6 h_14.2.1
    have kI_14 : Ch [] [19, 21] Ia I_14 := Ch_tr kI_6 (Ch_wd h_14.1 (by decide) (by decide))
    have cI_14 : RX I_14 := h_14.2.2.1
    have qI_14 := RX_w cI_14
    have f20_I_14 : I_14 49 20 = I_6 49 20 := h_14.1.2 20 (by decide)
    have vI_14 : EV I_14 t c d9 := h_14.2.2.2.1
    have oI_14 := EV_o vI_14
    have yI_14 := h_14.2.2.2.2
    have bI_14 : zB1 I_14 := yI_14.1
    refine ww_istore_n hX (pc := 17) (lv' := [some (kR (some 49)), some (kI la), some (kI x_14), none, none, none, none]) dX11_positiveOf_17 (by decide) rfl rfl ?_
    refine ww_aload_n hX (pc := 18) dX11_positiveOf_18 rfl ?_
    refine ww_dupR hX (pc := 19) dX11_positiveOf_19 ?_
    refine ww_getI hX (pc := 20) fX11_215 (by decide) (xs_49 hL) dX11_positiveOf_20 ?_
    refine ww_iconst hX (pc := 23) (x := 1) dX11_positiveOf_23 rfl ?_
    refine ww_iadd hX (pc := 24) dX11_positiveOf_24 ?_
    refine ww_putI hX (pc := 25) (fun h9 => absurd h9 (by decide)) gX11_215 rfl (xs_49 hL) dX11_positiveOf_25 ?_
    refine ww_nmH (fun I_25 eI_25 => ?_)
    have kI_25 : Ch [] [19, 21] Ia I_25 := by rw [eI_25]; exact Ch_f kI_14 (by decide)
    have cI_25 : RX I_25 := by rw [eI_25]; exact RX_f cI_14 (by decide)
    have qI_25 := RX_w cI_25
    have f20_I_25 : I_25 49 20 = I_14 49 20 := by rw [eI_25, up2_n _ _ (Or.inr (by decide))]
    have f21_I_25 : I_25 49 21 = I_14 49 21 := by rw [eI_25, up2_n _ _ (Or.inr (by decide))]
    have vI_25 : EV I_25 t c (d9 + 1) := EV_st vI_14 (by rw [eI_25, up2_off _ _ _ (by decide)]) (by omega) (by rw [eI_25, up2_s]; omega) (by omega)
    have oI_25 := EV_o vI_25
    have bI_25 : zB1 I_25 := zB1_e bI_14 f21_I_25
    refine ww_iload_n hX (pc := 28) dX11_positiveOf_28 rfl ?_
    refine rZ hX (pc := 29) hT (Nat.le_refl 0) (Nat.le_refl 0) dX11_positiveOf_29 (by omega) ?_
    exact ⟨kI_25, kJ_14, cI_25, EV_to vI_25 (by omega), bI_25, by omega, zRv_cg yI_14.2.2 (by omega) (by omega)⟩
