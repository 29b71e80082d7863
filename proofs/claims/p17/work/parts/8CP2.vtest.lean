/-! TESTS -/
def zJ3 (op : Int) (r1 r2 : Option Int) : Option Int := match r1 with
  | none => none
  | some a => if (op = 3 ∧ ¬ a = 0) ∨ (op = 4 ∧ a = 0) then some a else r2
theorem zJB_3 {op : Int} {D F : zD} {en : zE} : zJB op D F en = zJ3 op (D en) (F en) := rfl
theorem zRv_jb {la la2 B0 B6 B7 v w x op : Int} {r r' : Option Int} (hB : B0 = 0 ∨ B0 = 1) (h1 : zRv la B0 B6 v r) (h2 : zRv la2 B6 B7 w r') (hl : la2 = 1 ↔ (la = 1 ∧ ((op = 4 ∧ v = 1) ∨ (op = 3 ∧ v = 0)))) (hv : 0 ≤ v ∧ v ≤ 1) (hw : 0 ≤ w ∧ w ≤ 1) (hx : (0 ≤ x ∧ x ≤ 1) ∧ ((op = 4 ∧ (x = 1 ↔ v = 1 ∧ w = 1)) ∨ (op = 3 ∧ (x = 1 ↔ v = 1 ∨ w = 1)))) : zRv la B0 B7 x (zJ3 op r r') := by
  by_cases hc : la = 1 ∧ B0 = 0
  · obtain ⟨rfl, rfl⟩ := hc
    refine ⟨fun _ _ => ?_, fun h => absurd ⟨rfl, rfl⟩ h⟩
    obtain ⟨g1, g2⟩ := h1.1 rfl rfl
    cases r with
    | none =>
      have e6 := g2 rfl
      have e7 := h2.2 (by omega)
      exact ⟨fun u hu => (by cases hu), fun _ => by omega⟩
    | some a =>
      obtain ⟨rfl, e6, a1, a2⟩ := g1 a rfl
      by_cases hs : (op = 3 ∧ ¬ v = 0) ∨ (op = 4 ∧ v = 0)
      · have e : zJ3 op (some v) r' = some v := if_pos hs
        have e7 := h2.2 (by omega)
        rw [e]
        exact ⟨fun u hu => (by cases hu; exact ⟨by omega, by omega, a1, a2⟩), fun hn => (by cases hn)⟩
      · have e : zJ3 op (some v) r' = r' := if_neg hs
        obtain ⟨k1, k2⟩ := h2.1 (by omega) e6
        rw [e]
        refine ⟨fun u hu => ?_, k2⟩
        obtain ⟨n1, n2, n3, n4⟩ := k1 u hu
        exact ⟨by omega, n2, n3, n4⟩
  · refine ⟨fun g1 g2 => absurd ⟨g1, g2⟩ hc, fun _ => ?_⟩
    have e6 := h1.2 hc
    have e7 := h2.2 (by omega)
    omega
theorem zRv_fl {la B B' v x f : Int} {D Dp : zD} {en : zE} (hD : D = if f = 1 then zFl Dp else Dp) (h : zRv la B B' v (Dp en)) (hv : 0 ≤ v ∧ v ≤ 1) (h1 : f = 1 → x = 1 - v) (h2 : ¬ f = 1 → x = v) : zRv la B B' x (D en) := by
  rw [hD]
  by_cases hf : f = 1
  · rw [if_pos hf]
    refine ⟨fun g1 g2 => ?_, h.2⟩
    obtain ⟨k1, k2⟩ := h.1 g1 g2
    cases hp : Dp en with
    | none =>
      rw [zFl_n hp]
      exact ⟨fun u hu => (by cases hu), fun _ => k2 hp⟩
    | some a =>
      rw [zFl_s hp]
      obtain ⟨n1, n2, n3, n4⟩ := k1 a hp
      have := h1 hf
      exact ⟨fun u hu => (by cases hu; exact ⟨by omega, n2, by omega, by omega⟩), fun hn => (by cases hn)⟩
  · rw [if_neg hf, h2 hf]
    exact h
theorem zRv_cm {la B0 B6 B7 v w x op : Int} {r r' : Option Int} (hla : 0 ≤ la ∧ la ≤ 1) (hB : B0 = 0 ∨ B0 = 1) (h1 : zRv la B0 B6 v r) (h2 : zRv la B6 B7 w r') (ho : 160 ≤ op ∧ op ≤ 162) (hx : -1000000000 ≤ v → v ≤ 1000000000 → -1000000000 ≤ w → w ≤ 1000000000 → la = 1 → B7 = 0 → (0 ≤ x ∧ x ≤ 1) ∧ (op = 160 → (x = 1 ↔ v < w)) ∧ (op = 162 → (x = 1 ↔ w < v)) ∧ (op = 161 → (x = 1 ↔ v = w))) : zRv la B0 B7 x (zJ2 op r r') := by
  by_cases hc : la = 1 ∧ B0 = 0
  · obtain ⟨rfl, rfl⟩ := hc
    refine ⟨fun _ _ => ?_, fun h => absurd ⟨rfl, rfl⟩ h⟩
    obtain ⟨g1, g2⟩ := h1.1 rfl rfl
    cases r with
    | none =>
      have e6 := g2 rfl
      have e7 := h2.2 (by omega)
      exact ⟨fun u hu => (by cases hu), fun _ => by omega⟩
    | some a =>
      obtain ⟨rfl, e6, a1, a2⟩ := g1 a rfl
      obtain ⟨k1, k2⟩ := h2.1 rfl e6
      cases r' with
      | none =>
        exact ⟨fun u hu => (by cases hu), fun _ => k2 rfl⟩
      | some b =>
        obtain ⟨rfl, e7, b1, b2⟩ := k1 b rfl
        obtain ⟨x1, x2, x3, x4⟩ := hx a1 a2 b1 b2 rfl e7
        have e9 : zJv op v w = x := by
          unfold zJv
          rw [if_neg (by omega), if_neg (by omega), if_neg (by omega), if_neg (by omega), if_neg (by omega)]
          repeat' split
          all_goals omega
        have e : zJ2 op (some v) (some w) = some x := by
          refine (if_neg (by omega)).trans ?_
          rw [e9]
          exact if_pos (by omega)
        rw [e]
        exact ⟨fun u hu => (by cases hu; exact ⟨rfl, e7, by omega, by omega⟩), fun hn => (by cases hn)⟩
  · refine ⟨fun g1 g2 => absurd ⟨g1, g2⟩ hc, fun _ => ?_⟩
    have e6 := h1.2 hc
    have e7 := h2.2 (by omega)
    omega
theorem zCm_lt {S : zP} {c : Nat → Int} (hS : ∀ t l q, S t l = .inr q → t < q.1) (t l : Nat) (q : Nat × Nat × zD) (h : zCm S c t l = .inr q) : t < q.1 := by
  cases h1 : S t l with
  | inl f => rw [zCm_f h1] at h; cases h
  | inr p =>
    by_cases h2 : 160 ≤ c p.1 ∧ c p.1 ≤ 162
    · cases h3 : S (p.1 + 1) p.2.1 with
      | inl f => rw [zCm_g h1 h2 h3] at h; cases h
      | inr r =>
        rw [zCm_s h1 h2 h3] at h
        cases h
        have h4 := hS _ _ _ h1
        have h5 := hS _ _ _ h3
        show t < r.1
        omega
    · rw [zCm_n h1 h2] at h; cases h
theorem zNt_le {c : Nat → Int} : ∀ (n t : Nat) (f : Int), t ≤ (zNt c n t f).1
  | 0, t, _ => Nat.le_refl t
  | n + 1, t, f => by
    by_cases h : c t = 5
    · rw [zNt_s h]
      have := zNt_le (c := c) n (t + 1) (1 - f)
      omega
    · rw [zNt_n h]
      exact Nat.le_refl t
theorem zPos_lt {c vl : Nat → Int} {m : Nat} (hP : ∀ mp, m = mp + 1 → ∀ t l q, zT c vl mp t l = .inr q → t < q.1) (t l : Nat) (q : Nat × Nat × zD) (h : zPos (zTu c vl m) (zS c vl m) c t l = .inr q) : t < q.1 := by
  by_cases hc : c t = 140
  · rw [zPos_b hc] at h
    cases m with
    | zero => cases h
    | succ m =>
      have h : zBr (some (zT c vl m)) c 141 t l = .inr q := h
      obtain ⟨p, p1, p2, p3⟩ := zBr_G h
      have := hP m rfl _ _ _ p1
      omega
  · rw [zPos_c hc] at h
    exact zCm_lt (zS_lt m) t l q h
theorem zPl_G {P : Option zP} {S : zP} {c : Nat → Int} {t l : Nat} {q : Nat × Nat × zD} (h : zPl P S c t l = .inr q) : ∃ D, zPos P S c (zNt c 400 t 0).1 l = .inr (q.1, q.2.1, D) ∧ q.2.2 = if (zNt c 400 t 0).2 = 1 then zFl D else D := by
  unfold zPl at h
  cases hp : zPos P S c (zNt c 400 t 0).1 l with
  | inl f => rw [hp] at h; cases h
  | inr p =>
    rw [hp] at h
    cases h
    exact ⟨p.2.2, rfl, rfl⟩
theorem zPl_lt {c vl : Nat → Int} {m : Nat} (hP : ∀ mp, m = mp + 1 → ∀ t l q, zT c vl mp t l = .inr q → t < q.1) (t l : Nat) (q : Nat × Nat × zD) (h : zPl (zTu c vl m) (zS c vl m) c t l = .inr q) : t < q.1 := by
  obtain ⟨D, h1, -⟩ := zPl_G h
  have h2 := zPos_lt hP _ _ _ h1
  have h3 := zNt_le (c := c) 400 t 0
  omega
theorem zT_lt {c vl : Nat → Int} : ∀ (m t l : Nat) (q : Nat × Nat × zD), zT c vl m t l = .inr q → t < q.1
  | 0, t, l, q, h => zSeq_lt (zSeq_lt (zPl_lt (fun mp e => absurd e (by omega)))) t l q h
  | m + 1, t, l, q, h => zSeq_lt (zSeq_lt (zPl_lt (fun mp e => by
      obtain rfl : m = mp := by omega
      exact zT_lt m))) t l q h
theorem zPl_l {c vl : Nat → Int} (m t l : Nat) (q : Nat × Nat × zD) (h : zPl (zTu c vl m) (zS c vl m) c t l = .inr q) : t < q.1 := zPl_lt (fun mp _ => zT_lt mp) t l q h
theorem zBo_l {c vl : Nat → Int} (m t l : Nat) (q : Nat × Nat × zD) (h : zBo (zTu c vl m) (zS c vl m) c t l = .inr q) : t < q.1 := zSeq_lt (zPl_l m) t l q h
theorem zPos_l {c vl : Nat → Int} (m t l : Nat) (q : Nat × Nat × zD) (h : zPos (zTu c vl m) (zS c vl m) c t l = .inr q) : t < q.1 := zPos_lt (fun mp _ => zT_lt mp) t l q h
theorem zG_pb {c vl : Nat → Int} {m a b : Nat} {D : zD} (h : zG (zPos (zTu c vl m) (zS c vl m) c) a b D) (hc : c a = 140) : ∃ mp, m = mp + 1 ∧ ∃ d, zG (zT c vl mp) (a + 1) d D ∧ c d = 141 ∧ b = d + 1 := by
  obtain ⟨l, l', h⟩ := h
  rw [zPos_b hc] at h
  cases m with
  | zero => cases h
  | succ m =>
    have h : zBr (some (zT c vl m)) c 141 a l = .inr (b, l', D) := h
    cases hp : zT c vl m (a + 1) l with
    | inl f => rw [zBr_f hp] at h; cases h
    | inr p =>
      obtain ⟨p1, p2, p3⟩ := p
      by_cases hc2 : c p1 = 141
      · rw [zBr_s hp hc2] at h
        cases h
        exact ⟨m, rfl, p1, ⟨l, _, hp⟩, hc2, rfl⟩
      · rw [zBr_n hp hc2] at h; cases h
theorem zG_pc {c vl : Nat → Int} {m a b : Nat} {D : zD} (h : zG (zPos (zTu c vl m) (zS c vl m) c) a b D) (hc : ¬ c a = 140) : ∃ d D1 D2, zG (zS c vl m) a d D1 ∧ (160 ≤ c d ∧ c d ≤ 162) ∧ zG (zS c vl m) (d + 1) b D2 ∧ D = zJD (c d) D1 D2 := by
  obtain ⟨l, l', h⟩ := h
  rw [zPos_c hc] at h
  cases h1 : zS c vl m a l with
  | inl f => rw [zCm_f h1] at h; cases h
  | inr p =>
    obtain ⟨p1, p2, p3⟩ := p
    by_cases h2 : 160 ≤ c p1 ∧ c p1 ≤ 162
    · cases h3 : zS c vl m (p1 + 1) p2 with
      | inl f => rw [zCm_g h1 h2 h3] at h; cases h
      | inr r =>
        obtain ⟨r1, r2, r3⟩ := r
        rw [zCm_s h1 h2 h3] at h
        cases h
        exact ⟨p1, p3, r3, ⟨l, _, h1⟩, h2, ⟨p2, _, h3⟩, rfl⟩
    · rw [zCm_n h1 h2] at h; cases h
def zHN (c : Nat → Int) (p : Nat) (ng : Int) (t1 : Nat) (f : Int) : Prop := ∃ n, 400 ≤ n + p ∧ zNt c n p ng = (t1, f)
theorem zHN_op {c : Nat → Int} {p t1 : Nat} {ng f : Int} (h : zHN c p ng t1 f) (hc : c p = 5) (hp : p < 400) : zHN c (p + 1) (1 - ng) t1 f := by
  obtain ⟨n, hn, h⟩ := h
  obtain ⟨k, rfl⟩ : ∃ k, n = k + 1 := ⟨n - 1, by omega⟩
  rw [zNt_s hc] at h
  exact ⟨k, by omega, h⟩
theorem zHN_no {c : Nat → Int} {p t1 : Nat} {ng f : Int} (h : zHN c p ng t1 f) (hc : ¬ c p = 5) : p = t1 ∧ ng = f := by
  obtain ⟨n, hn, h⟩ := h
  rw [zNt_n hc] at h
  cases h
  exact ⟨rfl, rfl⟩
theorem zHN_le {c : Nat → Int} {p t1 : Nat} {ng f : Int} (h : zHN c p ng t1 f) : p ≤ t1 := by
  obtain ⟨n, hn, h⟩ := h
  have := zNt_le (c := c) n p ng
  rw [h] at this
  exact this
theorem zG_pl {c vl : Nat → Int} {m a b : Nat} {D : zD} (h : zG (zPl (zTu c vl m) (zS c vl m) c) a b D) : ∃ t1 f Dp, zHN c a 0 t1 f ∧ zG (zPos (zTu c vl m) (zS c vl m) c) t1 b Dp ∧ D = if f = 1 then zFl Dp else Dp := by
  obtain ⟨l, l', h⟩ := h
  obtain ⟨Dp, h1, h2⟩ := zPl_G h
  exact ⟨_, _, Dp, ⟨400, by omega, rfl⟩, ⟨l, l', h1⟩, h2⟩
theorem zSeq_nz {P : zP} {ops : List Int} {jn : Int → zD → zD → zD} {c : Nat → Int} (hP : ∀ t l q, P t l = .inr q → ¬ c t = 0) (t l : Nat) (q : Nat × Nat × zD) (h : zSeq P ops jn c t l = .inr q) : ¬ c t = 0 := by
  cases hp : P t l with
  | inl f => rw [zSeq_f hp] at h; cases h
  | inr r => exact hP _ _ _ hp
theorem zS_nz {c vl : Nat → Int} {m a b : Nat} {D : zD} (h : zG (zS c vl m) a b D) : ¬ c a = 0 := by
  obtain ⟨l, l', h⟩ := h
  refine zSeq_nz (zSeq_nz (P := zPart (zSu c vl m) c vl) (fun t l q h => ?_)) a l _ h
  by_cases hc : c t = 191
  · omega
  · rw [zPart_l hc] at h
    have := (zLe_G h).1
    rcases this with h9 | h9 <;> omega
set_option maxHeartbeats 4000000 in
set_option maxRecDepth 20000 in
theorem c6_X11_positiveOf (l0 : Launch) {Ia Ja : aI1} {Ra : aR1} {Sa : aS1} (hL : LY Ra Sa) (hQ : RX Ia) {la : Int} (hla : 0 ≤ la ∧ la ≤ 1) {t a : Nat} {c : Nat → Int} (hE : EV Ia t c a) {vl : Nat → Int} {en : zE} (hV : zEV Ia t vl en) (hB : zB1 Ia) {m b : Nat} {D : zD} (hG : zG (zPos (zTu c vl m) (zS c vl m) c) a b D) (hrec : ∀ mp, m = mp + 1 → VTest l0 mp)  : CT l0 (4 * m + 6) 0 0 mX11_positiveOf [kR (some 49), kI la] Ia Ja Ra Sa (cI (fun x I' J' => Ch [] [19, 21] Ia I' ∧ Kp 49 73 Ja J' ∧ RX I' ∧ EV I' t c b ∧ zB1 I' ∧ (0 ≤ x ∧ x ≤ 1) ∧ zRv la (Ia 49 21) (I' 49 21) x (D en)) Ra Sa) := by
  refine ct_in pn_X11 (Nat.le_of_ble_eq_true rfl) (fun X hX hT hIn => ?_)
  have hX : aK l0 X cX11_positiveOf 7 RX11 (some .boolean) (4 * m + 6) 0 0 := hX
  change WW X 0 [some (kR (some 49)), some (kI la), none, none, none, none, none] [] Ia Ja Ra Sa 0 0
  have qIa := RX_w hQ
  have oIa := EV_o hE
  refine ww_aload_n hX (pc := 0) dX11_positiveOf_0 rfl ?_
  refine ww_bipush hX (pc := 1) (x := 40) dX11_positiveOf_1 (by decide) ?_
  refine sI1 hX (pc := 3) sX11_190 (c_X11_sign l0 ) (by omega) (Nat.le_refl 0) (Nat.le_refl 0) (Nat.le_of_ble_eq_true rfl) dX11_positiveOf_3 (fun x_3 I_3 J_3 h_3 => ?_)
  obtain ⟨rfl, rfl, h_3⟩ := h_3
  refine vI1 hX (pc := 6) sX11_240 (xs_49 hL) (c_X11_passes0 l0 hL hQ  (by omega) (by omega) hE) (by omega) (Nat.le_refl 0) (Nat.le_refl 0) (Nat.le_of_ble_eq_true rfl) dX11_positiveOf_6 (fun x_6 I_6 J_6 h_6 => ?_)
  have kJ_6 : Kp 49 73 Ja J_6 := Kp_tr (Kp_rf (a := 49) (b := 73)) h_6.2.1
  have kI_6 : Ch [] [19, 21] Ia I_6 := Ch_tr Ch_rf (Ch_wd h_6.1 (by decide) (by decide))
  have cI_6 : RX I_6 := h_6.2.2.1
  have qI_6 := RX_w cI_6
  have f20_I_6 : I_6 49 20 = Ia 49 20 := h_6.1.2 20 (by decide)
  have f21_I_6 : I_6 49 21 = Ia 49 21 := h_6.1.2 21 (by decide)
  have vI_6 : EV I_6 t c (a + x_6.toNat) := h_6.2.2.2.1
  have oI_6 := EV_o vI_6
  have yI_6 := h_6.2.2.2.2
  have bI_6 : zB1 I_6 := zB1_e hB f21_I_6
  refine ww_if_eq hX (pc := 9) (tgt := 30) dX11_positiveOf_9 (by decide) (fun h_9 => ?_) (fun h_9 => ?_)
  · simp only [w32_mod] at h_9
    obtain ⟨d9, D1, D2, hGa, hop9, hGb, hD9⟩ := zG_pc hG (by have := PS_0 yI_6.2 (by omega); omega)
    have hz := EV_z (i := d9 + 1) hE (zS_nz hGb)
    have w6 : EV I_6 t c a := EV_to vI_6 (by omega)
    refine ww_aload_n hX (pc := 30) dX11_positiveOf_30 rfl ?_
    refine ww_iload_n hX (pc := 31) dX11_positiveOf_31 rfl ?_
    refine vJ1 hX (pc := 32) sX11_243 (xs_49 hL) (c_VSum l0 m hL cI_6 (by omega) w6 (zEV_ch kI_6 (by decide) (by decide) hV) bI_6 hGa) (by omega) (Nat.le_refl 0) (Nat.le_refl 0) (Nat.le_of_ble_eq_true rfl) dX11_positiveOf_32 (fun x_32 I_32 J_32 h_32 => ?_)
    have kJ_32 : Kp 49 73 Ja J_32 := Kp_tr kJ_6 h_32.2.1
    have kI_32 : Ch [] [19, 21] Ia I_32 := Ch_tr kI_6 (Ch_wd h_32.1 (by decide) (by decide))
    have cI_32 : RX I_32 := h_32.2.2.1
    have qI_32 := RX_w cI_32
    have f20_I_32 : I_32 49 20 = I_6 49 20 := h_32.1.2 20 (by decide)
    have vI_32 : EV I_32 t c d9 := h_32.2.2.2.1
    have oI_32 := EV_o vI_32
    have yI_32 := h_32.2.2.2.2
    have bI_32 : zB1 I_32 := yI_32.1
    refine ww_lstore_n hX (pc := 35) (lv' := [some (kR (some 49)), some (kI la), some (kL x_32), none, none, none, none]) dX11_positiveOf_35 (by decide) rfl rfl ?_
    refine ww_aload_n hX (pc := 36) dX11_positiveOf_36 rfl ?_
    refine ww_aload_n hX (pc := 37) dX11_positiveOf_37 rfl ?_
    refine ww_getI hX (pc := 38) fX11_215 (by decide) (xs_49 hL) dX11_positiveOf_38 ?_
    refine vI1 hX (pc := 41) sX11_218 (xs_49 hL) (c_X11_codeAt l0 hL cI_32  rfl vI_32) (by omega) (Nat.le_refl 0) (Nat.le_refl 0) (Nat.le_of_ble_eq_true rfl) dX11_positiveOf_41 (fun x_41 I_41 J_41 h_41 => ?_)
    obtain ⟨rfl, rfl, h_41⟩ := h_41
    refine ww_istore hX (pc := 44) (lv' := [some (kR (some 49)), some (kI la), some (kL x_32), none, some (kI x_41), none, none]) dX11_positiveOf_44 (by decide) rfl rfl ?_
    refine ww_aload_n hX (pc := 46) dX11_positiveOf_46 rfl ?_
    refine ww_dupR hX (pc := 47) dX11_positiveOf_47 ?_
    refine ww_getI hX (pc := 48) fX11_215 (by decide) (xs_49 hL) dX11_positiveOf_48 ?_
    refine ww_iconst hX (pc := 51) (x := 1) dX11_positiveOf_51 rfl ?_
    refine ww_iadd hX (pc := 52) dX11_positiveOf_52 ?_
    refine ww_putI hX (pc := 53) (fun h9 => absurd h9 (by decide)) gX11_215 rfl (xs_49 hL) dX11_positiveOf_53 ?_
    refine ww_nmH (fun I_53 eI_53 => ?_)
    have kI_53 : Ch [] [19, 21] Ia I_53 := by rw [eI_53]; exact Ch_f kI_32 (by decide)
    have cI_53 : RX I_53 := by rw [eI_53]; exact RX_f cI_32 (by decide)
    have qI_53 := RX_w cI_53
    have f20_I_53 : I_53 49 20 = I_32 49 20 := by rw [eI_53, up2_n _ _ (Or.inr (by decide))]
    have f21_I_53 : I_53 49 21 = I_32 49 21 := by rw [eI_53, up2_n _ _ (Or.inr (by decide))]
    have vI_53 : EV I_53 t c (d9 + 1) := EV_st vI_32 (by rw [eI_53, up2_off _ _ _ (by decide)]) (by omega) (by rw [eI_53, up2_s]; omega) (by omega)
    have oI_53 := EV_o vI_53
    have bI_53 : zB1 I_53 := zB1_e bI_32 f21_I_53
    refine ww_aload_n hX (pc := 56) dX11_positiveOf_56 rfl ?_
    refine ww_iload_n hX (pc := 57) dX11_positiveOf_57 rfl ?_
    refine vJ1 hX (pc := 58) sX11_243 (xs_49 hL) (c_VSum l0 m hL cI_53 (by omega) vI_53 (zEV_ch kI_53 (by decide) (by decide) hV) bI_53 hGb) (by omega) (Nat.le_refl 0) (Nat.le_refl 0) (Nat.le_of_ble_eq_true rfl) dX11_positiveOf_58 (fun x_58 I_58 J_58 h_58 => ?_)
    have kJ_58 : Kp 49 73 Ja J_58 := Kp_tr kJ_32 h_58.2.1
    have kI_58 : Ch [] [19, 21] Ia I_58 := Ch_tr kI_53 (Ch_wd h_58.1 (by decide) (by decide))
    have cI_58 : RX I_58 := h_58.2.2.1
    have qI_58 := RX_w cI_58
    have f20_I_58 : I_58 49 20 = I_53 49 20 := h_58.1.2 20 (by decide)
    have vI_58 : EV I_58 t c b := h_58.2.2.2.1
    have oI_58 := EV_o vI_58
    have yI_58 := h_58.2.2.2.2
    have bI_58 : zB1 I_58 := yI_58.1
    refine ww_lstore hX (pc := 61) (lv' := [some (kR (some 49)), some (kI la), some (kL x_32), none, some (kI x_41), some (kL x_58), none]) dX11_positiveOf_61 (by decide) rfl rfl ?_
    refine ww_iload_n hX (pc := 63) dX11_positiveOf_63 rfl ?_
    refine ww_if_eq hX (pc := 64) (tgt := 125) dX11_positiveOf_64 (by decide) (fun h_64 => ?_) (fun h_64 => ?_)
    · simp only [w32_mod] at h_64
      refine ww_iconst hX (pc := 125) (x := 0) dX11_positiveOf_125 rfl ?_
      refine rZ hX (pc := 126) hT (Nat.le_refl 0) (Nat.le_refl 0) dX11_positiveOf_126 (by decide) ?_
      exact ⟨kI_58, kJ_58, cI_58, EV_to vI_58 (by omega), bI_58, by omega, (by
          have hw8 := fun (g1 : -1000000000 ≤ x_32) (g2 : x_32 ≤ 1000000000) => w64_id (x := x_32) (by omega) (by omega)
          have hw9 := fun (g1 : -1000000000 ≤ x_58) (g2 : x_58 ≤ 1000000000) => w64_id (x := x_58) (by omega) (by omega)
          have hl9 := l_cmp_v x_32 x_58
          rw [hD9, zJD_2]
          refine zRv_cm hla (by have h9 := hB; unfold zB1 at h9; exact h9) (zRv_cg yI_32.2 (by omega) rfl) (zRv_cg yI_58.2 (by omega) (by omega)) hop9 (fun g1 g2 g3 g4 g5 g6 => ?_)
          have := hw8 g1 g2
          have := hw9 g3 g4
          have := h_41.1
          refine ⟨by omega, fun g => ?_, fun g => ?_, fun g => ?_⟩ <;> omega)⟩
    · simp only [w32_mod] at h_64
      refine ww_aload_n hX (pc := 67) dX11_positiveOf_67 rfl ?_
      refine ww_getI hX (pc := 68) fX11_225 (by decide) (xs_49 hL) dX11_positiveOf_68 ?_
      refine ww_if_ne hX (pc := 71) (tgt := 125) dX11_positiveOf_71 (by decide) (fun h_71 => ?_) (fun h_71 => ?_)
      · simp only [w32_mod] at h_71
        refine ww_iconst hX (pc := 125) (x := 0) dX11_positiveOf_125 rfl ?_
        refine rZ hX (pc := 126) hT (Nat.le_refl 0) (Nat.le_refl 0) dX11_positiveOf_126 (by decide) ?_
        exact ⟨kI_58, kJ_58, cI_58, EV_to vI_58 (by omega), bI_58, by omega, (by
            have hw8 := fun (g1 : -1000000000 ≤ x_32) (g2 : x_32 ≤ 1000000000) => w64_id (x := x_32) (by omega) (by omega)
            have hw9 := fun (g1 : -1000000000 ≤ x_58) (g2 : x_58 ≤ 1000000000) => w64_id (x := x_58) (by omega) (by omega)
            have hl9 := l_cmp_v x_32 x_58
            rw [hD9, zJD_2]
            refine zRv_cm hla (by have h9 := hB; unfold zB1 at h9; exact h9) (zRv_cg yI_32.2 (by omega) rfl) (zRv_cg yI_58.2 (by omega) (by omega)) hop9 (fun g1 g2 g3 g4 g5 g6 => ?_)
            have := hw8 g1 g2
            have := hw9 g3 g4
            have := h_41.1
            refine ⟨by omega, fun g => ?_, fun g => ?_, fun g => ?_⟩ <;> omega)⟩
      · simp only [w32_mod] at h_71
        refine ww_iload hX (pc := 74) dX11_positiveOf_74 rfl ?_
        refine ww_bipush hX (pc := 76) (x := 60) dX11_positiveOf_76 (by decide) ?_
        refine sI1 hX (pc := 78) sX11_190 (c_X11_sign l0 ) (by omega) (Nat.le_refl 0) (Nat.le_refl 0) (Nat.le_of_ble_eq_true rfl) dX11_positiveOf_78 (fun x_78 I_78 J_78 h_78 => ?_)
        obtain ⟨rfl, rfl, h_78⟩ := h_78
        refine ww_icmp_ne hX (pc := 81) (tgt := 94) dX11_positiveOf_81 (by decide) (fun h_81 => ?_) (fun h_81 => ?_)
        · simp only [w32_mod] at h_81
          refine ww_iload hX (pc := 94) dX11_positiveOf_94 rfl ?_
          refine ww_bipush hX (pc := 96) (x := 62) dX11_positiveOf_96 (by decide) ?_
          refine sI1 hX (pc := 98) sX11_190 (c_X11_sign l0 ) (by omega) (Nat.le_refl 0) (Nat.le_refl 0) (Nat.le_of_ble_eq_true rfl) dX11_positiveOf_98 (fun x_98 I_98 J_98 h_98 => ?_)
          obtain ⟨rfl, rfl, h_98⟩ := h_98
          refine ww_icmp_ne hX (pc := 101) (tgt := 114) dX11_positiveOf_101 (by decide) (fun h_101 => ?_) (fun h_101 => ?_)
          · simp only [w32_mod] at h_101
            refine ww_lload_n hX (pc := 114) dX11_positiveOf_114 rfl ?_
            refine ww_lload hX (pc := 115) dX11_positiveOf_115 rfl ?_
            refine ww_lcmp hX (pc := 117) dX11_positiveOf_117 ?_
            refine ww_if_ne hX (pc := 118) (tgt := 125) dX11_positiveOf_118 (by decide) (fun h_118 => ?_) (fun h_118 => ?_)
            · simp only [w32_mod] at h_118
              refine ww_iconst hX (pc := 125) (x := 0) dX11_positiveOf_125 rfl ?_
              refine rZ hX (pc := 126) hT (Nat.le_refl 0) (Nat.le_refl 0) dX11_positiveOf_126 (by decide) ?_
              exact ⟨kI_58, kJ_58, cI_58, EV_to vI_58 (by omega), bI_58, by omega, (by
                  have hw8 := fun (g1 : -1000000000 ≤ x_32) (g2 : x_32 ≤ 1000000000) => w64_id (x := x_32) (by omega) (by omega)
                  have hw9 := fun (g1 : -1000000000 ≤ x_58) (g2 : x_58 ≤ 1000000000) => w64_id (x := x_58) (by omega) (by omega)
                  have hl9 := l_cmp_v x_32 x_58
                  rw [hD9, zJD_2]
                  refine zRv_cm hla (by have h9 := hB; unfold zB1 at h9; exact h9) (zRv_cg yI_32.2 (by omega) rfl) (zRv_cg yI_58.2 (by omega) (by omega)) hop9 (fun g1 g2 g3 g4 g5 g6 => ?_)
                  have := hw8 g1 g2
                  have := hw9 g3 g4
                  have := h_41.1
                  refine ⟨by omega, fun g => ?_, fun g => ?_, fun g => ?_⟩ <;> omega)⟩
            · simp only [w32_mod] at h_118
              refine ww_iconst hX (pc := 121) (x := 1) dX11_positiveOf_121 rfl ?_
              refine ww_goto hX (pc := 122) (tgt := 126) dX11_positiveOf_122 (by decide) ?_
              refine rZ hX (pc := 126) hT (Nat.le_refl 0) (Nat.le_refl 0) dX11_positiveOf_126 (by decide) ?_
              exact ⟨kI_58, kJ_58, cI_58, EV_to vI_58 (by omega), bI_58, by omega, (by
                  have hw8 := fun (g1 : -1000000000 ≤ x_32) (g2 : x_32 ≤ 1000000000) => w64_id (x := x_32) (by omega) (by omega)
                  have hw9 := fun (g1 : -1000000000 ≤ x_58) (g2 : x_58 ≤ 1000000000) => w64_id (x := x_58) (by omega) (by omega)
                  have hl9 := l_cmp_v x_32 x_58
                  rw [hD9, zJD_2]
                  refine zRv_cm hla (by have h9 := hB; unfold zB1 at h9; exact h9) (zRv_cg yI_32.2 (by omega) rfl) (zRv_cg yI_58.2 (by omega) (by omega)) hop9 (fun g1 g2 g3 g4 g5 g6 => ?_)
                  have := hw8 g1 g2
                  have := hw9 g3 g4
                  have := h_41.1
                  refine ⟨by omega, fun g => ?_, fun g => ?_, fun g => ?_⟩ <;> omega)⟩
          · simp only [w32_mod] at h_101
            refine ww_lload_n hX (pc := 104) dX11_positiveOf_104 rfl ?_
            refine ww_lload hX (pc := 105) dX11_positiveOf_105 rfl ?_
            refine ww_lcmp hX (pc := 107) dX11_positiveOf_107 ?_
            refine ww_if_le hX (pc := 108) (tgt := 125) dX11_positiveOf_108 (by decide) (fun h_108 => ?_) (fun h_108 => ?_)
            · simp only [w32_mod] at h_108
              refine ww_iconst hX (pc := 125) (x := 0) dX11_positiveOf_125 rfl ?_
              refine rZ hX (pc := 126) hT (Nat.le_refl 0) (Nat.le_refl 0) dX11_positiveOf_126 (by decide) ?_
              exact ⟨kI_58, kJ_58, cI_58, EV_to vI_58 (by omega), bI_58, by omega, (by
                  have hw8 := fun (g1 : -1000000000 ≤ x_32) (g2 : x_32 ≤ 1000000000) => w64_id (x := x_32) (by omega) (by omega)
                  have hw9 := fun (g1 : -1000000000 ≤ x_58) (g2 : x_58 ≤ 1000000000) => w64_id (x := x_58) (by omega) (by omega)
                  have hl9 := l_cmp_v x_32 x_58
                  rw [hD9, zJD_2]
                  refine zRv_cm hla (by have h9 := hB; unfold zB1 at h9; exact h9) (zRv_cg yI_32.2 (by omega) rfl) (zRv_cg yI_58.2 (by omega) (by omega)) hop9 (fun g1 g2 g3 g4 g5 g6 => ?_)
                  have := hw8 g1 g2
                  have := hw9 g3 g4
                  have := h_41.1
                  refine ⟨by omega, fun g => ?_, fun g => ?_, fun g => ?_⟩ <;> omega)⟩
            · simp only [w32_mod] at h_108
              refine ww_goto hX (pc := 111) (tgt := 121) dX11_positiveOf_111 (by decide) ?_
              refine ww_iconst hX (pc := 121) (x := 1) dX11_positiveOf_121 rfl ?_
              refine ww_goto hX (pc := 122) (tgt := 126) dX11_positiveOf_122 (by decide) ?_
              refine rZ hX (pc := 126) hT (Nat.le_refl 0) (Nat.le_refl 0) dX11_positiveOf_126 (by decide) ?_
              exact ⟨kI_58, kJ_58, cI_58, EV_to vI_58 (by omega), bI_58, by omega, (by
                  have hw8 := fun (g1 : -1000000000 ≤ x_32) (g2 : x_32 ≤ 1000000000) => w64_id (x := x_32) (by omega) (by omega)
                  have hw9 := fun (g1 : -1000000000 ≤ x_58) (g2 : x_58 ≤ 1000000000) => w64_id (x := x_58) (by omega) (by omega)
                  have hl9 := l_cmp_v x_32 x_58
                  rw [hD9, zJD_2]
                  refine zRv_cm hla (by have h9 := hB; unfold zB1 at h9; exact h9) (zRv_cg yI_32.2 (by omega) rfl) (zRv_cg yI_58.2 (by omega) (by omega)) hop9 (fun g1 g2 g3 g4 g5 g6 => ?_)
                  have := hw8 g1 g2
                  have := hw9 g3 g4
                  have := h_41.1
                  refine ⟨by omega, fun g => ?_, fun g => ?_, fun g => ?_⟩ <;> omega)⟩
        · simp only [w32_mod] at h_81
          refine ww_lload_n hX (pc := 84) dX11_positiveOf_84 rfl ?_
          refine ww_lload hX (pc := 85) dX11_positiveOf_85 rfl ?_
          refine ww_lcmp hX (pc := 87) dX11_positiveOf_87 ?_
          refine ww_if_ge hX (pc := 88) (tgt := 125) dX11_positiveOf_88 (by decide) (fun h_88 => ?_) (fun h_88 => ?_)
          · simp only [w32_mod] at h_88
            refine ww_iconst hX (pc := 125) (x := 0) dX11_positiveOf_125 rfl ?_
            refine rZ hX (pc := 126) hT (Nat.le_refl 0) (Nat.le_refl 0) dX11_positiveOf_126 (by decide) ?_
            exact ⟨kI_58, kJ_58, cI_58, EV_to vI_58 (by omega), bI_58, by omega, (by
                have hw8 := fun (g1 : -1000000000 ≤ x_32) (g2 : x_32 ≤ 1000000000) => w64_id (x := x_32) (by omega) (by omega)
                have hw9 := fun (g1 : -1000000000 ≤ x_58) (g2 : x_58 ≤ 1000000000) => w64_id (x := x_58) (by omega) (by omega)
                have hl9 := l_cmp_v x_32 x_58
                rw [hD9, zJD_2]
                refine zRv_cm hla (by have h9 := hB; unfold zB1 at h9; exact h9) (zRv_cg yI_32.2 (by omega) rfl) (zRv_cg yI_58.2 (by omega) (by omega)) hop9 (fun g1 g2 g3 g4 g5 g6 => ?_)
                have := hw8 g1 g2
                have := hw9 g3 g4
                have := h_41.1
                refine ⟨by omega, fun g => ?_, fun g => ?_, fun g => ?_⟩ <;> omega)⟩
          · simp only [w32_mod] at h_88
            refine ww_goto hX (pc := 91) (tgt := 121) dX11_positiveOf_91 (by decide) ?_
            refine ww_iconst hX (pc := 121) (x := 1) dX11_positiveOf_121 rfl ?_
            refine ww_goto hX (pc := 122) (tgt := 126) dX11_positiveOf_122 (by decide) ?_
            refine rZ hX (pc := 126) hT (Nat.le_refl 0) (Nat.le_refl 0) dX11_positiveOf_126 (by decide) ?_
            exact ⟨kI_58, kJ_58, cI_58, EV_to vI_58 (by omega), bI_58, by omega, (by
                have hw8 := fun (g1 : -1000000000 ≤ x_32) (g2 : x_32 ≤ 1000000000) => w64_id (x := x_32) (by omega) (by omega)
                have hw9 := fun (g1 : -1000000000 ≤ x_58) (g2 : x_58 ≤ 1000000000) => w64_id (x := x_58) (by omega) (by omega)
                have hl9 := l_cmp_v x_32 x_58
                rw [hD9, zJD_2]
                refine zRv_cm hla (by have h9 := hB; unfold zB1 at h9; exact h9) (zRv_cg yI_32.2 (by omega) rfl) (zRv_cg yI_58.2 (by omega) (by omega)) hop9 (fun g1 g2 g3 g4 g5 g6 => ?_)
                have := hw8 g1 g2
                have := hw9 g3 g4
                have := h_41.1
                refine ⟨by omega, fun g => ?_, fun g => ?_, fun g => ?_⟩ <;> omega)⟩
  · simp only [w32_mod] at h_9
    obtain ⟨mp, hmp, d9, hGd, hcd, hbd⟩ := zG_pb hG (by have := PS_1 yI_6.2 (by omega); omega)
    have hz := EV_z (i := d9) hE (by omega)
    have w6 : EV I_6 t c (a + 1) := EV_to vI_6 (by omega)
    refine ww_aload_n hX (pc := 12) dX11_positiveOf_12 rfl ?_
    refine ww_iload_n hX (pc := 13) dX11_positiveOf_13 rfl ?_
    refine vI1 hX (pc := 14) sX11_256 (xs_49 hL) (hrec mp hmp hL cI_6 (by omega) w6 (zEV_ch kI_6 (by decide) (by decide) hV) bI_6 hGd) (by omega) (Nat.le_refl 0) (Nat.le_refl 0) (Nat.le_of_ble_eq_true rfl) dX11_positiveOf_14 (fun x_14 I_14 J_14 h_14 => ?_)
    have kJ_14 : Kp 49 73 Ja J_14 := Kp_tr kJ_6 h_14.2.1
    have kI_14 : Ch [] [19, 21] Ia I_14 := Ch_tr kI_6 (Ch_wd h_14.1 (by decide) (by decide))
    have cI_14 : RX I_14 := h_14.2.2.1
    have qI_14 := RX_w cI_14
    have f20_I_14 : I_14 49 20 = I_6 49 20 := h_14.1.2 20 (by decide)
    have vI_14 : EV I_14 t c d9 := h_14.2.2.2.1
    have oI_14 := EV_o vI_14
    have yI_14 := h_14.2.2.2.2
    have bI_14 : zB1 I_14 := yI_14.1
    refine ww_istore_n hX (pc := 17) (lv' := [some (kR (some 49)), some (kI la), some (kI x_14), none, none, none, none]) dX11_positiveOf_17 (by decide) rfl rfl ?_
    refine ww_aload_n hX (pc := 18) dX11_positiveOf_18 rfl ?_
    refine ww_dupR hX (pc := 19) dX11_positiveOf_19 ?_
    refine ww_getI hX (pc := 20) fX11_215 (by decide) (xs_49 hL) dX11_positiveOf_20 ?_
    refine ww_iconst hX (pc := 23) (x := 1) dX11_positiveOf_23 rfl ?_
    refine ww_iadd hX (pc := 24) dX11_positiveOf_24 ?_
    refine ww_putI hX (pc := 25) (fun h9 => absurd h9 (by decide)) gX11_215 rfl (xs_49 hL) dX11_positiveOf_25 ?_
    refine ww_nmH (fun I_25 eI_25 => ?_)
    have kI_25 : Ch [] [19, 21] Ia I_25 := by rw [eI_25]; exact Ch_f kI_14 (by decide)
    have cI_25 : RX I_25 := by rw [eI_25]; exact RX_f cI_14 (by decide)
    have qI_25 := RX_w cI_25
    have f20_I_25 : I_25 49 20 = I_14 49 20 := by rw [eI_25, up2_n _ _ (Or.inr (by decide))]
    have f21_I_25 : I_25 49 21 = I_14 49 21 := by rw [eI_25, up2_n _ _ (Or.inr (by decide))]
    have vI_25 : EV I_25 t c (d9 + 1) := EV_st vI_14 (by rw [eI_25, up2_off _ _ _ (by decide)]) (by omega) (by rw [eI_25, up2_s]; omega) (by omega)
    have oI_25 := EV_o vI_25
    have bI_25 : zB1 I_25 := zB1_e bI_14 f21_I_25
    refine ww_iload_n hX (pc := 28) dX11_positiveOf_28 rfl ?_
    refine rZ hX (pc := 29) hT (Nat.le_refl 0) (Nat.le_refl 0) dX11_positiveOf_29 (by omega) ?_
    exact ⟨kI_25, kJ_14, cI_25, EV_to vI_25 (by omega), bI_25, by omega, zRv_cg yI_14.2.2 (by omega) (by omega)⟩
set_option maxHeartbeats 4000000 in
set_option maxRecDepth 20000 in
theorem c6_X11_plainOf (l0 : Launch) {Ia Ja : aI1} {Ra : aR1} {Sa : aS1} (hL : LY Ra Sa) (hQ : RX Ia) {la : Int} (hla : 0 ≤ la ∧ la ≤ 1) {t a : Nat} {c : Nat → Int} (hE : EV Ia t c a) {vl : Nat → Int} {en : zE} (hV : zEV Ia t vl en) (hB : zB1 Ia) {m b : Nat} {D : zD} (hG : zG (zPl (zTu c vl m) (zS c vl m) c) a b D) (hrec : ∀ mp, m = mp + 1 → VTest l0 mp)  : CT l0 (4 * m + 7) 0 0 mX11_plainOf [kR (some 49), kI la] Ia Ja Ra Sa (cI (fun x I' J' => Ch [] [19, 21] Ia I' ∧ Kp 49 73 Ja J' ∧ RX I' ∧ EV I' t c b ∧ zB1 I' ∧ (0 ≤ x ∧ x ≤ 1) ∧ zRv la (Ia 49 21) (I' 49 21) x (D en)) Ra Sa) := by
  refine ct_in pn_X11 (Nat.le_of_ble_eq_true rfl) (fun X hX hT hIn => ?_)
  have hX : aK l0 X cX11_plainOf 3 RX11 (some .boolean) (4 * m + 7) 0 0 := hX
  change WW X 0 [some (kR (some 49)), some (kI la), none] [] Ia Ja Ra Sa 0 0
  have qIa := RX_w hQ
  have oIa := EV_o hE
  obtain ⟨t1, f, Dp, hNa, hGp, hDp⟩ := zG_pl hG
  have hlp := zG_lt (zPos_l m) hGp
  refine ww_iconst hX (pc := 0) (x := 0) dX11_plainOf_0 rfl ?_
  refine ww_istore_n hX (pc := 1) (lv' := [some (kR (some 49)), some (kI la), some (kI 0)]) dX11_plainOf_1 (by decide) rfl rfl ?_
  have hl_2 : ∀ (n_2 : Nat) (ng : Int) (I2 : aI1) (J2 : aI1), (400 * t + b - I2 49 19).toNat = n_2 → (Ch [] [19, 21] Ia I2 ∧ RX I2 ∧ Kp 49 73 Ja J2 ∧ (0 ≤ ng ∧ ng ≤ 1) ∧ ∃ p9 : Nat, EV I2 t c p9 ∧ zB1 I2 ∧ I2 49 21 = Ia 49 21 ∧ zHN c p9 ng t1 f) → WW X 2 [some (kR (some 49)), some (kI la), some (kI ng)] [] I2 J2 Ra Sa 0 0 := by
    intro n_2
    induction n_2 using Nat.strongRecOn with
    | ind n_2 ih_2 =>
      intro ng I2 J2 hm_2 hv_2
      have hq_2 := Sh0_i hm_2
      clear hm_2
      obtain ⟨kI2, cI2, kJ2, hng, p9, vI2, bI2, hb2, hH2⟩ := hv_2
      have qI2 := RX_w cI2
      have oI2 := EV_o vI2
      have hle2 := zHN_le hH2
      refine ww_aload_n hX (pc := 2) dX11_plainOf_2 rfl ?_
      refine ww_iconst hX (pc := 3) (x := 5) dX11_plainOf_3 rfl ?_
      refine vI1 hX (pc := 4) sX11_240 (xs_49 hL) (c_X11_passes0 l0 hL cI2  (by omega) (by omega) vI2) (by omega) (Nat.le_refl 0) (Nat.le_refl 0) (Nat.le_of_ble_eq_true rfl) dX11_plainOf_4 (fun x_4 I_4 J_4 h_4 => ?_)
      have kJ_4 : Kp 49 73 Ja J_4 := Kp_tr kJ2 h_4.2.1
      have kI_4 : Ch [] [19, 21] Ia I_4 := Ch_tr kI2 (Ch_wd h_4.1 (by decide) (by decide))
      have cI_4 : RX I_4 := h_4.2.2.1
      have qI_4 := RX_w cI_4
      have f20_I_4 : I_4 49 20 = I2 49 20 := h_4.1.2 20 (by decide)
      have f21_I_4 : I_4 49 21 = I2 49 21 := h_4.1.2 21 (by decide)
      have vI_4 : EV I_4 t c (p9 + x_4.toNat) := h_4.2.2.2.1
      have oI_4 := EV_o vI_4
      have yI_4 := h_4.2.2.2.2
      have bI_4 : zB1 I_4 := zB1_e bI2 f21_I_4
      refine ww_if_eq hX (pc := 7) (tgt := 23) dX11_plainOf_7 (by decide) (fun h_7 => ?_) (fun h_7 => ?_)
      · simp only [w32_mod] at h_7
        have hN9 := zHN_no hH2 (PS_0 yI_4.2 (by omega))
        have w4 : EV I_4 t c t1 := EV_to vI_4 (by omega)
        refine ww_aload_n hX (pc := 23) dX11_plainOf_23 rfl ?_
        refine ww_iload_n hX (pc := 24) dX11_plainOf_24 rfl ?_
        refine vI1 hX (pc := 25) sX11_253 (xs_49 hL) (c6_X11_positiveOf l0 hL cI_4  (by omega) w4 (zEV_ch kI_4 (by decide) (by decide) hV) bI_4 hGp hrec) (by omega) (Nat.le_refl 0) (Nat.le_refl 0) (Nat.le_of_ble_eq_true rfl) dX11_plainOf_25 (fun x_25 I_25 J_25 h_25 => ?_)
        have kJ_25 : Kp 49 73 Ja J_25 := Kp_tr kJ_4 h_25.2.1
        have kI_25 : Ch [] [19, 21] Ia I_25 := Ch_tr kI_4 (Ch_wd h_25.1 (by decide) (by decide))
        have cI_25 : RX I_25 := h_25.2.2.1
        have qI_25 := RX_w cI_25
        have f20_I_25 : I_25 49 20 = I_4 49 20 := h_25.1.2 20 (by decide)
        have vI_25 : EV I_25 t c b := h_25.2.2.2.1
        have oI_25 := EV_o vI_25
        have yI_25 := h_25.2.2.2.2
        have bI_25 : zB1 I_25 := yI_25.1
        refine ww_iload_n hX (pc := 28) dX11_plainOf_28 rfl ?_
        refine ww_icmp_eq hX (pc := 29) (tgt := 36) dX11_plainOf_29 (by decide) (fun h_29 => ?_) (fun h_29 => ?_)
        · simp only [w32_mod] at h_29
          refine ww_iconst hX (pc := 36) (x := 0) dX11_plainOf_36 rfl ?_
          refine rZ hX (pc := 37) hT (Nat.le_refl 0) (Nat.le_refl 0) dX11_plainOf_37 (by decide) ?_
          exact ⟨kI_25, kJ_25, cI_25, vI_25, bI_25, by omega, zRv_fl hDp (zRv_cg yI_25.2.2 (by omega) rfl) yI_25.2.1 (fun g => by omega) (fun g => by omega)⟩
        · simp only [w32_mod] at h_29
          refine ww_iconst hX (pc := 32) (x := 1) dX11_plainOf_32 rfl ?_
          refine ww_goto hX (pc := 33) (tgt := 37) dX11_plainOf_33 (by decide) ?_
          refine rZ hX (pc := 37) hT (Nat.le_refl 0) (Nat.le_refl 0) dX11_plainOf_37 (by decide) ?_
          exact ⟨kI_25, kJ_25, cI_25, vI_25, bI_25, by omega, zRv_fl hDp (zRv_cg yI_25.2.2 (by omega) rfl) yI_25.2.1 (fun g => by omega) (fun g => by omega)⟩
      · simp only [w32_mod] at h_7
        have hc9 := PS_1 yI_4.2 (by omega)
        have hz9 := EV_z (i := p9) vI2 (by omega)
        have hN9 := zHN_op hH2 hc9 (by omega)
        have hle9 := zHN_le hN9
        have w4 : EV I_4 t c (p9 + 1) := EV_to vI_4 (by omega)
        refine ww_iload_n hX (pc := 10) dX11_plainOf_10 rfl ?_
        refine ww_if_ne hX (pc := 11) (tgt := 18) dX11_plainOf_11 (by decide) (fun h_11 => ?_) (fun h_11 => ?_)
        · simp only [w32_mod] at h_11
          refine ww_iconst hX (pc := 18) (x := 0) dX11_plainOf_18 rfl ?_
          refine ww_istore_n hX (pc := 19) (lv' := [some (kR (some 49)), some (kI la), some (kI 0)]) dX11_plainOf_19 (by decide) rfl rfl ?_
          refine ww_goto hX (pc := 20) (tgt := 2) dX11_plainOf_20 (by decide) ?_
          exact ih_2 _ (by have hm9 := Sh0_e hq_2; omega) 0 I_4 J_4 rfl ⟨kI_4, cI_4, kJ_4, by omega, ⟨p9 + 1, w4, bI_4, by omega, (by have hN8 := hN9; first | exact hN8 | (rw [show (1 : Int) - ng = 1 by omega] at hN8; exact hN8) | (rw [show (1 : Int) - ng = 0 by omega] at hN8; exact hN8))⟩⟩
        · simp only [w32_mod] at h_11
          refine ww_iconst hX (pc := 14) (x := 1) dX11_plainOf_14 rfl ?_
          refine ww_goto hX (pc := 15) (tgt := 19) dX11_plainOf_15 (by decide) ?_
          refine ww_istore_n hX (pc := 19) (lv' := [some (kR (some 49)), some (kI la), some (kI 1)]) dX11_plainOf_19 (by decide) rfl rfl ?_
          refine ww_goto hX (pc := 20) (tgt := 2) dX11_plainOf_20 (by decide) ?_
          exact ih_2 _ (by have hm9 := Sh0_e hq_2; omega) 1 I_4 J_4 rfl ⟨kI_4, cI_4, kJ_4, by omega, ⟨p9 + 1, w4, bI_4, by omega, (by have hN8 := hN9; first | exact hN8 | (rw [show (1 : Int) - ng = 1 by omega] at hN8; exact hN8) | (rw [show (1 : Int) - ng = 0 by omega] at hN8; exact hN8))⟩⟩
  exact hl_2 _ 0 Ia Ja rfl ⟨Ch_rf, hQ, (Kp_rf (a := 49) (b := 73)), by omega, ⟨a, hE, hB, rfl, hNa⟩⟩
set_option maxHeartbeats 4000000 in
set_option maxRecDepth 20000 in
theorem c6_X11_bothOf (l0 : Launch) {Ia Ja : aI1} {Ra : aR1} {Sa : aS1} (hL : LY Ra Sa) (hQ : RX Ia) {la : Int} (hla : 0 ≤ la ∧ la ≤ 1) {t a : Nat} {c : Nat → Int} (hE : EV Ia t c a) {vl : Nat → Int} {en : zE} (hV : zEV Ia t vl en) (hB : zB1 Ia) {m b : Nat} {D : zD} (hG : zG (zBo (zTu c vl m) (zS c vl m) c) a b D) (hrec : ∀ mp, m = mp + 1 → VTest l0 mp)  : CT l0 (4 * m + 8) 0 0 mX11_bothOf [kR (some 49), kI la] Ia Ja Ra Sa (cI (fun x I' J' => Ch [] [19, 21] Ia I' ∧ Kp 49 73 Ja J' ∧ RX I' ∧ EV I' t c b ∧ zB1 I' ∧ (0 ≤ x ∧ x ≤ 1) ∧ zRv la (Ia 49 21) (I' 49 21) x (D en)) Ra Sa) := by
  refine ct_in pn_X11 (Nat.le_of_ble_eq_true rfl) (fun X hX hT hIn => ?_)
  have hX : aK l0 X cX11_bothOf 4 RX11 (some .boolean) (4 * m + 8) 0 0 := hX
  change WW X 0 [some (kR (some 49)), some (kI la), none, none] [] Ia Ja Ra Sa 0 0
  have qIa := RX_w hQ
  have oIa := EV_o hE
  obtain ⟨a1, D1, hG1, hRs⟩ := zG_sq (P := zPl (zTu c vl m) (zS c vl m) c) (ops := [4]) (jn := zJB) hG
  have hle1 := zHR_l (zPl_l m) hRs
  refine ww_aload_n hX (pc := 0) dX11_bothOf_0 rfl ?_
  refine ww_iload_n hX (pc := 1) dX11_bothOf_1 rfl ?_
  refine vI1 hX (pc := 2) sX11_250 (xs_49 hL) (c6_X11_plainOf l0 hL hQ  (by omega) hE hV hB hG1 hrec) (by omega) (Nat.le_refl 0) (Nat.le_refl 0) (Nat.le_of_ble_eq_true rfl) dX11_bothOf_2 (fun x_2 I_2 J_2 h_2 => ?_)
  have kJ_2 : Kp 49 73 Ja J_2 := Kp_tr (Kp_rf (a := 49) (b := 73)) h_2.2.1
  have kI_2 : Ch [] [19, 21] Ia I_2 := Ch_tr Ch_rf (Ch_wd h_2.1 (by decide) (by decide))
  have cI_2 : RX I_2 := h_2.2.2.1
  have qI_2 := RX_w cI_2
  have f20_I_2 : I_2 49 20 = Ia 49 20 := h_2.1.2 20 (by decide)
  have vI_2 : EV I_2 t c a1 := h_2.2.2.2.1
  have oI_2 := EV_o vI_2
  have yI_2 := h_2.2.2.2.2
  have bI_2 : zB1 I_2 := yI_2.1
  refine ww_istore_n hX (pc := 5) (lv' := [some (kR (some 49)), some (kI la), some (kI x_2), none]) dX11_bothOf_5 (by decide) rfl rfl ?_
  have hl_6 : ∀ (n_6 : Nat) (v9 : Int) (I6 : aI1) (J6 : aI1), (400 * t + b - I6 49 19).toNat = n_6 → (Ch [] [19, 21] Ia I6 ∧ RX I6 ∧ Kp 49 73 Ja J6 ∧ (0 ≤ v9 ∧ v9 ≤ 1) ∧ ∃ (p9 : Nat) (D9 : zD), EV I6 t c p9 ∧ zB1 I6 ∧ zRv la (Ia 49 21) (I6 49 21) v9 (D9 en) ∧ zHR (zPl (zTu c vl m) (zS c vl m) c) [4] zJB c p9 D9 b D) → WW X 6 [some (kR (some 49)), some (kI la), some (kI v9), none] [] I6 J6 Ra Sa 0 0 := by
    intro n_6
    induction n_6 using Nat.strongRecOn with
    | ind n_6 ih_6 =>
      intro v9 I6 J6 hm_6 hv_6
      have hq_6 := Sh0_i hm_6
      clear hm_6
      obtain ⟨kI6, cI6, kJ6, hv9, p9, D9, vI6, bI6, hr6, hR6⟩ := hv_6
      have qI6 := RX_w cI6
      have oI6 := EV_o vI6
      refine ww_aload_n hX (pc := 6) dX11_bothOf_6 rfl ?_
      refine ww_iconst hX (pc := 7) (x := 4) dX11_bothOf_7 rfl ?_
      refine vI1 hX (pc := 8) sX11_240 (xs_49 hL) (c_X11_passes0 l0 hL cI6  (by omega) (by omega) vI6) (by omega) (Nat.le_refl 0) (Nat.le_refl 0) (Nat.le_of_ble_eq_true rfl) dX11_bothOf_8 (fun x_8 I_8 J_8 h_8 => ?_)
      have kJ_8 : Kp 49 73 Ja J_8 := Kp_tr kJ6 h_8.2.1
      have kI_8 : Ch [] [19, 21] Ia I_8 := Ch_tr kI6 (Ch_wd h_8.1 (by decide) (by decide))
      have cI_8 : RX I_8 := h_8.2.2.1
      have qI_8 := RX_w cI_8
      have f20_I_8 : I_8 49 20 = I6 49 20 := h_8.1.2 20 (by decide)
      have f21_I_8 : I_8 49 21 = I6 49 21 := h_8.1.2 21 (by decide)
      have vI_8 : EV I_8 t c (p9 + x_8.toNat) := h_8.2.2.2.1
      have oI_8 := EV_o vI_8
      have yI_8 := h_8.2.2.2.2
      have bI_8 : zB1 I_8 := zB1_e bI6 f21_I_8
      refine ww_if_eq hX (pc := 11) (tgt := 49) dX11_bothOf_11 (by decide) (fun h_11 => ?_) (fun h_11 => ?_)
      · simp only [w32_mod] at h_11
        have hb9 := zHR_no hR6 (by rw [List.mem_singleton]; exact PS_0 yI_8.2 (by omega))
        have w8 : EV I_8 t c p9 := EV_to vI_8 (by omega)
        refine ww_iload_n hX (pc := 49) dX11_bothOf_49 rfl ?_
        refine rZ hX (pc := 50) hT (Nat.le_refl 0) (Nat.le_refl 0) dX11_bothOf_50 (by omega) ?_
        exact ⟨kI_8, kJ_8, cI_8, EV_to w8 hb9.1, bI_8, by omega, (by rw [← hb9.2]; exact zRv_cg hr6 rfl (by omega))⟩
      · simp only [w32_mod] at h_11
        have hop9 := PS_1 yI_8.2 (by omega)
        have hop : c p9 ∈ ([4] : List Int) := by rw [hop9]; decide
        have hz9 := EV_z (i := p9) vI6 (by omega)
        obtain ⟨d9, F9, hT9, hlt9, hR9⟩ := zHR_op hR6 (zPl_l m) hop (by omega)
        have hle9 := zHR_l (zPl_l m) hR9
        have w8 : EV I_8 t c (p9 + 1) := EV_to vI_8 (by omega)
        refine ww_aload_n hX (pc := 14) dX11_bothOf_14 rfl ?_
        refine ww_iload_n hX (pc := 15) dX11_bothOf_15 rfl ?_
        refine ww_if_eq hX (pc := 16) (tgt := 27) dX11_bothOf_16 (by decide) (fun h_16 => ?_) (fun h_16 => ?_)
        · simp only [w32_mod] at h_16
          refine ww_iconst hX (pc := 27) (x := 0) dX11_bothOf_27 rfl ?_
          refine vI1 hX (pc := 28) sX11_250 (xs_49 hL) (c6_X11_plainOf l0 hL cI_8  (by omega) w8 (zEV_ch kI_8 (by decide) (by decide) hV) bI_8 hT9 hrec) (by omega) (Nat.le_refl 0) (Nat.le_refl 0) (Nat.le_of_ble_eq_true rfl) dX11_bothOf_28 (fun x_28 I_28 J_28 h_28 => ?_)
          have kJ_28 : Kp 49 73 Ja J_28 := Kp_tr kJ_8 h_28.2.1
          have kI_28 : Ch [] [19, 21] Ia I_28 := Ch_tr kI_8 (Ch_wd h_28.1 (by decide) (by decide))
          have cI_28 : RX I_28 := h_28.2.2.1
          have qI_28 := RX_w cI_28
          have f20_I_28 : I_28 49 20 = I_8 49 20 := h_28.1.2 20 (by decide)
          have vI_28 : EV I_28 t c d9 := h_28.2.2.2.1
          have oI_28 := EV_o vI_28
          have yI_28 := h_28.2.2.2.2
          have bI_28 : zB1 I_28 := yI_28.1
          refine ww_istore_n hX (pc := 31) (lv' := [some (kR (some 49)), some (kI la), some (kI v9), some (kI x_28)]) dX11_bothOf_31 (by decide) rfl rfl ?_
          refine ww_iload_n hX (pc := 32) dX11_bothOf_32 rfl ?_
          refine ww_if_eq hX (pc := 33) (tgt := 44) dX11_bothOf_33 (by decide) (fun h_33 => ?_) (fun h_33 => ?_)
          · simp only [w32_mod] at h_33
            refine ww_iconst hX (pc := 44) (x := 0) dX11_bothOf_44 rfl ?_
            refine ww_istore_n hX (pc := 45) (lv' := [some (kR (some 49)), some (kI la), some (kI 0), some (kI x_28)]) dX11_bothOf_45 (by decide) rfl rfl ?_
            refine ww_goto hX (pc := 46) (tgt := 6) dX11_bothOf_46 (by decide) ?_
            refine ww_sub [some (kR (some 49)), some (kI la), some (kI 0), none] (aLe_s (aLe_s (aLe_s (aLe_n aLe_0)))) ?_
            exact ih_6 _ (by have hm9 := Sh0_e hq_6; omega) 0 I_28 J_28 rfl ⟨kI_28, cI_28, kJ_28, by omega, ⟨d9, _, vI_28, bI_28, (by rw [zJB_3, show c p9 = 4 from hop9]; exact zRv_jb (by have h9 := hB; unfold zB1 at h9; exact h9) hr6 (zRv_cg yI_28.2.2 (by omega) rfl) (by omega) hv9 yI_28.2.1 (by omega)), hR9⟩⟩
          · simp only [w32_mod] at h_33
            refine ww_iload_n hX (pc := 36) dX11_bothOf_36 rfl ?_
            refine ww_if_eq hX (pc := 37) (tgt := 44) dX11_bothOf_37 (by decide) (fun h_37 => ?_) (fun h_37 => ?_)
            · simp only [w32_mod] at h_37
              refine ww_iconst hX (pc := 44) (x := 0) dX11_bothOf_44 rfl ?_
              refine ww_istore_n hX (pc := 45) (lv' := [some (kR (some 49)), some (kI la), some (kI 0), some (kI x_28)]) dX11_bothOf_45 (by decide) rfl rfl ?_
              refine ww_goto hX (pc := 46) (tgt := 6) dX11_bothOf_46 (by decide) ?_
              refine ww_sub [some (kR (some 49)), some (kI la), some (kI 0), none] (aLe_s (aLe_s (aLe_s (aLe_n aLe_0)))) ?_
              exact ih_6 _ (by have hm9 := Sh0_e hq_6; omega) 0 I_28 J_28 rfl ⟨kI_28, cI_28, kJ_28, by omega, ⟨d9, _, vI_28, bI_28, (by rw [zJB_3, show c p9 = 4 from hop9]; exact zRv_jb (by have h9 := hB; unfold zB1 at h9; exact h9) hr6 (zRv_cg yI_28.2.2 (by omega) rfl) (by omega) hv9 yI_28.2.1 (by omega)), hR9⟩⟩
            · simp only [w32_mod] at h_37
              refine ww_iconst hX (pc := 40) (x := 1) dX11_bothOf_40 rfl ?_
              refine ww_goto hX (pc := 41) (tgt := 45) dX11_bothOf_41 (by decide) ?_
              refine ww_istore_n hX (pc := 45) (lv' := [some (kR (some 49)), some (kI la), some (kI 1), some (kI x_28)]) dX11_bothOf_45 (by decide) rfl rfl ?_
              refine ww_goto hX (pc := 46) (tgt := 6) dX11_bothOf_46 (by decide) ?_
              refine ww_sub [some (kR (some 49)), some (kI la), some (kI 1), none] (aLe_s (aLe_s (aLe_s (aLe_n aLe_0)))) ?_
              exact ih_6 _ (by have hm9 := Sh0_e hq_6; omega) 1 I_28 J_28 rfl ⟨kI_28, cI_28, kJ_28, by omega, ⟨d9, _, vI_28, bI_28, (by rw [zJB_3, show c p9 = 4 from hop9]; exact zRv_jb (by have h9 := hB; unfold zB1 at h9; exact h9) hr6 (zRv_cg yI_28.2.2 (by omega) rfl) (by omega) hv9 yI_28.2.1 (by omega)), hR9⟩⟩
        · simp only [w32_mod] at h_16
          refine ww_iload_n hX (pc := 19) dX11_bothOf_19 rfl ?_
          refine ww_if_eq hX (pc := 20) (tgt := 27) dX11_bothOf_20 (by decide) (fun h_20 => ?_) (fun h_20 => ?_)
          · simp only [w32_mod] at h_20
            refine ww_iconst hX (pc := 27) (x := 0) dX11_bothOf_27 rfl ?_
            refine vI1 hX (pc := 28) sX11_250 (xs_49 hL) (c6_X11_plainOf l0 hL cI_8  (by omega) w8 (zEV_ch kI_8 (by decide) (by decide) hV) bI_8 hT9 hrec) (by omega) (Nat.le_refl 0) (Nat.le_refl 0) (Nat.le_of_ble_eq_true rfl) dX11_bothOf_28 (fun x_28 I_28 J_28 h_28 => ?_)
            have kJ_28 : Kp 49 73 Ja J_28 := Kp_tr kJ_8 h_28.2.1
            have kI_28 : Ch [] [19, 21] Ia I_28 := Ch_tr kI_8 (Ch_wd h_28.1 (by decide) (by decide))
            have cI_28 : RX I_28 := h_28.2.2.1
            have qI_28 := RX_w cI_28
            have f20_I_28 : I_28 49 20 = I_8 49 20 := h_28.1.2 20 (by decide)
            have vI_28 : EV I_28 t c d9 := h_28.2.2.2.1
            have oI_28 := EV_o vI_28
            have yI_28 := h_28.2.2.2.2
            have bI_28 : zB1 I_28 := yI_28.1
            refine ww_istore_n hX (pc := 31) (lv' := [some (kR (some 49)), some (kI la), some (kI v9), some (kI x_28)]) dX11_bothOf_31 (by decide) rfl rfl ?_
            refine ww_iload_n hX (pc := 32) dX11_bothOf_32 rfl ?_
            refine ww_if_eq hX (pc := 33) (tgt := 44) dX11_bothOf_33 (by decide) (fun h_33 => ?_) (fun h_33 => ?_)
            · simp only [w32_mod] at h_33
              refine ww_iconst hX (pc := 44) (x := 0) dX11_bothOf_44 rfl ?_
              refine ww_istore_n hX (pc := 45) (lv' := [some (kR (some 49)), some (kI la), some (kI 0), some (kI x_28)]) dX11_bothOf_45 (by decide) rfl rfl ?_
              refine ww_goto hX (pc := 46) (tgt := 6) dX11_bothOf_46 (by decide) ?_
              refine ww_sub [some (kR (some 49)), some (kI la), some (kI 0), none] (aLe_s (aLe_s (aLe_s (aLe_n aLe_0)))) ?_
              exact ih_6 _ (by have hm9 := Sh0_e hq_6; omega) 0 I_28 J_28 rfl ⟨kI_28, cI_28, kJ_28, by omega, ⟨d9, _, vI_28, bI_28, (by rw [zJB_3, show c p9 = 4 from hop9]; exact zRv_jb (by have h9 := hB; unfold zB1 at h9; exact h9) hr6 (zRv_cg yI_28.2.2 (by omega) rfl) (by omega) hv9 yI_28.2.1 (by omega)), hR9⟩⟩
            · simp only [w32_mod] at h_33
              refine ww_iload_n hX (pc := 36) dX11_bothOf_36 rfl ?_
              refine ww_if_eq hX (pc := 37) (tgt := 44) dX11_bothOf_37 (by decide) (fun h_37 => ?_) (fun h_37 => ?_)
              · simp only [w32_mod] at h_37
                refine ww_iconst hX (pc := 44) (x := 0) dX11_bothOf_44 rfl ?_
                refine ww_istore_n hX (pc := 45) (lv' := [some (kR (some 49)), some (kI la), some (kI 0), some (kI x_28)]) dX11_bothOf_45 (by decide) rfl rfl ?_
                refine ww_goto hX (pc := 46) (tgt := 6) dX11_bothOf_46 (by decide) ?_
                refine ww_sub [some (kR (some 49)), some (kI la), some (kI 0), none] (aLe_s (aLe_s (aLe_s (aLe_n aLe_0)))) ?_
                exact ih_6 _ (by have hm9 := Sh0_e hq_6; omega) 0 I_28 J_28 rfl ⟨kI_28, cI_28, kJ_28, by omega, ⟨d9, _, vI_28, bI_28, (by rw [zJB_3, show c p9 = 4 from hop9]; exact zRv_jb (by have h9 := hB; unfold zB1 at h9; exact h9) hr6 (zRv_cg yI_28.2.2 (by omega) rfl) (by omega) hv9 yI_28.2.1 (by omega)), hR9⟩⟩
              · simp only [w32_mod] at h_37
                refine ww_iconst hX (pc := 40) (x := 1) dX11_bothOf_40 rfl ?_
                refine ww_goto hX (pc := 41) (tgt := 45) dX11_bothOf_41 (by decide) ?_
                refine ww_istore_n hX (pc := 45) (lv' := [some (kR (some 49)), some (kI la), some (kI 1), some (kI x_28)]) dX11_bothOf_45 (by decide) rfl rfl ?_
                refine ww_goto hX (pc := 46) (tgt := 6) dX11_bothOf_46 (by decide) ?_
                refine ww_sub [some (kR (some 49)), some (kI la), some (kI 1), none] (aLe_s (aLe_s (aLe_s (aLe_n aLe_0)))) ?_
                exact ih_6 _ (by have hm9 := Sh0_e hq_6; omega) 1 I_28 J_28 rfl ⟨kI_28, cI_28, kJ_28, by omega, ⟨d9, _, vI_28, bI_28, (by rw [zJB_3, show c p9 = 4 from hop9]; exact zRv_jb (by have h9 := hB; unfold zB1 at h9; exact h9) hr6 (zRv_cg yI_28.2.2 (by omega) rfl) (by omega) hv9 yI_28.2.1 (by omega)), hR9⟩⟩
          · simp only [w32_mod] at h_20
            refine ww_iconst hX (pc := 23) (x := 1) dX11_bothOf_23 rfl ?_
            refine ww_goto hX (pc := 24) (tgt := 28) dX11_bothOf_24 (by decide) ?_
            refine vI1 hX (pc := 28) sX11_250 (xs_49 hL) (c6_X11_plainOf l0 hL cI_8  (by omega) w8 (zEV_ch kI_8 (by decide) (by decide) hV) bI_8 hT9 hrec) (by omega) (Nat.le_refl 0) (Nat.le_refl 0) (Nat.le_of_ble_eq_true rfl) dX11_bothOf_28 (fun x_28 I_28 J_28 h_28 => ?_)
            have kJ_28 : Kp 49 73 Ja J_28 := Kp_tr kJ_8 h_28.2.1
            have kI_28 : Ch [] [19, 21] Ia I_28 := Ch_tr kI_8 (Ch_wd h_28.1 (by decide) (by decide))
            have cI_28 : RX I_28 := h_28.2.2.1
            have qI_28 := RX_w cI_28
            have f20_I_28 : I_28 49 20 = I_8 49 20 := h_28.1.2 20 (by decide)
            have vI_28 : EV I_28 t c d9 := h_28.2.2.2.1
            have oI_28 := EV_o vI_28
            have yI_28 := h_28.2.2.2.2
            have bI_28 : zB1 I_28 := yI_28.1
            refine ww_istore_n hX (pc := 31) (lv' := [some (kR (some 49)), some (kI la), some (kI v9), some (kI x_28)]) dX11_bothOf_31 (by decide) rfl rfl ?_
            refine ww_iload_n hX (pc := 32) dX11_bothOf_32 rfl ?_
            refine ww_if_eq hX (pc := 33) (tgt := 44) dX11_bothOf_33 (by decide) (fun h_33 => ?_) (fun h_33 => ?_)
            · simp only [w32_mod] at h_33
              refine ww_iconst hX (pc := 44) (x := 0) dX11_bothOf_44 rfl ?_
              refine ww_istore_n hX (pc := 45) (lv' := [some (kR (some 49)), some (kI la), some (kI 0), some (kI x_28)]) dX11_bothOf_45 (by decide) rfl rfl ?_
              refine ww_goto hX (pc := 46) (tgt := 6) dX11_bothOf_46 (by decide) ?_
              refine ww_sub [some (kR (some 49)), some (kI la), some (kI 0), none] (aLe_s (aLe_s (aLe_s (aLe_n aLe_0)))) ?_
              exact ih_6 _ (by have hm9 := Sh0_e hq_6; omega) 0 I_28 J_28 rfl ⟨kI_28, cI_28, kJ_28, by omega, ⟨d9, _, vI_28, bI_28, (by rw [zJB_3, show c p9 = 4 from hop9]; exact zRv_jb (by have h9 := hB; unfold zB1 at h9; exact h9) hr6 (zRv_cg yI_28.2.2 (by omega) rfl) (by omega) hv9 yI_28.2.1 (by omega)), hR9⟩⟩
            · simp only [w32_mod] at h_33
              refine ww_iload_n hX (pc := 36) dX11_bothOf_36 rfl ?_
              refine ww_if_eq hX (pc := 37) (tgt := 44) dX11_bothOf_37 (by decide) (fun h_37 => ?_) (fun h_37 => ?_)
              · simp only [w32_mod] at h_37
                refine ww_iconst hX (pc := 44) (x := 0) dX11_bothOf_44 rfl ?_
                refine ww_istore_n hX (pc := 45) (lv' := [some (kR (some 49)), some (kI la), some (kI 0), some (kI x_28)]) dX11_bothOf_45 (by decide) rfl rfl ?_
                refine ww_goto hX (pc := 46) (tgt := 6) dX11_bothOf_46 (by decide) ?_
                refine ww_sub [some (kR (some 49)), some (kI la), some (kI 0), none] (aLe_s (aLe_s (aLe_s (aLe_n aLe_0)))) ?_
                exact ih_6 _ (by have hm9 := Sh0_e hq_6; omega) 0 I_28 J_28 rfl ⟨kI_28, cI_28, kJ_28, by omega, ⟨d9, _, vI_28, bI_28, (by rw [zJB_3, show c p9 = 4 from hop9]; exact zRv_jb (by have h9 := hB; unfold zB1 at h9; exact h9) hr6 (zRv_cg yI_28.2.2 (by omega) rfl) (by omega) hv9 yI_28.2.1 (by omega)), hR9⟩⟩
              · simp only [w32_mod] at h_37
                refine ww_iconst hX (pc := 40) (x := 1) dX11_bothOf_40 rfl ?_
                refine ww_goto hX (pc := 41) (tgt := 45) dX11_bothOf_41 (by decide) ?_
                refine ww_istore_n hX (pc := 45) (lv' := [some (kR (some 49)), some (kI la), some (kI 1), some (kI x_28)]) dX11_bothOf_45 (by decide) rfl rfl ?_
                refine ww_goto hX (pc := 46) (tgt := 6) dX11_bothOf_46 (by decide) ?_
                refine ww_sub [some (kR (some 49)), some (kI la), some (kI 1), none] (aLe_s (aLe_s (aLe_s (aLe_n aLe_0)))) ?_
                exact ih_6 _ (by have hm9 := Sh0_e hq_6; omega) 1 I_28 J_28 rfl ⟨kI_28, cI_28, kJ_28, by omega, ⟨d9, _, vI_28, bI_28, (by rw [zJB_3, show c p9 = 4 from hop9]; exact zRv_jb (by have h9 := hB; unfold zB1 at h9; exact h9) hr6 (zRv_cg yI_28.2.2 (by omega) rfl) (by omega) hv9 yI_28.2.1 (by omega)), hR9⟩⟩
  exact hl_6 _ x_2 I_2 J_2 rfl ⟨kI_2, cI_2, kJ_2, by omega, ⟨a1, D1, vI_2, bI_2, yI_2.2.2, hRs⟩⟩
set_option maxHeartbeats 4000000 in
set_option maxRecDepth 20000 in
theorem c6_X11_testOf (l0 : Launch) {Ia Ja : aI1} {Ra : aR1} {Sa : aS1} (hL : LY Ra Sa) (hQ : RX Ia) {la : Int} (hla : 0 ≤ la ∧ la ≤ 1) {t a : Nat} {c : Nat → Int} (hE : EV Ia t c a) {vl : Nat → Int} {en : zE} (hV : zEV Ia t vl en) (hB : zB1 Ia) {m b : Nat} {D : zD} (hG : zG (zT c vl m) a b D) (hrec : ∀ mp, m = mp + 1 → VTest l0 mp)  : CT l0 (4 * m + 9) 0 0 mX11_testOf [kR (some 49), kI la] Ia Ja Ra Sa (cI (fun x I' J' => Ch [] [19, 21] Ia I' ∧ Kp 49 73 Ja J' ∧ RX I' ∧ EV I' t c b ∧ zB1 I' ∧ (0 ≤ x ∧ x ≤ 1) ∧ zRv la (Ia 49 21) (I' 49 21) x (D en)) Ra Sa) := by
  refine ct_in pn_X11 (Nat.le_of_ble_eq_true rfl) (fun X hX hT hIn => ?_)
  have hX : aK l0 X cX11_testOf 4 RX11 (some .boolean) (4 * m + 9) 0 0 := hX
  change WW X 0 [some (kR (some 49)), some (kI la), none, none] [] Ia Ja Ra Sa 0 0
  have qIa := RX_w hQ
  have oIa := EV_o hE
  obtain ⟨a1, D1, hG1, hRs⟩ := zG_sq (P := zBo (zTu c vl m) (zS c vl m) c) (ops := [3]) (jn := zJB) hG
  have hle1 := zHR_l (zBo_l m) hRs
  refine ww_aload_n hX (pc := 0) dX11_testOf_0 rfl ?_
  refine ww_iload_n hX (pc := 1) dX11_testOf_1 rfl ?_
  refine vI1 hX (pc := 2) sX11_246 (xs_49 hL) (c6_X11_bothOf l0 hL hQ  (by omega) hE hV hB hG1 hrec) (by omega) (Nat.le_refl 0) (Nat.le_refl 0) (Nat.le_of_ble_eq_true rfl) dX11_testOf_2 (fun x_2 I_2 J_2 h_2 => ?_)
  have kJ_2 : Kp 49 73 Ja J_2 := Kp_tr (Kp_rf (a := 49) (b := 73)) h_2.2.1
  have kI_2 : Ch [] [19, 21] Ia I_2 := Ch_tr Ch_rf (Ch_wd h_2.1 (by decide) (by decide))
  have cI_2 : RX I_2 := h_2.2.2.1
  have qI_2 := RX_w cI_2
  have f20_I_2 : I_2 49 20 = Ia 49 20 := h_2.1.2 20 (by decide)
  have vI_2 : EV I_2 t c a1 := h_2.2.2.2.1
  have oI_2 := EV_o vI_2
  have yI_2 := h_2.2.2.2.2
  have bI_2 : zB1 I_2 := yI_2.1
  refine ww_istore_n hX (pc := 5) (lv' := [some (kR (some 49)), some (kI la), some (kI x_2), none]) dX11_testOf_5 (by decide) rfl rfl ?_
  have hl_6 : ∀ (n_6 : Nat) (v9 : Int) (I6 : aI1) (J6 : aI1), (400 * t + b - I6 49 19).toNat = n_6 → (Ch [] [19, 21] Ia I6 ∧ RX I6 ∧ Kp 49 73 Ja J6 ∧ (0 ≤ v9 ∧ v9 ≤ 1) ∧ ∃ (p9 : Nat) (D9 : zD), EV I6 t c p9 ∧ zB1 I6 ∧ zRv la (Ia 49 21) (I6 49 21) v9 (D9 en) ∧ zHR (zBo (zTu c vl m) (zS c vl m) c) [3] zJB c p9 D9 b D) → WW X 6 [some (kR (some 49)), some (kI la), some (kI v9), none] [] I6 J6 Ra Sa 0 0 := by
    intro n_6
    induction n_6 using Nat.strongRecOn with
    | ind n_6 ih_6 =>
      intro v9 I6 J6 hm_6 hv_6
      have hq_6 := Sh0_i hm_6
      clear hm_6
      obtain ⟨kI6, cI6, kJ6, hv9, p9, D9, vI6, bI6, hr6, hR6⟩ := hv_6
      have qI6 := RX_w cI6
      have oI6 := EV_o vI6
      refine ww_aload_n hX (pc := 6) dX11_testOf_6 rfl ?_
      refine ww_iconst hX (pc := 7) (x := 3) dX11_testOf_7 rfl ?_
      refine vI1 hX (pc := 8) sX11_240 (xs_49 hL) (c_X11_passes0 l0 hL cI6  (by omega) (by omega) vI6) (by omega) (Nat.le_refl 0) (Nat.le_refl 0) (Nat.le_of_ble_eq_true rfl) dX11_testOf_8 (fun x_8 I_8 J_8 h_8 => ?_)
      have kJ_8 : Kp 49 73 Ja J_8 := Kp_tr kJ6 h_8.2.1
      have kI_8 : Ch [] [19, 21] Ia I_8 := Ch_tr kI6 (Ch_wd h_8.1 (by decide) (by decide))
      have cI_8 : RX I_8 := h_8.2.2.1
      have qI_8 := RX_w cI_8
      have f20_I_8 : I_8 49 20 = I6 49 20 := h_8.1.2 20 (by decide)
      have f21_I_8 : I_8 49 21 = I6 49 21 := h_8.1.2 21 (by decide)
      have vI_8 : EV I_8 t c (p9 + x_8.toNat) := h_8.2.2.2.1
      have oI_8 := EV_o vI_8
      have yI_8 := h_8.2.2.2.2
      have bI_8 : zB1 I_8 := zB1_e bI6 f21_I_8
      refine ww_if_eq hX (pc := 11) (tgt := 49) dX11_testOf_11 (by decide) (fun h_11 => ?_) (fun h_11 => ?_)
      · simp only [w32_mod] at h_11
        have hb9 := zHR_no hR6 (by rw [List.mem_singleton]; exact PS_0 yI_8.2 (by omega))
        have w8 : EV I_8 t c p9 := EV_to vI_8 (by omega)
        refine ww_iload_n hX (pc := 49) dX11_testOf_49 rfl ?_
        refine rZ hX (pc := 50) hT (Nat.le_refl 0) (Nat.le_refl 0) dX11_testOf_50 (by omega) ?_
        exact ⟨kI_8, kJ_8, cI_8, EV_to w8 hb9.1, bI_8, by omega, (by rw [← hb9.2]; exact zRv_cg hr6 rfl (by omega))⟩
      · simp only [w32_mod] at h_11
        have hop9 := PS_1 yI_8.2 (by omega)
        have hop : c p9 ∈ ([3] : List Int) := by rw [hop9]; decide
        have hz9 := EV_z (i := p9) vI6 (by omega)
        obtain ⟨d9, F9, hT9, hlt9, hR9⟩ := zHR_op hR6 (zBo_l m) hop (by omega)
        have hle9 := zHR_l (zBo_l m) hR9
        have w8 : EV I_8 t c (p9 + 1) := EV_to vI_8 (by omega)
        refine ww_aload_n hX (pc := 14) dX11_testOf_14 rfl ?_
        refine ww_iload_n hX (pc := 15) dX11_testOf_15 rfl ?_
        refine ww_if_eq hX (pc := 16) (tgt := 27) dX11_testOf_16 (by decide) (fun h_16 => ?_) (fun h_16 => ?_)
        · simp only [w32_mod] at h_16
          refine ww_iconst hX (pc := 27) (x := 0) dX11_testOf_27 rfl ?_
          refine vI1 hX (pc := 28) sX11_246 (xs_49 hL) (c6_X11_bothOf l0 hL cI_8  (by omega) w8 (zEV_ch kI_8 (by decide) (by decide) hV) bI_8 hT9 hrec) (by omega) (Nat.le_refl 0) (Nat.le_refl 0) (Nat.le_of_ble_eq_true rfl) dX11_testOf_28 (fun x_28 I_28 J_28 h_28 => ?_)
          have kJ_28 : Kp 49 73 Ja J_28 := Kp_tr kJ_8 h_28.2.1
          have kI_28 : Ch [] [19, 21] Ia I_28 := Ch_tr kI_8 (Ch_wd h_28.1 (by decide) (by decide))
          have cI_28 : RX I_28 := h_28.2.2.1
          have qI_28 := RX_w cI_28
          have f20_I_28 : I_28 49 20 = I_8 49 20 := h_28.1.2 20 (by decide)
          have vI_28 : EV I_28 t c d9 := h_28.2.2.2.1
          have oI_28 := EV_o vI_28
          have yI_28 := h_28.2.2.2.2
          have bI_28 : zB1 I_28 := yI_28.1
          refine ww_istore_n hX (pc := 31) (lv' := [some (kR (some 49)), some (kI la), some (kI v9), some (kI x_28)]) dX11_testOf_31 (by decide) rfl rfl ?_
          refine ww_iload_n hX (pc := 32) dX11_testOf_32 rfl ?_
          refine ww_if_ne hX (pc := 33) (tgt := 40) dX11_testOf_33 (by decide) (fun h_33 => ?_) (fun h_33 => ?_)
          · simp only [w32_mod] at h_33
            refine ww_iconst hX (pc := 40) (x := 1) dX11_testOf_40 rfl ?_
            refine ww_goto hX (pc := 41) (tgt := 45) dX11_testOf_41 (by decide) ?_
            refine ww_istore_n hX (pc := 45) (lv' := [some (kR (some 49)), some (kI la), some (kI 1), some (kI x_28)]) dX11_testOf_45 (by decide) rfl rfl ?_
            refine ww_goto hX (pc := 46) (tgt := 6) dX11_testOf_46 (by decide) ?_
            refine ww_sub [some (kR (some 49)), some (kI la), some (kI 1), none] (aLe_s (aLe_s (aLe_s (aLe_n aLe_0)))) ?_
            exact ih_6 _ (by have hm9 := Sh0_e hq_6; omega) 1 I_28 J_28 rfl ⟨kI_28, cI_28, kJ_28, by omega, ⟨d9, _, vI_28, bI_28, (by rw [zJB_3, show c p9 = 3 from hop9]; exact zRv_jb (by have h9 := hB; unfold zB1 at h9; exact h9) hr6 (zRv_cg yI_28.2.2 (by omega) rfl) (by omega) hv9 yI_28.2.1 (by omega)), hR9⟩⟩
          · simp only [w32_mod] at h_33
            refine ww_iload_n hX (pc := 36) dX11_testOf_36 rfl ?_
            refine ww_if_eq hX (pc := 37) (tgt := 44) dX11_testOf_37 (by decide) (fun h_37 => ?_) (fun h_37 => ?_)
            · simp only [w32_mod] at h_37
              refine ww_iconst hX (pc := 44) (x := 0) dX11_testOf_44 rfl ?_
              refine ww_istore_n hX (pc := 45) (lv' := [some (kR (some 49)), some (kI la), some (kI 0), some (kI x_28)]) dX11_testOf_45 (by decide) rfl rfl ?_
              refine ww_goto hX (pc := 46) (tgt := 6) dX11_testOf_46 (by decide) ?_
              refine ww_sub [some (kR (some 49)), some (kI la), some (kI 0), none] (aLe_s (aLe_s (aLe_s (aLe_n aLe_0)))) ?_
              exact ih_6 _ (by have hm9 := Sh0_e hq_6; omega) 0 I_28 J_28 rfl ⟨kI_28, cI_28, kJ_28, by omega, ⟨d9, _, vI_28, bI_28, (by rw [zJB_3, show c p9 = 3 from hop9]; exact zRv_jb (by have h9 := hB; unfold zB1 at h9; exact h9) hr6 (zRv_cg yI_28.2.2 (by omega) rfl) (by omega) hv9 yI_28.2.1 (by omega)), hR9⟩⟩
            · simp only [w32_mod] at h_37
              refine ww_iconst hX (pc := 40) (x := 1) dX11_testOf_40 rfl ?_
              refine ww_goto hX (pc := 41) (tgt := 45) dX11_testOf_41 (by decide) ?_
              refine ww_istore_n hX (pc := 45) (lv' := [some (kR (some 49)), some (kI la), some (kI 1), some (kI x_28)]) dX11_testOf_45 (by decide) rfl rfl ?_
              refine ww_goto hX (pc := 46) (tgt := 6) dX11_testOf_46 (by decide) ?_
              refine ww_sub [some (kR (some 49)), some (kI la), some (kI 1), none] (aLe_s (aLe_s (aLe_s (aLe_n aLe_0)))) ?_
              exact ih_6 _ (by have hm9 := Sh0_e hq_6; omega) 1 I_28 J_28 rfl ⟨kI_28, cI_28, kJ_28, by omega, ⟨d9, _, vI_28, bI_28, (by rw [zJB_3, show c p9 = 3 from hop9]; exact zRv_jb (by have h9 := hB; unfold zB1 at h9; exact h9) hr6 (zRv_cg yI_28.2.2 (by omega) rfl) (by omega) hv9 yI_28.2.1 (by omega)), hR9⟩⟩
        · simp only [w32_mod] at h_16
          refine ww_iload_n hX (pc := 19) dX11_testOf_19 rfl ?_
          refine ww_if_ne hX (pc := 20) (tgt := 27) dX11_testOf_20 (by decide) (fun h_20 => ?_) (fun h_20 => ?_)
          · simp only [w32_mod] at h_20
            refine ww_iconst hX (pc := 27) (x := 0) dX11_testOf_27 rfl ?_
            refine vI1 hX (pc := 28) sX11_246 (xs_49 hL) (c6_X11_bothOf l0 hL cI_8  (by omega) w8 (zEV_ch kI_8 (by decide) (by decide) hV) bI_8 hT9 hrec) (by omega) (Nat.le_refl 0) (Nat.le_refl 0) (Nat.le_of_ble_eq_true rfl) dX11_testOf_28 (fun x_28 I_28 J_28 h_28 => ?_)
            have kJ_28 : Kp 49 73 Ja J_28 := Kp_tr kJ_8 h_28.2.1
            have kI_28 : Ch [] [19, 21] Ia I_28 := Ch_tr kI_8 (Ch_wd h_28.1 (by decide) (by decide))
            have cI_28 : RX I_28 := h_28.2.2.1
            have qI_28 := RX_w cI_28
            have f20_I_28 : I_28 49 20 = I_8 49 20 := h_28.1.2 20 (by decide)
            have vI_28 : EV I_28 t c d9 := h_28.2.2.2.1
            have oI_28 := EV_o vI_28
            have yI_28 := h_28.2.2.2.2
            have bI_28 : zB1 I_28 := yI_28.1
            refine ww_istore_n hX (pc := 31) (lv' := [some (kR (some 49)), some (kI la), some (kI v9), some (kI x_28)]) dX11_testOf_31 (by decide) rfl rfl ?_
            refine ww_iload_n hX (pc := 32) dX11_testOf_32 rfl ?_
            refine ww_if_ne hX (pc := 33) (tgt := 40) dX11_testOf_33 (by decide) (fun h_33 => ?_) (fun h_33 => ?_)
            · simp only [w32_mod] at h_33
              refine ww_iconst hX (pc := 40) (x := 1) dX11_testOf_40 rfl ?_
              refine ww_goto hX (pc := 41) (tgt := 45) dX11_testOf_41 (by decide) ?_
              refine ww_istore_n hX (pc := 45) (lv' := [some (kR (some 49)), some (kI la), some (kI 1), some (kI x_28)]) dX11_testOf_45 (by decide) rfl rfl ?_
              refine ww_goto hX (pc := 46) (tgt := 6) dX11_testOf_46 (by decide) ?_
              refine ww_sub [some (kR (some 49)), some (kI la), some (kI 1), none] (aLe_s (aLe_s (aLe_s (aLe_n aLe_0)))) ?_
              exact ih_6 _ (by have hm9 := Sh0_e hq_6; omega) 1 I_28 J_28 rfl ⟨kI_28, cI_28, kJ_28, by omega, ⟨d9, _, vI_28, bI_28, (by rw [zJB_3, show c p9 = 3 from hop9]; exact zRv_jb (by have h9 := hB; unfold zB1 at h9; exact h9) hr6 (zRv_cg yI_28.2.2 (by omega) rfl) (by omega) hv9 yI_28.2.1 (by omega)), hR9⟩⟩
            · simp only [w32_mod] at h_33
              refine ww_iload_n hX (pc := 36) dX11_testOf_36 rfl ?_
              refine ww_if_eq hX (pc := 37) (tgt := 44) dX11_testOf_37 (by decide) (fun h_37 => ?_) (fun h_37 => ?_)
              · simp only [w32_mod] at h_37
                refine ww_iconst hX (pc := 44) (x := 0) dX11_testOf_44 rfl ?_
                refine ww_istore_n hX (pc := 45) (lv' := [some (kR (some 49)), some (kI la), some (kI 0), some (kI x_28)]) dX11_testOf_45 (by decide) rfl rfl ?_
                refine ww_goto hX (pc := 46) (tgt := 6) dX11_testOf_46 (by decide) ?_
                refine ww_sub [some (kR (some 49)), some (kI la), some (kI 0), none] (aLe_s (aLe_s (aLe_s (aLe_n aLe_0)))) ?_
                exact ih_6 _ (by have hm9 := Sh0_e hq_6; omega) 0 I_28 J_28 rfl ⟨kI_28, cI_28, kJ_28, by omega, ⟨d9, _, vI_28, bI_28, (by rw [zJB_3, show c p9 = 3 from hop9]; exact zRv_jb (by have h9 := hB; unfold zB1 at h9; exact h9) hr6 (zRv_cg yI_28.2.2 (by omega) rfl) (by omega) hv9 yI_28.2.1 (by omega)), hR9⟩⟩
              · simp only [w32_mod] at h_37
                refine ww_iconst hX (pc := 40) (x := 1) dX11_testOf_40 rfl ?_
                refine ww_goto hX (pc := 41) (tgt := 45) dX11_testOf_41 (by decide) ?_
                refine ww_istore_n hX (pc := 45) (lv' := [some (kR (some 49)), some (kI la), some (kI 1), some (kI x_28)]) dX11_testOf_45 (by decide) rfl rfl ?_
                refine ww_goto hX (pc := 46) (tgt := 6) dX11_testOf_46 (by decide) ?_
                refine ww_sub [some (kR (some 49)), some (kI la), some (kI 1), none] (aLe_s (aLe_s (aLe_s (aLe_n aLe_0)))) ?_
                exact ih_6 _ (by have hm9 := Sh0_e hq_6; omega) 1 I_28 J_28 rfl ⟨kI_28, cI_28, kJ_28, by omega, ⟨d9, _, vI_28, bI_28, (by rw [zJB_3, show c p9 = 3 from hop9]; exact zRv_jb (by have h9 := hB; unfold zB1 at h9; exact h9) hr6 (zRv_cg yI_28.2.2 (by omega) rfl) (by omega) hv9 yI_28.2.1 (by omega)), hR9⟩⟩
          · simp only [w32_mod] at h_20
            refine ww_iconst hX (pc := 23) (x := 1) dX11_testOf_23 rfl ?_
            refine ww_goto hX (pc := 24) (tgt := 28) dX11_testOf_24 (by decide) ?_
            refine vI1 hX (pc := 28) sX11_246 (xs_49 hL) (c6_X11_bothOf l0 hL cI_8  (by omega) w8 (zEV_ch kI_8 (by decide) (by decide) hV) bI_8 hT9 hrec) (by omega) (Nat.le_refl 0) (Nat.le_refl 0) (Nat.le_of_ble_eq_true rfl) dX11_testOf_28 (fun x_28 I_28 J_28 h_28 => ?_)
            have kJ_28 : Kp 49 73 Ja J_28 := Kp_tr kJ_8 h_28.2.1
            have kI_28 : Ch [] [19, 21] Ia I_28 := Ch_tr kI_8 (Ch_wd h_28.1 (by decide) (by decide))
            have cI_28 : RX I_28 := h_28.2.2.1
            have qI_28 := RX_w cI_28
            have f20_I_28 : I_28 49 20 = I_8 49 20 := h_28.1.2 20 (by decide)
            have vI_28 : EV I_28 t c d9 := h_28.2.2.2.1
            have oI_28 := EV_o vI_28
            have yI_28 := h_28.2.2.2.2
            have bI_28 : zB1 I_28 := yI_28.1
            refine ww_istore_n hX (pc := 31) (lv' := [some (kR (some 49)), some (kI la), some (kI v9), some (kI x_28)]) dX11_testOf_31 (by decide) rfl rfl ?_
            refine ww_iload_n hX (pc := 32) dX11_testOf_32 rfl ?_
            refine ww_if_ne hX (pc := 33) (tgt := 40) dX11_testOf_33 (by decide) (fun h_33 => ?_) (fun h_33 => ?_)
            · simp only [w32_mod] at h_33
              refine ww_iconst hX (pc := 40) (x := 1) dX11_testOf_40 rfl ?_
              refine ww_goto hX (pc := 41) (tgt := 45) dX11_testOf_41 (by decide) ?_
              refine ww_istore_n hX (pc := 45) (lv' := [some (kR (some 49)), some (kI la), some (kI 1), some (kI x_28)]) dX11_testOf_45 (by decide) rfl rfl ?_
              refine ww_goto hX (pc := 46) (tgt := 6) dX11_testOf_46 (by decide) ?_
              refine ww_sub [some (kR (some 49)), some (kI la), some (kI 1), none] (aLe_s (aLe_s (aLe_s (aLe_n aLe_0)))) ?_
              exact ih_6 _ (by have hm9 := Sh0_e hq_6; omega) 1 I_28 J_28 rfl ⟨kI_28, cI_28, kJ_28, by omega, ⟨d9, _, vI_28, bI_28, (by rw [zJB_3, show c p9 = 3 from hop9]; exact zRv_jb (by have h9 := hB; unfold zB1 at h9; exact h9) hr6 (zRv_cg yI_28.2.2 (by omega) rfl) (by omega) hv9 yI_28.2.1 (by omega)), hR9⟩⟩
            · simp only [w32_mod] at h_33
              refine ww_iload_n hX (pc := 36) dX11_testOf_36 rfl ?_
              refine ww_if_eq hX (pc := 37) (tgt := 44) dX11_testOf_37 (by decide) (fun h_37 => ?_) (fun h_37 => ?_)
              · simp only [w32_mod] at h_37
                refine ww_iconst hX (pc := 44) (x := 0) dX11_testOf_44 rfl ?_
                refine ww_istore_n hX (pc := 45) (lv' := [some (kR (some 49)), some (kI la), some (kI 0), some (kI x_28)]) dX11_testOf_45 (by decide) rfl rfl ?_
                refine ww_goto hX (pc := 46) (tgt := 6) dX11_testOf_46 (by decide) ?_
                refine ww_sub [some (kR (some 49)), some (kI la), some (kI 0), none] (aLe_s (aLe_s (aLe_s (aLe_n aLe_0)))) ?_
                exact ih_6 _ (by have hm9 := Sh0_e hq_6; omega) 0 I_28 J_28 rfl ⟨kI_28, cI_28, kJ_28, by omega, ⟨d9, _, vI_28, bI_28, (by rw [zJB_3, show c p9 = 3 from hop9]; exact zRv_jb (by have h9 := hB; unfold zB1 at h9; exact h9) hr6 (zRv_cg yI_28.2.2 (by omega) rfl) (by omega) hv9 yI_28.2.1 (by omega)), hR9⟩⟩
              · simp only [w32_mod] at h_37
                refine ww_iconst hX (pc := 40) (x := 1) dX11_testOf_40 rfl ?_
                refine ww_goto hX (pc := 41) (tgt := 45) dX11_testOf_41 (by decide) ?_
                refine ww_istore_n hX (pc := 45) (lv' := [some (kR (some 49)), some (kI la), some (kI 1), some (kI x_28)]) dX11_testOf_45 (by decide) rfl rfl ?_
                refine ww_goto hX (pc := 46) (tgt := 6) dX11_testOf_46 (by decide) ?_
                refine ww_sub [some (kR (some 49)), some (kI la), some (kI 1), none] (aLe_s (aLe_s (aLe_s (aLe_n aLe_0)))) ?_
                exact ih_6 _ (by have hm9 := Sh0_e hq_6; omega) 1 I_28 J_28 rfl ⟨kI_28, cI_28, kJ_28, by omega, ⟨d9, _, vI_28, bI_28, (by rw [zJB_3, show c p9 = 3 from hop9]; exact zRv_jb (by have h9 := hB; unfold zB1 at h9; exact h9) hr6 (zRv_cg yI_28.2.2 (by omega) rfl) (by omega) hv9 yI_28.2.1 (by omega)), hR9⟩⟩
  exact hl_6 _ x_2 I_2 J_2 rfl ⟨kI_2, cI_2, kJ_2, by omega, ⟨a1, D1, vI_2, bI_2, yI_2.2.2, hRs⟩⟩
theorem c_VTest (l0 : Launch) : ∀ m : Nat, VTest l0 m
  | 0 => fun hL hQ _ hla _ _ _ hE _ _ hV hB _ _ hG => c6_X11_testOf l0 hL hQ hla hE hV hB (m := 0) hG (fun mp e => absurd e (by omega))
  | m + 1 => fun hL hQ _ hla _ _ _ hE _ _ hV hB _ _ hG => c6_X11_testOf l0 hL hQ hla hE hV hB (m := m + 1) hG (fun mp e => by
      obtain rfl : m = mp := by omega
      exact c_VTest l0 m)
