/-! the reference's evaluator: what it gives is what the parser tells -/
def zRv (la B B' x : Int) (r : Option Int) : Prop := (la = 1 → B = 0 → (∀ w, r = some w → x = w ∧ B' = 0 ∧ -1000000000 ≤ w ∧ w ≤ 1000000000) ∧ (r = none → B' = 1)) ∧ (¬ (la = 1 ∧ B = 0) → B' = B)
def zBnd (la B v x B' : Int) : Prop := (la = 0 → B' = B) ∧ (la = 1 → B = 1 → B' = 1) ∧ (la = 1 → B = 0 → -2000000000000000000 ≤ v → v ≤ 2000000000000000000 → ((-1000000000 ≤ v ∧ v ≤ 1000000000) → x = v ∧ B' = 0) ∧ (¬ (-1000000000 ≤ v ∧ v ≤ 1000000000) → B' = 1))
def zG (P : zP) (a b : Nat) (D : zD) : Prop := ∃ l l', P a l = .inr (b, l', D)
def zJ2 (op : Int) (r1 r2 : Option Int) : Option Int := match r1 with
  | none => none
  | some a => match r2 with
    | none => none
    | some b => zJn op a b
theorem zJD_2 {op : Int} {D F : zD} {en : zE} : zJD op D F en = zJ2 op (D en) (F en) := rfl
theorem zRv_cg {la B B' B2 B2' x : Int} {r : Option Int} (h : zRv la B B' x r) (e1 : B2 = B) (e2 : B2' = B') : zRv la B2 B2' x r := by rw [e1, e2]; exact h
theorem zRv_off {la B B' x : Int} {r : Option Int} (h : ¬ (la = 1 ∧ B = 0)) (e : B' = B) : zRv la B B' x r := ⟨fun h1 h2 => absurd ⟨h1, h2⟩ h, fun _ => e⟩
theorem zRv_on {la B B' x w : Int} {r : Option Int} (hr : r = some w) (hx : x = w) (e : B' = B) (h1 : -1000000000 ≤ w) (h2 : w ≤ 1000000000) : zRv la B B' x r := by
  rw [hr]
  exact ⟨fun _ hB => ⟨fun u hu => (by cases hu; exact ⟨hx, by omega, h1, h2⟩), fun hn => (by cases hn)⟩, fun _ => e⟩
theorem zRv_op {la B0 B6 B7 B8 v w y x op : Int} {r r' : Option Int} (hla : 0 ≤ la ∧ la ≤ 1) (hB : B0 = 0 ∨ B0 = 1) (h1 : zRv la B0 B6 v r) (h2 : zRv la B6 B7 w r') (hb : zBnd la B7 y x B8) (hy : -1000000000 ≤ v → v ≤ 1000000000 → -1000000000 ≤ w → w ≤ 1000000000 → y = zJv op v w ∧ -2000000000000000000 ≤ y ∧ y ≤ 2000000000000000000 ∧ ¬ ((op = 147 ∨ op = 137) ∧ w = 0)) : zRv la B0 B8 x (zJ2 op r r') := by
  by_cases hc : la = 1 ∧ B0 = 0
  · obtain ⟨rfl, rfl⟩ := hc
    refine ⟨fun _ _ => ?_, fun h => absurd ⟨rfl, rfl⟩ h⟩
    obtain ⟨g1, g2⟩ := h1.1 rfl rfl
    cases r with
    | none =>
      have e6 := g2 rfl
      have e7 := h2.2 (by omega)
      have e8 := hb.2.1 rfl (by omega)
      exact ⟨fun u hu => (by cases hu), fun _ => e8⟩
    | some a =>
      obtain ⟨rfl, e6, a1, a2⟩ := g1 a rfl
      obtain ⟨k1, k2⟩ := h2.1 rfl e6
      cases r' with
      | none =>
        have e7 := k2 rfl
        exact ⟨fun u hu => (by cases hu), fun _ => hb.2.1 rfl e7⟩
      | some b =>
        obtain ⟨rfl, e7, b1, b2⟩ := k1 b rfl
        obtain ⟨y1, y2, y3, y4⟩ := hy a1 a2 b1 b2
        obtain ⟨m1, m2⟩ := hb.2.2 rfl e7 y2 y3
        have e : zJ2 op (some v) (some w) = (if zJv op v w ≤ 1000000000 ∧ -1000000000 ≤ zJv op v w then some (zJv op v w) else none) := if_neg y4
        rw [e]
        by_cases hr : -1000000000 ≤ y ∧ y ≤ 1000000000
        · rw [if_pos (by omega)]
          obtain ⟨n1, n2⟩ := m1 hr
          exact ⟨fun u hu => (by cases hu; exact ⟨by omega, n2, by omega, by omega⟩), fun hn => (by cases hn)⟩
        · rw [if_neg (by omega)]
          exact ⟨fun u hu => (by cases hu), fun _ => m2 hr⟩
  · refine ⟨fun g1 g2 => absurd ⟨g1, g2⟩ hc, fun _ => ?_⟩
    have e6 := h1.2 hc
    have e7 := h2.2 (by omega)
    rcases (show la = 0 ∨ la = 1 by omega) with rfl | rfl
    · have := hb.1 rfl
      omega
    · have := hb.2.1 rfl (by omega)
      omega
theorem zRv_z {la B0 B6 B7 B2 B8 v w y x op : Int} {r r' : Option Int} (hla : 0 ≤ la ∧ la ≤ 1) (hB : B0 = 0 ∨ B0 = 1) (h1 : zRv la B0 B6 v r) (h2 : zRv la B6 B7 w r') (hw : -1000000000 ≤ w → w ≤ 1000000000 → w = 0) (ho : op = 147 ∨ op = 137) (h20 : la = 0 → B2 = B7) (h21 : la = 1 → B2 = 1) (hb : zBnd la B2 y x B8) : zRv la B0 B8 x (zJ2 op r r') := by
  by_cases hc : la = 1 ∧ B0 = 0
  · obtain ⟨rfl, rfl⟩ := hc
    have e8 := hb.2.1 rfl (h21 rfl)
    refine ⟨fun _ _ => ⟨fun u hu => ?_, fun _ => e8⟩, fun h => absurd ⟨rfl, rfl⟩ h⟩
    exfalso
    obtain ⟨g1, g2⟩ := h1.1 rfl rfl
    cases r with
    | none => cases hu
    | some a =>
      obtain ⟨rfl, e6, a1, a2⟩ := g1 a rfl
      obtain ⟨k1, k2⟩ := h2.1 rfl e6
      cases r' with
      | none => cases hu
      | some b =>
        obtain ⟨rfl, e7, b1, b2⟩ := k1 b rfl
        have e : zJ2 op (some v) (some w) = none := if_pos ⟨ho, hw b1 b2⟩
        rw [e] at hu
        cases hu
  · refine ⟨fun g1 g2 => absurd ⟨g1, g2⟩ hc, fun _ => ?_⟩
    have e6 := h1.2 hc
    have e7 := h2.2 (by omega)
    rcases (show la = 0 ∨ la = 1 by omega) with rfl | rfl
    · have := hb.1 rfl
      have := h20 rfl
      omega
    · have := hb.2.1 rfl (h21 rfl)
      omega
theorem tdiv_le {a b : Int} (h1 : -1000000000 ≤ a) (h2 : a ≤ 1000000000) : -1000000000 ≤ a.tdiv b ∧ a.tdiv b ≤ 1000000000 := by
  have h3 : (a.tdiv b).natAbs = a.natAbs / b.natAbs := Int.natAbs_tdiv a b
  have h4 := Nat.div_le_self a.natAbs b.natAbs
  omega
theorem tmod_le {a b : Int} (h1 : -1000000000 ≤ a) (h2 : a ≤ 1000000000) : -1000000000 ≤ a.tmod b ∧ a.tmod b ≤ 1000000000 := by
  have h3 : (a.tmod b).natAbs = a.natAbs % b.natAbs := Int.natAbs_tmod a b
  have h4 := Nat.mod_le a.natAbs b.natAbs
  omega
theorem l_div_t {a b : Int} (h1 : -1000000000 ≤ a) (h2 : a ≤ 1000000000) (h3 : -1000000000 ≤ b) (h4 : b ≤ 1000000000) : l_div a b = a.tdiv b := by
  have e1 : (Int64.ofInt a).toInt = a := w64_id (by omega) (by omega)
  have e2 : (Int64.ofInt b).toInt = b := w64_id (by omega) (by omega)
  have h5 := tdiv_le (b := b) h1 h2
  unfold l_div
  rw [Int64.toInt_div, e1, e2, Int.bmod_eq_of_le (by omega) (by omega)]
theorem l_rem_t {a b : Int} (h1 : -1000000000 ≤ a) (h2 : a ≤ 1000000000) (h3 : -1000000000 ≤ b) (h4 : b ≤ 1000000000) : l_rem a b = a.tmod b := by
  have e1 : (Int64.ofInt a).toInt = a := w64_id (by omega) (by omega)
  have e2 : (Int64.ofInt b).toInt = b := w64_id (by omega) (by omega)
  have h5 := tdiv_le (b := b) h1 h2
  have h6 := tmod_le (b := b) h1 h2
  have h7 : a.tmod b = a - b * a.tdiv b := Int.tmod_def a b
  have h8 : (Int64.ofInt a / Int64.ofInt b).toInt = a.tdiv b := by rw [Int64.toInt_div, e1, e2, Int.bmod_eq_of_le (by omega) (by omega)]
  unfold l_rem
  rw [Int64.toInt_sub, Int64.toInt_mul, h8, e1, e2, Int.mul_comm (a.tdiv b) b]
  have h9 : b * a.tdiv b = a - a.tmod b := by omega
  rw [h9, Int.bmod_eq_of_le (n := a - a.tmod b) (by omega) (by omega), show a - (a - a.tmod b) = a.tmod b by omega, Int.bmod_eq_of_le (by omega) (by omega)]
theorem mul_le9 {a b : Int} (h1 : -1000000000 ≤ a) (h2 : a ≤ 1000000000) (h3 : -1000000000 ≤ b) (h4 : b ≤ 1000000000) : -1000000000000000000 ≤ a * b ∧ a * b ≤ 1000000000000000000 := by
  have h5 : (a * b).natAbs = a.natAbs * b.natAbs := Int.natAbs_mul a b
  have h6 : a.natAbs * b.natAbs ≤ 1000000000 * 1000000000 := Nat.mul_le_mul (by omega) (by omega)
  omega
/-! what parses, taken apart -/
def zHR (P : zP) (ops : List Int) (jn : Int → zD → zD → zD) (c : Nat → Int) (p : Nat) (D9 : zD) (b : Nat) (D : zD) : Prop := ∃ n l9 l', 400 ≤ n + p ∧ zRest P ops jn c n p l9 D9 = .inr (b, l', D)
theorem zG_sq {P : zP} {ops : List Int} {jn : Int → zD → zD → zD} {c : Nat → Int} {a b : Nat} {D : zD} (h : zG (zSeq P ops jn c) a b D) : ∃ p D1, zG P a p D1 ∧ zHR P ops jn c p D1 b D := by
  obtain ⟨l, l', h⟩ := h
  cases hp : P a l with
  | inl f => rw [zSeq_f hp] at h; cases h
  | inr q =>
    rw [zSeq_s hp] at h
    exact ⟨q.1, q.2.2, ⟨l, q.2.1, hp⟩, 400, q.2.1, l', by omega, h⟩
theorem zHR_op {P : zP} {ops : List Int} {jn : Int → zD → zD → zD} {c : Nat → Int} {p b : Nat} {D9 D : zD} (h : zHR P ops jn c p D9 b D) (hP : ∀ t l q, P t l = .inr q → t < q.1) (hc : c p ∈ ops) (hp4 : p < 400) : ∃ d F, zG P (p + 1) d F ∧ p + 1 < d ∧ zHR P ops jn c d (jn (c p) D9 F) b D := by
  obtain ⟨n, l9, l', hn, h⟩ := h
  obtain ⟨m, rfl⟩ : ∃ m, n = m + 1 := ⟨n - 1, by omega⟩
  cases hp : P (p + 1) l9 with
  | inl f => rw [zRest_f hc hp] at h; cases h
  | inr q =>
    rw [zRest_s hc hp] at h
    have h2 := hP _ _ _ hp
    exact ⟨q.1, q.2.2, ⟨l9, q.2.1, hp⟩, h2, m, q.2.1, l', by omega, h⟩
theorem zHR_no {P : zP} {ops : List Int} {jn : Int → zD → zD → zD} {c : Nat → Int} {p b : Nat} {D9 D : zD} (h : zHR P ops jn c p D9 b D) (hc : ¬ c p ∈ ops) : p = b ∧ D9 = D := by
  obtain ⟨n, l9, l', hn, h⟩ := h
  rw [zRest_no hc] at h
  cases h
  exact ⟨rfl, rfl⟩
theorem zHR_le {P : zP} {ops : List Int} {jn : Int → zD → zD → zD} {c : Nat → Int} (hP : ∀ t l q, P t l = .inr q → t < q.1) : ∀ (n p l : Nat) (D : zD) (q : Nat × Nat × zD), zRest P ops jn c n p l D = .inr q → p ≤ q.1
  | 0, p, l, D, q, h => by cases h; exact Nat.le_refl _
  | n + 1, p, l, D, q, h => by
    by_cases hc : c p ∈ ops
    · cases hp : P (p + 1) l with
      | inl f => rw [zRest_f hc hp] at h; cases h
      | inr r =>
        rw [zRest_s hc hp] at h
        have h1 := hP _ _ _ hp
        have h2 := zHR_le hP n r.1 r.2.1 _ q h
        omega
    · rw [zRest_no hc] at h
      cases h
      exact Nat.le_refl _
theorem zHR_l {P : zP} {ops : List Int} {jn : Int → zD → zD → zD} {c : Nat → Int} {p b : Nat} {D9 D : zD} (hP : ∀ t l q, P t l = .inr q → t < q.1) (h : zHR P ops jn c p D9 b D) : p ≤ b := by
  obtain ⟨n, l9, l', hn, h⟩ := h
  exact zHR_le hP n p l9 D9 _ h
theorem zSeq_lt {P : zP} {ops : List Int} {jn : Int → zD → zD → zD} {c : Nat → Int} (hP : ∀ t l q, P t l = .inr q → t < q.1) (t l : Nat) (q : Nat × Nat × zD) (h : zSeq P ops jn c t l = .inr q) : t < q.1 := by
  cases hp : P t l with
  | inl f => rw [zSeq_f hp] at h; cases h
  | inr r =>
    rw [zSeq_s hp] at h
    have h1 := hP _ _ _ hp
    have h2 := zHR_le hP 400 r.1 r.2.1 _ q h
    omega
theorem zPart_lt {c vl : Nat → Int} : ∀ (m t l : Nat) (q : Nat × Nat × zD), zPart (zSu c vl m) c vl t l = .inr q → t < q.1
  | 0, t, l, q, h => by
    by_cases hc : c t = 191
    · rw [zPart_b hc] at h; cases h
    · rw [zPart_l hc] at h
      have := (zLe_G h).2
      omega
  | m + 1, t, l, q, h => by
    by_cases hc : c t = 191
    · rw [zPart_b hc] at h
      obtain ⟨p, p1, p2, p3⟩ := zBr_G h
      have := zSeq_lt (zSeq_lt (zPart_lt m)) (t + 1) l p p1
      omega
    · rw [zPart_l hc] at h
      have := (zLe_G h).2
      omega
theorem zTm_lt {c vl : Nat → Int} (m t l : Nat) (q : Nat × Nat × zD) (h : zTm (zSu c vl m) c vl t l = .inr q) : t < q.1 := zSeq_lt (zPart_lt m) t l q h
theorem zS_lt {c vl : Nat → Int} (m t l : Nat) (q : Nat × Nat × zD) (h : zS c vl m t l = .inr q) : t < q.1 := zSeq_lt (zTm_lt m) t l q h
theorem zG_lt {P : zP} {a b : Nat} {D : zD} (hP : ∀ t l q, P t l = .inr q → t < q.1) (h : zG P a b D) : a < b := by
  obtain ⟨l, l', h⟩ := h
  exact hP _ _ _ h
theorem zG_br {c vl : Nat → Int} {m a b : Nat} {D : zD} (h : zG (zPart (zSu c vl m) c vl) a b D) (hc : c a = 191) : ∃ mp, m = mp + 1 ∧ ∃ d, zG (zS c vl mp) (a + 1) d D ∧ c d = 193 ∧ b = d + 1 := by
  obtain ⟨l, l', h⟩ := h
  rw [zPart_b hc] at h
  cases m with
  | zero => cases h
  | succ m =>
    have h : zBr (some (zS c vl m)) c 193 a l = .inr (b, l', D) := h
    cases hp : zS c vl m (a + 1) l with
    | inl f => rw [zBr_f hp] at h; cases h
    | inr p =>
      obtain ⟨p1, p2, p3⟩ := p
      by_cases hc2 : c p1 = 193
      · rw [zBr_s hp hc2] at h
        cases h
        exact ⟨m, rfl, p1, ⟨l, _, hp⟩, hc2, rfl⟩
      · rw [zBr_n hp hc2] at h; cases h
theorem zG_lf {c vl : Nat → Int} {m a b : Nat} {D : zD} (h : zG (zPart (zSu c vl m) c vl) a b D) (hc : ¬ c a = 191) : b = a + 1 ∧ ((c a = 50 ∧ vl a ≤ 1000 ∧ ∀ en, D en = some (vl a)) ∨ (¬ c a = 50 ∧ 6 ≤ c a ∧ c a ≤ 13 ∧ ∀ en, D en = some (en (c a - 6).toNat))) := by
  obtain ⟨l, l', h⟩ := h
  rw [zPart_l hc] at h
  by_cases h1 : c a = 50 ∧ vl a ≤ 1000
  · by_cases hl : l < 50
    · rw [zLe_s (zLf_n h1) hl] at h
      cases h
      exact ⟨rfl, Or.inl ⟨h1.1, h1.2, fun _ => rfl⟩⟩
    · rw [zLe_f (zLf_n h1) hl] at h; cases h
  · by_cases h2 : 6 ≤ c a ∧ c a ≤ 13
    · by_cases hl : l < 50
      · have hw : zLf c vl a = some (fun en => some (en (c a - 6).toNat)) := zLf_w h2
        rw [zLe_s hw hl] at h
        cases h
        exact ⟨rfl, Or.inr ⟨by omega, h2.1, h2.2, fun _ => rfl⟩⟩
      · have hw : zLf c vl a = some (fun en => some (en (c a - 6).toNat)) := zLf_w h2
        rw [zLe_f hw hl] at h; cases h
    · rw [zLe_0 (zLf_0 h1 h2)] at h; cases h
/-- values, what is asked: of law t -/
def zEV (I : aI1) (t : Nat) (vl : Nat → Int) (en : zE) : Prop := (∀ j : Nat, (j : Int) < I 51 (311 + t) → I 51 (2717 + 400 * t + j) = vl j ∧ 0 ≤ vl j) ∧ (∀ j, j < 8 → I 60 j = en j ∧ -1000 ≤ en j ∧ en j ≤ 1000)
theorem zEV_ch {rs fs : List Nat} {I I' : aI1} {t : Nat} {vl : Nat → Int} {en : zE} (h : Ch rs fs I I') (h1 : 51 ∉ rs) (h2 : 60 ∉ rs) (hv : zEV I t vl en) : zEV I' t vl en := by
  unfold zEV at hv ⊢
  rw [h.1 51 (by decide) h1, h.1 60 (by decide) h2]
  exact hv
def zB1 (I : aI1) : Prop := I 49 21 = 0 ∨ I 49 21 = 1
theorem zB1_e {I I' : aI1} (h : zB1 I) (e : I' 49 21 = I 49 21) : zB1 I' := by unfold zB1 at h ⊢; rw [e]; exact h
set_option maxHeartbeats 4000000 in
set_option maxRecDepth 20000 in
theorem c6_X11_bounded (l0 : Launch) {Ia Ja : aI1} {Ra : aR1} {Sa : aS1} (hL : LY Ra Sa) (hQ : RX Ia) {v la : Int} (hla : 0 ≤ la ∧ la ≤ 1) {t a : Nat} {c : Nat → Int} (hE : EV Ia t c a) {vl : Nat → Int} {en : zE} (hV : zEV Ia t vl en) (hB : zB1 Ia)  : CT l0 0 0 0 mX11_bounded [kR (some 49), kL v, kI la] Ia Ja Ra Sa (cJ (fun x I' J' => Ch [] [19, 21] Ia I' ∧ Kp 49 73 Ja J' ∧ RX I' ∧ EV I' t c a ∧ zB1 I' ∧ zBnd la (Ia 49 21) v x (I' 49 21)) Ra Sa) := by
  refine ct_in pn_X11 (Nat.le_of_ble_eq_true rfl) (fun X hX hT hIn => ?_)
  have hX : aK l0 X cX11_bounded 4 RX11 (some .long) 0 0 0 := hX
  change WW X 0 [some (kR (some 49)), some (kL v), none, some (kI la)] [] Ia Ja Ra Sa 0 0
  have qIa := RX_w hQ
  have oIa := EV_o hE
  have w64v : -2000000000000000000 ≤ v → v ≤ 2000000000000000000 → w64 v = v := fun g1 g2 => w64_id (by omega) (by omega)
  refine ww_iload_n hX (pc := 0) dX11_bounded_0 rfl ?_
  refine ww_if_eq hX (pc := 1) (tgt := 25) dX11_bounded_1 (by decide) (fun h_1 => ?_) (fun h_1 => ?_)
  · simp only [w32_mod] at h_1
    refine ww_aload_n hX (pc := 25) dX11_bounded_25 rfl ?_
    refine ww_getI hX (pc := 26) fX11_225 (by decide) (xs_49 hL) dX11_bounded_26 ?_
    refine ww_if_eq hX (pc := 29) (tgt := 36) dX11_bounded_29 (by decide) (fun h_29 => ?_) (fun h_29 => ?_)
    · simp only [w32_mod] at h_29
      have hB0 := hB
      unfold zB1 at hB0
      refine ww_lload_n hX (pc := 36) dX11_bounded_36 rfl ?_
      refine rJ hX (pc := 37) hT (Nat.le_refl 0) (Nat.le_refl 0) dX11_bounded_37 ?_
      exact ⟨Ch_rf, (Kp_rf (a := 49) (b := 73)), hQ, hE, hB, ⟨fun g => by omega, fun g g2 => by omega, fun g g2 g3 g4 => ⟨fun g5 => by omega, fun g5 => by omega⟩⟩⟩
    · simp only [w32_mod] at h_29
      have hB0 := hB
      unfold zB1 at hB0
      refine ww_lconst hX (pc := 32) (x := 0) dX11_bounded_32 (by decide) ?_
      refine ww_goto hX (pc := 33) (tgt := 37) dX11_bounded_33 (by decide) ?_
      refine rJ hX (pc := 37) hT (Nat.le_refl 0) (Nat.le_refl 0) dX11_bounded_37 ?_
      exact ⟨Ch_rf, (Kp_rf (a := 49) (b := 73)), hQ, hE, hB, ⟨fun g => by omega, fun g g2 => by omega, fun g g2 g3 g4 => ⟨fun g5 => by omega, fun g5 => by omega⟩⟩⟩
  · simp only [w32_mod] at h_1
    refine ww_lload_n hX (pc := 4) dX11_bounded_4 rfl ?_
    refine ww_ldc2 hX (pc := 5) (x := 1000000000) dX11_bounded_5 tb_1423 ?_
    have hl8 := l_cmp_v v 1000000000
    have hk8 : w64 1000000000 = 1000000000 := rfl
    refine ww_lcmp hX (pc := 8) dX11_bounded_8 ?_
    refine ww_if_gt hX (pc := 9) (tgt := 20) dX11_bounded_9 (by decide) (fun h_9 => ?_) (fun h_9 => ?_)
    · simp only [w32_mod] at h_9
      refine ww_aload_n hX (pc := 20) dX11_bounded_20 rfl ?_
      refine ww_iconst hX (pc := 21) (x := 1) dX11_bounded_21 rfl ?_
      refine ww_putZ hX (pc := 22) (fun h9 => absurd h9 (by decide)) gX11_225 rfl (by decide) (xs_49 hL) dX11_bounded_22 ?_
      refine ww_nmH (fun I_22 eI_22 => ?_)
      have kI_22 : Ch [] [19, 21] Ia I_22 := by rw [eI_22]; exact Ch_f Ch_rf (by decide)
      have cI_22 : RX I_22 := by rw [eI_22]; exact RX_f hQ (by decide)
      have qI_22 := RX_w cI_22
      have f19_I_22 : I_22 49 19 = Ia 49 19 := by rw [eI_22, up2_n _ _ (Or.inr (by decide))]
      have f20_I_22 : I_22 49 20 = Ia 49 20 := by rw [eI_22, up2_n _ _ (Or.inr (by decide))]
      have w21 : I_22 49 21 = 1 := by rw [eI_22, up2_s]
      have vI_22 : EV I_22 t c a := EV_st hE (by rw [eI_22, up2_off _ _ _ (by decide)]) (by omega) (by omega) (by omega)
      have oI_22 := EV_o vI_22
      have bI_22 : zB1 I_22 := by unfold zB1; rw [eI_22, up2_s]; omega
      refine ww_aload_n hX (pc := 25) dX11_bounded_25 rfl ?_
      refine ww_getI hX (pc := 26) fX11_225 (by decide) (xs_49 hL) dX11_bounded_26 ?_
      refine ww_if_eq hX (pc := 29) (tgt := 36) dX11_bounded_29 (by decide) (fun h_29 => ?_) (fun h_29 => ?_)
      · simp only [w32_mod] at h_29
        have hB0 := hB
        unfold zB1 at hB0
        refine ww_lload_n hX (pc := 36) dX11_bounded_36 rfl ?_
        refine rJ hX (pc := 37) hT (Nat.le_refl 0) (Nat.le_refl 0) dX11_bounded_37 ?_
        exact ⟨kI_22, (Kp_rf (a := 49) (b := 73)), cI_22, vI_22, bI_22, ⟨fun g => by omega, fun g g2 => by omega, fun g g2 g3 g4 => ⟨fun g5 => by omega, fun g5 => by omega⟩⟩⟩
      · simp only [w32_mod] at h_29
        have hB0 := hB
        unfold zB1 at hB0
        refine ww_lconst hX (pc := 32) (x := 0) dX11_bounded_32 (by decide) ?_
        refine ww_goto hX (pc := 33) (tgt := 37) dX11_bounded_33 (by decide) ?_
        refine rJ hX (pc := 37) hT (Nat.le_refl 0) (Nat.le_refl 0) dX11_bounded_37 ?_
        exact ⟨kI_22, (Kp_rf (a := 49) (b := 73)), cI_22, vI_22, bI_22, ⟨fun g => by omega, fun g g2 => by omega, fun g g2 g3 g4 => ⟨fun g5 => by omega, fun g5 => by omega⟩⟩⟩
    · simp only [w32_mod] at h_9
      refine ww_lload_n hX (pc := 12) dX11_bounded_12 rfl ?_
      refine ww_ldc2 hX (pc := 13) (x := (-1000000000)) dX11_bounded_13 tb_1424 ?_
      have hl16 := l_cmp_v v (-1000000000)
      have hk16 : w64 (-1000000000) = (-1000000000) := rfl
      refine ww_lcmp hX (pc := 16) dX11_bounded_16 ?_
      refine ww_if_ge hX (pc := 17) (tgt := 25) dX11_bounded_17 (by decide) (fun h_17 => ?_) (fun h_17 => ?_)
      · simp only [w32_mod] at h_17
        refine ww_aload_n hX (pc := 25) dX11_bounded_25 rfl ?_
        refine ww_getI hX (pc := 26) fX11_225 (by decide) (xs_49 hL) dX11_bounded_26 ?_
        refine ww_if_eq hX (pc := 29) (tgt := 36) dX11_bounded_29 (by decide) (fun h_29 => ?_) (fun h_29 => ?_)
        · simp only [w32_mod] at h_29
          have hB0 := hB
          unfold zB1 at hB0
          refine ww_lload_n hX (pc := 36) dX11_bounded_36 rfl ?_
          refine rJ hX (pc := 37) hT (Nat.le_refl 0) (Nat.le_refl 0) dX11_bounded_37 ?_
          exact ⟨Ch_rf, (Kp_rf (a := 49) (b := 73)), hQ, hE, hB, ⟨fun g => by omega, fun g g2 => by omega, fun g g2 g3 g4 => ⟨fun g5 => by omega, fun g5 => by omega⟩⟩⟩
        · simp only [w32_mod] at h_29
          have hB0 := hB
          unfold zB1 at hB0
          refine ww_lconst hX (pc := 32) (x := 0) dX11_bounded_32 (by decide) ?_
          refine ww_goto hX (pc := 33) (tgt := 37) dX11_bounded_33 (by decide) ?_
          refine rJ hX (pc := 37) hT (Nat.le_refl 0) (Nat.le_refl 0) dX11_bounded_37 ?_
          exact ⟨Ch_rf, (Kp_rf (a := 49) (b := 73)), hQ, hE, hB, ⟨fun g => by omega, fun g g2 => by omega, fun g g2 g3 g4 => ⟨fun g5 => by omega, fun g5 => by omega⟩⟩⟩
      · simp only [w32_mod] at h_17
        refine ww_aload_n hX (pc := 20) dX11_bounded_20 rfl ?_
        refine ww_iconst hX (pc := 21) (x := 1) dX11_bounded_21 rfl ?_
        refine ww_putZ hX (pc := 22) (fun h9 => absurd h9 (by decide)) gX11_225 rfl (by decide) (xs_49 hL) dX11_bounded_22 ?_
        refine ww_nmH (fun I_22 eI_22 => ?_)
        have kI_22 : Ch [] [19, 21] Ia I_22 := by rw [eI_22]; exact Ch_f Ch_rf (by decide)
        have cI_22 : RX I_22 := by rw [eI_22]; exact RX_f hQ (by decide)
        have qI_22 := RX_w cI_22
        have f19_I_22 : I_22 49 19 = Ia 49 19 := by rw [eI_22, up2_n _ _ (Or.inr (by decide))]
        have f20_I_22 : I_22 49 20 = Ia 49 20 := by rw [eI_22, up2_n _ _ (Or.inr (by decide))]
        have w21 : I_22 49 21 = 1 := by rw [eI_22, up2_s]
        have vI_22 : EV I_22 t c a := EV_st hE (by rw [eI_22, up2_off _ _ _ (by decide)]) (by omega) (by omega) (by omega)
        have oI_22 := EV_o vI_22
        have bI_22 : zB1 I_22 := by unfold zB1; rw [eI_22, up2_s]; omega
        refine ww_aload_n hX (pc := 25) dX11_bounded_25 rfl ?_
        refine ww_getI hX (pc := 26) fX11_225 (by decide) (xs_49 hL) dX11_bounded_26 ?_
        refine ww_if_eq hX (pc := 29) (tgt := 36) dX11_bounded_29 (by decide) (fun h_29 => ?_) (fun h_29 => ?_)
        · simp only [w32_mod] at h_29
          have hB0 := hB
          unfold zB1 at hB0
          refine ww_lload_n hX (pc := 36) dX11_bounded_36 rfl ?_
          refine rJ hX (pc := 37) hT (Nat.le_refl 0) (Nat.le_refl 0) dX11_bounded_37 ?_
          exact ⟨kI_22, (Kp_rf (a := 49) (b := 73)), cI_22, vI_22, bI_22, ⟨fun g => by omega, fun g g2 => by omega, fun g g2 g3 g4 => ⟨fun g5 => by omega, fun g5 => by omega⟩⟩⟩
        · simp only [w32_mod] at h_29
          have hB0 := hB
          unfold zB1 at hB0
          refine ww_lconst hX (pc := 32) (x := 0) dX11_bounded_32 (by decide) ?_
          refine ww_goto hX (pc := 33) (tgt := 37) dX11_bounded_33 (by decide) ?_
          refine rJ hX (pc := 37) hT (Nat.le_refl 0) (Nat.le_refl 0) dX11_bounded_37 ?_
          exact ⟨kI_22, (Kp_rf (a := 49) (b := 73)), cI_22, vI_22, bI_22, ⟨fun g => by omega, fun g g2 => by omega, fun g g2 g3 g4 => ⟨fun g5 => by omega, fun g5 => by omega⟩⟩⟩
def VSum (l0 : Launch) (m : Nat) : Prop := ∀ {Ia Ja : aI1} {Ra : aR1} {Sa : aS1}, LY Ra Sa → RX Ia → ∀ {la : Int}, (0 ≤ la ∧ la ≤ 1) → ∀ {t a : Nat} {c : Nat → Int}, EV Ia t c a → ∀ {vl : Nat → Int} {en : zE}, zEV Ia t vl en → zB1 Ia → ∀ {b : Nat} {D : zD}, zG (zS c vl m) a b D → CT l0 (3 * m + 5) 0 0 mX11_sumOf [kR (some 49), kI la] Ia Ja Ra Sa (cJ (fun x I' J' => Ch [] [19, 21] Ia I' ∧ Kp 49 73 Ja J' ∧ RX I' ∧ EV I' t c b ∧ zB1 I' ∧ zRv la (Ia 49 21) (I' 49 21) x (D en)) Ra Sa)
def VTest (l0 : Launch) (m : Nat) : Prop := ∀ {Ia Ja : aI1} {Ra : aR1} {Sa : aS1}, LY Ra Sa → RX Ia → ∀ {la : Int}, (0 ≤ la ∧ la ≤ 1) → ∀ {t a : Nat} {c : Nat → Int}, EV Ia t c a → ∀ {vl : Nat → Int} {en : zE}, zEV Ia t vl en → zB1 Ia → ∀ {b : Nat} {D : zD}, zG (zT c vl m) a b D → CT l0 (4 * m + 9) 0 0 mX11_testOf [kR (some 49), kI la] Ia Ja Ra Sa (cI (fun x I' J' => Ch [] [19, 21] Ia I' ∧ Kp 49 73 Ja J' ∧ RX I' ∧ EV I' t c b ∧ zB1 I' ∧ (0 ≤ x ∧ x ≤ 1) ∧ zRv la (Ia 49 21) (I' 49 21) x (D en)) Ra Sa)
set_option maxHeartbeats 4000000 in
set_option maxRecDepth 20000 in
theorem c6_X11_partOf (l0 : Launch) {Ia Ja : aI1} {Ra : aR1} {Sa : aS1} (hL : LY Ra Sa) (hQ : RX Ia) {la : Int} (hla : 0 ≤ la ∧ la ≤ 1) {t a : Nat} {c : Nat → Int} (hE : EV Ia t c a) {vl : Nat → Int} {en : zE} (hV : zEV Ia t vl en) (hB : zB1 Ia) {m b : Nat} {D : zD} (hG : zG (zPart (zSu c vl m) c vl) a b D) (hrec : ∀ mp, m = mp + 1 → VSum l0 mp)  : CT l0 (3 * m + 3) 0 0 mX11_partOf [kR (some 49), kI la] Ia Ja Ra Sa (cJ (fun x I' J' => Ch [] [19, 21] Ia I' ∧ Kp 49 73 Ja J' ∧ RX I' ∧ EV I' t c b ∧ zB1 I' ∧ zRv la (Ia 49 21) (I' 49 21) x (D en)) Ra Sa) := by
  refine ct_in pn_X11 (Nat.le_of_ble_eq_true rfl) (fun X hX hT hIn => ?_)
  have hX : aK l0 X cX11_partOf 4 RX11 (some .long) (3 * m + 3) 0 0 := hX
  change WW X 0 [some (kR (some 49)), some (kI la), none, none] [] Ia Ja Ra Sa 0 0
  have qIa := RX_w hQ
  have oIa := EV_o hE
  refine ww_aload_n hX (pc := 0) dX11_partOf_0 rfl ?_
  refine ww_bipush hX (pc := 1) (x := 91) dX11_partOf_1 (by decide) ?_
  refine sI1 hX (pc := 3) sX11_190 (c_X11_sign l0 ) (by omega) (Nat.le_refl 0) (Nat.le_refl 0) (Nat.le_of_ble_eq_true rfl) dX11_partOf_3 (fun x_3 I_3 J_3 h_3 => ?_)
  obtain ⟨rfl, rfl, h_3⟩ := h_3
  refine vI1 hX (pc := 6) sX11_240 (xs_49 hL) (c_X11_passes0 l0 hL hQ  (by omega) (by omega) hE) (by omega) (Nat.le_refl 0) (Nat.le_refl 0) (Nat.le_of_ble_eq_true rfl) dX11_partOf_6 (fun x_6 I_6 J_6 h_6 => ?_)
  have kJ_6 : Kp 49 73 Ja J_6 := Kp_tr (Kp_rf (a := 49) (b := 73)) h_6.2.1
  have kI_6 : Ch [] [19, 21] Ia I_6 := Ch_tr Ch_rf (Ch_wd h_6.1 (by decide) (by decide))
  have cI_6 : RX I_6 := h_6.2.2.1
  have qI_6 := RX_w cI_6
  have f20_I_6 : I_6 49 20 = Ia 49 20 := h_6.1.2 20 (by decide)
  have f21_I_6 : I_6 49 21 = Ia 49 21 := h_6.1.2 21 (by decide)
  have vI_6 : EV I_6 t c (a + x_6.toNat) := h_6.2.2.2.1
  have oI_6 := EV_o vI_6
  have yI_6 := h_6.2.2.2.2
  have bI_6 : zB1 I_6 := zB1_e hB f21_I_6
  refine ww_if_eq hX (pc := 9) (tgt := 30) dX11_partOf_9 (by decide) (fun h_9 => ?_) (fun h_9 => ?_)
  · simp only [w32_mod] at h_9
    obtain ⟨hbd, hlf9⟩ := zG_lf hG (by have := PS_0 yI_6.2 (by omega); omega)
    have hz := EV_z (i := a) hE (by rcases hlf9 with h9 | h9 <;> omega)
    have w6 : EV I_6 t c a := EV_to vI_6 (by omega)
    refine ww_aload_n hX (pc := 30) dX11_partOf_30 rfl ?_
    refine ww_aload_n hX (pc := 31) dX11_partOf_31 rfl ?_
    refine ww_getI hX (pc := 32) fX11_215 (by decide) (xs_49 hL) dX11_partOf_32 ?_
    refine vI1 hX (pc := 35) sX11_218 (xs_49 hL) (c_X11_codeAt l0 hL cI_6  rfl w6) (by omega) (Nat.le_refl 0) (Nat.le_refl 0) (Nat.le_of_ble_eq_true rfl) dX11_partOf_35 (fun x_35 I_35 J_35 h_35 => ?_)
    obtain ⟨rfl, rfl, h_35⟩ := h_35
    refine ww_istore_n hX (pc := 38) (lv' := [some (kR (some 49)), some (kI la), some (kI x_35), none]) dX11_partOf_38 (by decide) rfl rfl ?_
    refine ww_aload_n hX (pc := 39) dX11_partOf_39 rfl ?_
    refine ww_dupR hX (pc := 40) dX11_partOf_40 ?_
    refine ww_getI hX (pc := 41) fX11_215 (by decide) (xs_49 hL) dX11_partOf_41 ?_
    refine ww_iconst hX (pc := 44) (x := 1) dX11_partOf_44 rfl ?_
    refine ww_iadd hX (pc := 45) dX11_partOf_45 ?_
    refine ww_putI hX (pc := 46) (fun h9 => absurd h9 (by decide)) gX11_215 rfl (xs_49 hL) dX11_partOf_46 ?_
    refine ww_nmH (fun I_46 eI_46 => ?_)
    have kI_46 : Ch [] [19, 21] Ia I_46 := by rw [eI_46]; exact Ch_f kI_6 (by decide)
    have cI_46 : RX I_46 := by rw [eI_46]; exact RX_f cI_6 (by decide)
    have qI_46 := RX_w cI_46
    have f20_I_46 : I_46 49 20 = I_6 49 20 := by rw [eI_46, up2_n _ _ (Or.inr (by decide))]
    have f21_I_46 : I_46 49 21 = I_6 49 21 := by rw [eI_46, up2_n _ _ (Or.inr (by decide))]
    have vI_46 : EV I_46 t c (a + 1) := EV_st w6 (by rw [eI_46, up2_off _ _ _ (by decide)]) (by omega) (by rw [eI_46, up2_s]; omega) (by omega)
    have oI_46 := EV_o vI_46
    have bI_46 : zB1 I_46 := zB1_e bI_6 f21_I_46
    refine ww_iload_n hX (pc := 49) dX11_partOf_49 rfl ?_
    refine ww_if_eq hX (pc := 50) (tgt := 60) dX11_partOf_50 (by decide) (fun h_50 => ?_) (fun h_50 => ?_)
    · simp only [w32_mod] at h_50
      refine ww_lconst hX (pc := 60) (x := 0) dX11_partOf_60 (by decide) ?_
      refine rJ hX (pc := 61) hT (Nat.le_refl 0) (Nat.le_refl 0) dX11_partOf_61 ?_
      exact ⟨kI_46, kJ_6, cI_46, EV_to vI_46 (by omega), bI_46, zRv_off (by omega) (by omega)⟩
    · simp only [w32_mod] at h_50
      refine ww_aload_n hX (pc := 53) dX11_partOf_53 rfl ?_
      refine ww_getI hX (pc := 54) fX11_225 (by decide) (xs_49 hL) dX11_partOf_54 ?_
      refine ww_if_eq hX (pc := 57) (tgt := 62) dX11_partOf_57 (by decide) (fun h_57 => ?_) (fun h_57 => ?_)
      · simp only [w32_mod] at h_57
        refine ww_iload_n hX (pc := 62) dX11_partOf_62 rfl ?_
        refine ww_bipush hX (pc := 63) (x := 50) dX11_partOf_63 (by decide) ?_
        refine ww_icmp_ne hX (pc := 65) (tgt := 87) dX11_partOf_65 (by decide) (fun h_65 => ?_) (fun h_65 => ?_)
        · simp only [w32_mod] at h_65
          have hc50 : ¬ c a = 50 := by have h9 := h_35.1; omega
          obtain ⟨-, g6, g13, hD9⟩ := Or.resolve_left hlf9 (fun h9 => hc50 h9.1)
          have hask := hV.2 (c a - 6).toNat (by omega)
          refine ww_aload_n hX (pc := 87) dX11_partOf_87 rfl ?_
          refine ww_getR hX (pc := 88) fX11_52 (by decide) (xs_49 hL) (xr_49_22 hL) dX11_partOf_88 ?_
          refine ww_iload_n hX (pc := 91) dX11_partOf_91 rfl ?_
          refine ww_bipush hX (pc := 92) (x := 6) dX11_partOf_92 (by decide) ?_
          refine ww_isub hX (pc := 94) dX11_partOf_94 ?_
          refine ww_iald hX (pc := 95) (xs_60 hL) (by decide) (by omega) (by omega) dX11_partOf_95 ?_
          have hval : I_46 60 (x_35 - 6).toNat = en (c a - 6).toNat := by
            rw [show I_46 60 = Ia 60 from kI_46.1 60 (by decide) (by decide), ← hask.1]
            have h9 := h_35.1
            exact congrArg _ (by omega)
          have hv0 := hask.2
          refine ww_i2l hX (pc := 96) dX11_partOf_96 ?_
          refine rJ hX (pc := 97) hT (Nat.le_refl 0) (Nat.le_refl 0) dX11_partOf_97 ?_
          exact ⟨kI_46, kJ_6, cI_46, EV_to vI_46 (by omega), bI_46, zRv_on (hD9 en) ((congrArg w32 hval).trans (w32_id (by omega) (by omega))) (by omega) (by omega) (by omega)⟩
        · simp only [w32_mod] at h_65
          have hc50 : c a = 50 := by have h9 := h_35.1; omega
          obtain ⟨-, g1000, hD9⟩ := Or.resolve_right hlf9 (fun h9 => h9.1 hc50)
          have hvv := hV.1 a hz
          refine ww_aload_n hX (pc := 68) dX11_partOf_68 rfl ?_
          refine ww_getR hX (pc := 69) fX11_20 (by decide) (xs_49 hL) (xr_49_3 hL) dX11_partOf_69 ?_
          refine ww_sipush hX (pc := 72) (x := 2717) dX11_partOf_72 (by decide) ?_
          refine ww_aload_n hX (pc := 75) dX11_partOf_75 rfl ?_
          refine ww_getI hX (pc := 76) fX11_215 (by decide) (xs_49 hL) dX11_partOf_76 ?_
          refine ww_iadd hX (pc := 79) dX11_partOf_79 ?_
          refine ww_iconst hX (pc := 80) (x := 1) dX11_partOf_80 rfl ?_
          refine ww_isub hX (pc := 81) dX11_partOf_81 ?_
          refine ww_iald hX (pc := 82) (xs_51 hL) (by decide) (by omega) (by omega) dX11_partOf_82 ?_
          have hval : I_46 51 (2717 + I_46 49 19 - 1).toNat = vl a := by
            rw [show I_46 51 = Ia 51 from kI_46.1 51 (by decide) (by decide), ← hvv.1]
            exact congrArg _ (by omega)
          have hv0 := hvv.2
          refine ww_i2l hX (pc := 83) dX11_partOf_83 ?_
          refine ww_goto hX (pc := 84) (tgt := 97) dX11_partOf_84 (by decide) ?_
          refine rJ hX (pc := 97) hT (Nat.le_refl 0) (Nat.le_refl 0) dX11_partOf_97 ?_
          exact ⟨kI_46, kJ_6, cI_46, EV_to vI_46 (by omega), bI_46, zRv_on (hD9 en) ((congrArg w32 hval).trans (w32_id (by omega) (by omega))) (by omega) (by omega) (by omega)⟩
      · simp only [w32_mod] at h_57
        refine ww_lconst hX (pc := 60) (x := 0) dX11_partOf_60 (by decide) ?_
        refine rJ hX (pc := 61) hT (Nat.le_refl 0) (Nat.le_refl 0) dX11_partOf_61 ?_
        exact ⟨kI_46, kJ_6, cI_46, EV_to vI_46 (by omega), bI_46, zRv_off (by omega) (by omega)⟩
  · simp only [w32_mod] at h_9
    obtain ⟨mp, hmp, d9, hGd, hcd, hbd⟩ := zG_br hG (by have := PS_1 yI_6.2 (by omega); omega)
    have hz := EV_z (i := d9) hE (by omega)
    have w6 : EV I_6 t c (a + 1) := EV_to vI_6 (by omega)
    refine ww_aload_n hX (pc := 12) dX11_partOf_12 rfl ?_
    refine ww_iload_n hX (pc := 13) dX11_partOf_13 rfl ?_
    refine vJ1 hX (pc := 14) sX11_243 (xs_49 hL) (hrec mp hmp hL cI_6 (by omega) w6 (zEV_ch kI_6 (by decide) (by decide) hV) bI_6 hGd) (by omega) (Nat.le_refl 0) (Nat.le_refl 0) (Nat.le_of_ble_eq_true rfl) dX11_partOf_14 (fun x_14 I_14 J_14 h_14 => ?_)
    have kJ_14 : Kp 49 73 Ja J_14 := Kp_tr kJ_6 h_14.2.1
    have kI_14 : Ch [] [19, 21] Ia I_14 := Ch_tr kI_6 (Ch_wd h_14.1 (by decide) (by decide))
    have cI_14 : RX I_14 := h_14.2.2.1
    have qI_14 := RX_w cI_14
    have f20_I_14 : I_14 49 20 = I_6 49 20 := h_14.1.2 20 (by decide)
    have vI_14 : EV I_14 t c d9 := h_14.2.2.2.1
    have oI_14 := EV_o vI_14
    have yI_14 := h_14.2.2.2.2
    have bI_14 : zB1 I_14 := yI_14.1
    refine ww_lstore_n hX (pc := 17) (lv' := [some (kR (some 49)), some (kI la), some (kL x_14), none]) dX11_partOf_17 (by decide) rfl rfl ?_
    refine ww_aload_n hX (pc := 18) dX11_partOf_18 rfl ?_
    refine ww_dupR hX (pc := 19) dX11_partOf_19 ?_
    refine ww_getI hX (pc := 20) fX11_215 (by decide) (xs_49 hL) dX11_partOf_20 ?_
    refine ww_iconst hX (pc := 23) (x := 1) dX11_partOf_23 rfl ?_
    refine ww_iadd hX (pc := 24) dX11_partOf_24 ?_
    refine ww_putI hX (pc := 25) (fun h9 => absurd h9 (by decide)) gX11_215 rfl (xs_49 hL) dX11_partOf_25 ?_
    refine ww_nmH (fun I_25 eI_25 => ?_)
    have kI_25 : Ch [] [19, 21] Ia I_25 := by rw [eI_25]; exact Ch_f kI_14 (by decide)
    have cI_25 : RX I_25 := by rw [eI_25]; exact RX_f cI_14 (by decide)
    have qI_25 := RX_w cI_25
    have f20_I_25 : I_25 49 20 = I_14 49 20 := by rw [eI_25, up2_n _ _ (Or.inr (by decide))]
    have f21_I_25 : I_25 49 21 = I_14 49 21 := by rw [eI_25, up2_n _ _ (Or.inr (by decide))]
    have vI_25 : EV I_25 t c (d9 + 1) := EV_st vI_14 (by rw [eI_25, up2_off _ _ _ (by decide)]) (by omega) (by rw [eI_25, up2_s]; omega) (by omega)
    have oI_25 := EV_o vI_25
    have bI_25 : zB1 I_25 := zB1_e bI_14 f21_I_25
    refine ww_lload_n hX (pc := 28) dX11_partOf_28 rfl ?_
    refine rJ hX (pc := 29) hT (Nat.le_refl 0) (Nat.le_refl 0) dX11_partOf_29 ?_
    exact ⟨kI_25, kJ_14, cI_25, EV_to vI_25 (by omega), bI_25, zRv_cg yI_14.2 (by omega) (by omega)⟩
theorem zRv_bd {la B B2 v x B' : Int} (h : zBnd la B v x B') (e : B2 = B) : zBnd la B2 v x B' := by rw [e]; exact h
set_option maxHeartbeats 4000000 in
set_option maxRecDepth 20000 in
theorem c6_X11_termOf (l0 : Launch) {Ia Ja : aI1} {Ra : aR1} {Sa : aS1} (hL : LY Ra Sa) (hQ : RX Ia) {la : Int} (hla : 0 ≤ la ∧ la ≤ 1) {t a : Nat} {c : Nat → Int} (hE : EV Ia t c a) {vl : Nat → Int} {en : zE} (hV : zEV Ia t vl en) (hB : zB1 Ia) {m b : Nat} {D : zD} (hG : zG (zTm (zSu c vl m) c vl) a b D) (hrec : ∀ mp, m = mp + 1 → VSum l0 mp)  : CT l0 (3 * m + 4) 0 0 mX11_termOf [kR (some 49), kI la] Ia Ja Ra Sa (cJ (fun x I' J' => Ch [] [19, 21] Ia I' ∧ Kp 49 73 Ja J' ∧ RX I' ∧ EV I' t c b ∧ zB1 I' ∧ zRv la (Ia 49 21) (I' 49 21) x (D en)) Ra Sa) := by
  refine ct_in pn_X11 (Nat.le_of_ble_eq_true rfl) (fun X hX hT hIn => ?_)
  have hX : aK l0 X cX11_termOf 7 RX11 (some .long) (3 * m + 4) 0 0 := hX
  change WW X 0 [some (kR (some 49)), some (kI la), none, none, none, none, none] [] Ia Ja Ra Sa 0 0
  have qIa := RX_w hQ
  have oIa := EV_o hE
  obtain ⟨a1, D1, hG1, hRs⟩ := zG_sq hG
  have hle1 := zHR_l (zPart_lt m) hRs
  refine ww_aload_n hX (pc := 0) dX11_termOf_0 rfl ?_
  refine ww_iload_n hX (pc := 1) dX11_termOf_1 rfl ?_
  refine vJ1 hX (pc := 2) sX11_237 (xs_49 hL) (c6_X11_partOf l0 hL hQ  (by omega) hE hV hB hG1 hrec) (by omega) (Nat.le_refl 0) (Nat.le_refl 0) (Nat.le_of_ble_eq_true rfl) dX11_termOf_2 (fun x_2 I_2 J_2 h_2 => ?_)
  have kJ_2 : Kp 49 73 Ja J_2 := Kp_tr (Kp_rf (a := 49) (b := 73)) h_2.2.1
  have kI_2 : Ch [] [19, 21] Ia I_2 := Ch_tr Ch_rf (Ch_wd h_2.1 (by decide) (by decide))
  have cI_2 : RX I_2 := h_2.2.2.1
  have qI_2 := RX_w cI_2
  have f20_I_2 : I_2 49 20 = Ia 49 20 := h_2.1.2 20 (by decide)
  have vI_2 : EV I_2 t c a1 := h_2.2.2.2.1
  have oI_2 := EV_o vI_2
  have yI_2 := h_2.2.2.2.2
  have bI_2 : zB1 I_2 := yI_2.1
  refine ww_lstore_n hX (pc := 5) (lv' := [some (kR (some 49)), some (kI la), some (kL x_2), none, none, none, none]) dX11_termOf_5 (by decide) rfl rfl ?_
  have hl_6 : ∀ (n_6 : Nat) (v9 : Int) (I6 : aI1) (J6 : aI1), (400 * t + b - I6 49 19).toNat = n_6 → (Ch [] [19, 21] Ia I6 ∧ RX I6 ∧ Kp 49 73 Ja J6 ∧ ∃ (p9 : Nat) (D9 : zD), EV I6 t c p9 ∧ zB1 I6 ∧ zRv la (Ia 49 21) (I6 49 21) v9 (D9 en) ∧ zHR (zPart (zSu c vl m) c vl) [142, 147, 137] zJD c p9 D9 b D) → WW X 6 [some (kR (some 49)), some (kI la), some (kL v9), none, none, none, none] [] I6 J6 Ra Sa 0 0 := by
    intro n_6
    induction n_6 using Nat.strongRecOn with
    | ind n_6 ih_6 =>
      intro v9 I6 J6 hm_6 hv_6
      have hq_6 := Sh0_i hm_6
      clear hm_6
      obtain ⟨kI6, cI6, kJ6, p9, D9, vI6, bI6, hr6, hR6⟩ := hv_6
      have qI6 := RX_w cI6
      have oI6 := EV_o vI6
      refine ww_aload_n hX (pc := 6) dX11_termOf_6 rfl ?_
      refine ww_aload_n hX (pc := 7) dX11_termOf_7 rfl ?_
      refine ww_getI hX (pc := 8) fX11_215 (by decide) (xs_49 hL) dX11_termOf_8 ?_
      refine vI1 hX (pc := 11) sX11_218 (xs_49 hL) (c_X11_codeAt l0 hL cI6  rfl vI6) (by omega) (Nat.le_refl 0) (Nat.le_refl 0) (Nat.le_of_ble_eq_true rfl) dX11_termOf_11 (fun x_11 I_11 J_11 h_11 => ?_)
      obtain ⟨rfl, rfl, h_11⟩ := h_11
      refine ww_bipush hX (pc := 14) (x := 42) dX11_termOf_14 (by decide) ?_
      refine sI1 hX (pc := 16) sX11_190 (c_X11_sign l0 ) (by omega) (Nat.le_refl 0) (Nat.le_refl 0) (Nat.le_of_ble_eq_true rfl) dX11_termOf_16 (fun x_16 I_16 J_16 h_16 => ?_)
      obtain ⟨rfl, rfl, h_16⟩ := h_16
      refine ww_icmp_eq hX (pc := 19) (tgt := 54) dX11_termOf_19 (by decide) (fun h_19 => ?_) (fun h_19 => ?_)
      · simp only [w32_mod] at h_19
        have hop : c p9 ∈ ([142, 147, 137] : List Int) := by simp only [List.mem_cons, List.not_mem_nil, or_false]; omega
        have hz9 := EV_z (i := p9) vI6 (fun e9 => by rw [e9] at hop; revert hop; decide)
        obtain ⟨d9, F9, hT9, hlt9, hR9⟩ := zHR_op hR6 (zPart_lt m) hop (by omega)
        have hle9 := zHR_l (zPart_lt m) hR9
        refine ww_aload_n hX (pc := 54) dX11_termOf_54 rfl ?_
        refine ww_aload_n hX (pc := 55) dX11_termOf_55 rfl ?_
        refine ww_getI hX (pc := 56) fX11_215 (by decide) (xs_49 hL) dX11_termOf_56 ?_
        refine vI1 hX (pc := 59) sX11_218 (xs_49 hL) (c_X11_codeAt l0 hL cI6  rfl vI6) (by omega) (Nat.le_refl 0) (Nat.le_refl 0) (Nat.le_of_ble_eq_true rfl) dX11_termOf_59 (fun x_59 I_59 J_59 h_59 => ?_)
        obtain ⟨rfl, rfl, h_59⟩ := h_59
        refine ww_istore hX (pc := 62) (lv' := [some (kR (some 49)), some (kI la), some (kL v9), none, some (kI x_59), none, none]) dX11_termOf_62 (by decide) rfl rfl ?_
        refine ww_aload_n hX (pc := 64) dX11_termOf_64 rfl ?_
        refine ww_dupR hX (pc := 65) dX11_termOf_65 ?_
        refine ww_getI hX (pc := 66) fX11_215 (by decide) (xs_49 hL) dX11_termOf_66 ?_
        refine ww_iconst hX (pc := 69) (x := 1) dX11_termOf_69 rfl ?_
        refine ww_iadd hX (pc := 70) dX11_termOf_70 ?_
        refine ww_putI hX (pc := 71) (fun h9 => absurd h9 (by decide)) gX11_215 rfl (xs_49 hL) dX11_termOf_71 ?_
        refine ww_nmH (fun I_71 eI_71 => ?_)
        have kI_71 : Ch [] [19, 21] Ia I_71 := by rw [eI_71]; exact Ch_f kI6 (by decide)
        have cI_71 : RX I_71 := by rw [eI_71]; exact RX_f cI6 (by decide)
        have qI_71 := RX_w cI_71
        have f20_I_71 : I_71 49 20 = I6 49 20 := by rw [eI_71, up2_n _ _ (Or.inr (by decide))]
        have f21_I_71 : I_71 49 21 = I6 49 21 := by rw [eI_71, up2_n _ _ (Or.inr (by decide))]
        have vI_71 : EV I_71 t c (p9 + 1) := EV_st vI6 (by rw [eI_71, up2_off _ _ _ (by decide)]) (by omega) (by rw [eI_71, up2_s]; omega) (by omega)
        have oI_71 := EV_o vI_71
        have bI_71 : zB1 I_71 := zB1_e bI6 f21_I_71
        refine ww_aload_n hX (pc := 74) dX11_termOf_74 rfl ?_
        refine ww_iload_n hX (pc := 75) dX11_termOf_75 rfl ?_
        refine vJ1 hX (pc := 76) sX11_237 (xs_49 hL) (c6_X11_partOf l0 hL cI_71  (by omega) vI_71 (zEV_ch kI_71 (by decide) (by decide) hV) bI_71 hT9 hrec) (by omega) (Nat.le_refl 0) (Nat.le_refl 0) (Nat.le_of_ble_eq_true rfl) dX11_termOf_76 (fun x_76 I_76 J_76 h_76 => ?_)
        have kJ_76 : Kp 49 73 Ja J_76 := Kp_tr kJ6 h_76.2.1
        have kI_76 : Ch [] [19, 21] Ia I_76 := Ch_tr kI_71 (Ch_wd h_76.1 (by decide) (by decide))
        have cI_76 : RX I_76 := h_76.2.2.1
        have qI_76 := RX_w cI_76
        have f20_I_76 : I_76 49 20 = I_71 49 20 := h_76.1.2 20 (by decide)
        have vI_76 : EV I_76 t c d9 := h_76.2.2.2.1
        have oI_76 := EV_o vI_76
        have yI_76 := h_76.2.2.2.2
        have bI_76 : zB1 I_76 := yI_76.1
        refine ww_lstore hX (pc := 79) (lv' := [some (kR (some 49)), some (kI la), some (kL v9), none, some (kI x_59), some (kL x_76), none]) dX11_termOf_79 (by decide) rfl rfl ?_
        refine ww_iload hX (pc := 81) dX11_termOf_81 rfl ?_
        refine ww_bipush hX (pc := 83) (x := 42) dX11_termOf_83 (by decide) ?_
        refine sI1 hX (pc := 85) sX11_190 (c_X11_sign l0 ) (by omega) (Nat.le_refl 0) (Nat.le_refl 0) (Nat.le_of_ble_eq_true rfl) dX11_termOf_85 (fun x_85 I_85 J_85 h_85 => ?_)
        obtain ⟨rfl, rfl, h_85⟩ := h_85
        refine ww_icmp_eq hX (pc := 88) (tgt := 121) dX11_termOf_88 (by decide) (fun h_88 => ?_) (fun h_88 => ?_)
        · simp only [w32_mod] at h_88
          refine ww_aload_n hX (pc := 121) dX11_termOf_121 rfl ?_
          refine ww_iload hX (pc := 122) dX11_termOf_122 rfl ?_
          refine ww_bipush hX (pc := 124) (x := 42) dX11_termOf_124 (by decide) ?_
          refine sI1 hX (pc := 126) sX11_190 (c_X11_sign l0 ) (by omega) (Nat.le_refl 0) (Nat.le_refl 0) (Nat.le_of_ble_eq_true rfl) dX11_termOf_126 (fun x_126 I_126 J_126 h_126 => ?_)
          obtain ⟨rfl, rfl, h_126⟩ := h_126
          refine ww_icmp_ne hX (pc := 129) (tgt := 139) dX11_termOf_129 (by decide) (fun h_129 => ?_) (fun h_129 => ?_)
          · simp only [w32_mod] at h_129
            exfalso
            omega
          · simp only [w32_mod] at h_129
            refine ww_lload_n hX (pc := 132) dX11_termOf_132 rfl ?_
            refine ww_lload hX (pc := 133) dX11_termOf_133 rfl ?_
            refine ww_lmul hX (pc := 135) dX11_termOf_135 ?_
            refine ww_goto hX (pc := 136) (tgt := 160) dX11_termOf_136 (by decide) ?_
            refine ww_iload_n hX (pc := 160) dX11_termOf_160 rfl ?_
            refine vJ2 hX (pc := 161) sX11_233 (xs_49 hL) (c6_X11_bounded l0 hL cI_76  (by omega) vI_76 (zEV_ch kI_76 (by decide) (by decide) hV) bI_76) (by omega) (Nat.le_refl 0) (Nat.le_refl 0) (Nat.le_of_ble_eq_true rfl) dX11_termOf_161 (fun x_161 I_161 J_161 h_161 => ?_)
            have kJ_161 : Kp 49 73 Ja J_161 := Kp_tr kJ_76 h_161.2.1
            have kI_161 : Ch [] [19, 21] Ia I_161 := Ch_tr kI_76 (Ch_wd h_161.1 (by decide) (by decide))
            have cI_161 : RX I_161 := h_161.2.2.1
            have qI_161 := RX_w cI_161
            have f20_I_161 : I_161 49 20 = I_76 49 20 := h_161.1.2 20 (by decide)
            have vI_161 : EV I_161 t c d9 := h_161.2.2.2.1
            have oI_161 := EV_o vI_161
            have yI_161 := h_161.2.2.2.2
            have bI_161 : zB1 I_161 := yI_161.1
            refine ww_lstore_n hX (pc := 164) (lv' := [some (kR (some 49)), some (kI la), some (kL x_161), none, some (kI x_59), some (kL x_76), none]) dX11_termOf_164 (by decide) rfl rfl ?_
            refine ww_goto hX (pc := 165) (tgt := 6) dX11_termOf_165 (by decide) ?_
            refine ww_sub [some (kR (some 49)), some (kI la), some (kL x_161), none, none, none, none] (aLe_s (aLe_s (aLe_s (aLe_n (aLe_n (aLe_n (aLe_n aLe_0))))))) ?_
            exact ih_6 _ (by have hm9 := Sh0_e hq_6; omega) x_161 I_161 J_161 rfl ⟨kI_161, cI_161, kJ_161, ⟨d9, _, vI_161, bI_161, (by rw [zJD_2, show c p9 = 142 by omega]; exact zRv_op hla (by have h9 := hB; unfold zB1 at h9; exact h9) (zRv_cg hr6 rfl rfl) (zRv_cg yI_76.2 (by omega) rfl) (zRv_bd yI_161.2 (by omega)) (fun g1 g2 g3 g4 => ⟨rfl, by have h9 := mul_le9 g1 g2 g3 g4; omega, by have h9 := mul_le9 g1 g2 g3 g4; omega, fun h9 => by omega⟩)), hR9⟩⟩
        · simp only [w32_mod] at h_88
          exfalso
          omega
      · simp only [w32_mod] at h_19
        refine ww_aload_n hX (pc := 22) dX11_termOf_22 rfl ?_
        refine ww_aload_n hX (pc := 23) dX11_termOf_23 rfl ?_
        refine ww_getI hX (pc := 24) fX11_215 (by decide) (xs_49 hL) dX11_termOf_24 ?_
        refine vI1 hX (pc := 27) sX11_218 (xs_49 hL) (c_X11_codeAt l0 hL cI6  rfl vI6) (by omega) (Nat.le_refl 0) (Nat.le_refl 0) (Nat.le_of_ble_eq_true rfl) dX11_termOf_27 (fun x_27 I_27 J_27 h_27 => ?_)
        obtain ⟨rfl, rfl, h_27⟩ := h_27
        refine ww_bipush hX (pc := 30) (x := 47) dX11_termOf_30 (by decide) ?_
        refine sI1 hX (pc := 32) sX11_190 (c_X11_sign l0 ) (by omega) (Nat.le_refl 0) (Nat.le_refl 0) (Nat.le_of_ble_eq_true rfl) dX11_termOf_32 (fun x_32 I_32 J_32 h_32 => ?_)
        obtain ⟨rfl, rfl, h_32⟩ := h_32
        refine ww_icmp_eq hX (pc := 35) (tgt := 54) dX11_termOf_35 (by decide) (fun h_35 => ?_) (fun h_35 => ?_)
        · simp only [w32_mod] at h_35
          have hop : c p9 ∈ ([142, 147, 137] : List Int) := by simp only [List.mem_cons, List.not_mem_nil, or_false]; omega
          have hz9 := EV_z (i := p9) vI6 (fun e9 => by rw [e9] at hop; revert hop; decide)
          obtain ⟨d9, F9, hT9, hlt9, hR9⟩ := zHR_op hR6 (zPart_lt m) hop (by omega)
          have hle9 := zHR_l (zPart_lt m) hR9
          refine ww_aload_n hX (pc := 54) dX11_termOf_54 rfl ?_
          refine ww_aload_n hX (pc := 55) dX11_termOf_55 rfl ?_
          refine ww_getI hX (pc := 56) fX11_215 (by decide) (xs_49 hL) dX11_termOf_56 ?_
          refine vI1 hX (pc := 59) sX11_218 (xs_49 hL) (c_X11_codeAt l0 hL cI6  rfl vI6) (by omega) (Nat.le_refl 0) (Nat.le_refl 0) (Nat.le_of_ble_eq_true rfl) dX11_termOf_59 (fun x_59 I_59 J_59 h_59 => ?_)
          obtain ⟨rfl, rfl, h_59⟩ := h_59
          refine ww_istore hX (pc := 62) (lv' := [some (kR (some 49)), some (kI la), some (kL v9), none, some (kI x_59), none, none]) dX11_termOf_62 (by decide) rfl rfl ?_
          refine ww_aload_n hX (pc := 64) dX11_termOf_64 rfl ?_
          refine ww_dupR hX (pc := 65) dX11_termOf_65 ?_
          refine ww_getI hX (pc := 66) fX11_215 (by decide) (xs_49 hL) dX11_termOf_66 ?_
          refine ww_iconst hX (pc := 69) (x := 1) dX11_termOf_69 rfl ?_
          refine ww_iadd hX (pc := 70) dX11_termOf_70 ?_
          refine ww_putI hX (pc := 71) (fun h9 => absurd h9 (by decide)) gX11_215 rfl (xs_49 hL) dX11_termOf_71 ?_
          refine ww_nmH (fun I_71 eI_71 => ?_)
          have kI_71 : Ch [] [19, 21] Ia I_71 := by rw [eI_71]; exact Ch_f kI6 (by decide)
          have cI_71 : RX I_71 := by rw [eI_71]; exact RX_f cI6 (by decide)
          have qI_71 := RX_w cI_71
          have f20_I_71 : I_71 49 20 = I6 49 20 := by rw [eI_71, up2_n _ _ (Or.inr (by decide))]
          have f21_I_71 : I_71 49 21 = I6 49 21 := by rw [eI_71, up2_n _ _ (Or.inr (by decide))]
          have vI_71 : EV I_71 t c (p9 + 1) := EV_st vI6 (by rw [eI_71, up2_off _ _ _ (by decide)]) (by omega) (by rw [eI_71, up2_s]; omega) (by omega)
          have oI_71 := EV_o vI_71
          have bI_71 : zB1 I_71 := zB1_e bI6 f21_I_71
          refine ww_aload_n hX (pc := 74) dX11_termOf_74 rfl ?_
          refine ww_iload_n hX (pc := 75) dX11_termOf_75 rfl ?_
          refine vJ1 hX (pc := 76) sX11_237 (xs_49 hL) (c6_X11_partOf l0 hL cI_71  (by omega) vI_71 (zEV_ch kI_71 (by decide) (by decide) hV) bI_71 hT9 hrec) (by omega) (Nat.le_refl 0) (Nat.le_refl 0) (Nat.le_of_ble_eq_true rfl) dX11_termOf_76 (fun x_76 I_76 J_76 h_76 => ?_)
          have kJ_76 : Kp 49 73 Ja J_76 := Kp_tr kJ6 h_76.2.1
          have kI_76 : Ch [] [19, 21] Ia I_76 := Ch_tr kI_71 (Ch_wd h_76.1 (by decide) (by decide))
          have cI_76 : RX I_76 := h_76.2.2.1
          have qI_76 := RX_w cI_76
          have f20_I_76 : I_76 49 20 = I_71 49 20 := h_76.1.2 20 (by decide)
          have vI_76 : EV I_76 t c d9 := h_76.2.2.2.1
          have oI_76 := EV_o vI_76
          have yI_76 := h_76.2.2.2.2
          have bI_76 : zB1 I_76 := yI_76.1
          refine ww_lstore hX (pc := 79) (lv' := [some (kR (some 49)), some (kI la), some (kL v9), none, some (kI x_59), some (kL x_76), none]) dX11_termOf_79 (by decide) rfl rfl ?_
          refine ww_iload hX (pc := 81) dX11_termOf_81 rfl ?_
          refine ww_bipush hX (pc := 83) (x := 42) dX11_termOf_83 (by decide) ?_
          refine sI1 hX (pc := 85) sX11_190 (c_X11_sign l0 ) (by omega) (Nat.le_refl 0) (Nat.le_refl 0) (Nat.le_of_ble_eq_true rfl) dX11_termOf_85 (fun x_85 I_85 J_85 h_85 => ?_)
          obtain ⟨rfl, rfl, h_85⟩ := h_85
          refine ww_icmp_eq hX (pc := 88) (tgt := 121) dX11_termOf_88 (by decide) (fun h_88 => ?_) (fun h_88 => ?_)
          · simp only [w32_mod] at h_88
            exfalso
            omega
          · simp only [w32_mod] at h_88
            refine ww_lload hX (pc := 91) dX11_termOf_91 rfl ?_
            refine ww_lconst hX (pc := 93) (x := 0) dX11_termOf_93 (by decide) ?_
            refine ww_lcmp hX (pc := 94) dX11_termOf_94 ?_
            refine ww_if_ne hX (pc := 95) (tgt := 121) dX11_termOf_95 (by decide) (fun h_95 => ?_) (fun h_95 => ?_)
            · simp only [w32_mod] at h_95
              have hnz := l_cmp_ne0 h_95
              refine ww_aload_n hX (pc := 121) dX11_termOf_121 rfl ?_
              refine ww_iload hX (pc := 122) dX11_termOf_122 rfl ?_
              refine ww_bipush hX (pc := 124) (x := 42) dX11_termOf_124 (by decide) ?_
              refine sI1 hX (pc := 126) sX11_190 (c_X11_sign l0 ) (by omega) (Nat.le_refl 0) (Nat.le_refl 0) (Nat.le_of_ble_eq_true rfl) dX11_termOf_126 (fun x_126 I_126 J_126 h_126 => ?_)
              obtain ⟨rfl, rfl, h_126⟩ := h_126
              refine ww_icmp_ne hX (pc := 129) (tgt := 139) dX11_termOf_129 (by decide) (fun h_129 => ?_) (fun h_129 => ?_)
              · simp only [w32_mod] at h_129
                refine ww_iload hX (pc := 139) dX11_termOf_139 rfl ?_
                refine ww_bipush hX (pc := 141) (x := 47) dX11_termOf_141 (by decide) ?_
                refine sI1 hX (pc := 143) sX11_190 (c_X11_sign l0 ) (by omega) (Nat.le_refl 0) (Nat.le_refl 0) (Nat.le_of_ble_eq_true rfl) dX11_termOf_143 (fun x_143 I_143 J_143 h_143 => ?_)
                obtain ⟨rfl, rfl, h_143⟩ := h_143
                refine ww_icmp_ne hX (pc := 146) (tgt := 156) dX11_termOf_146 (by decide) (fun h_146 => ?_) (fun h_146 => ?_)
                · simp only [w32_mod] at h_146
                  exfalso
                  omega
                · simp only [w32_mod] at h_146
                  refine ww_lload_n hX (pc := 149) dX11_termOf_149 rfl ?_
                  refine ww_lload hX (pc := 150) dX11_termOf_150 rfl ?_
                  refine ww_ldiv hX (pc := 152) dX11_termOf_152 (by first | exact hnz | decide) ?_
                  refine ww_goto hX (pc := 153) (tgt := 160) dX11_termOf_153 (by decide) ?_
                  refine ww_iload_n hX (pc := 160) dX11_termOf_160 rfl ?_
                  refine vJ2 hX (pc := 161) sX11_233 (xs_49 hL) (c6_X11_bounded l0 hL cI_76  (by omega) vI_76 (zEV_ch kI_76 (by decide) (by decide) hV) bI_76) (by omega) (Nat.le_refl 0) (Nat.le_refl 0) (Nat.le_of_ble_eq_true rfl) dX11_termOf_161 (fun x_161 I_161 J_161 h_161 => ?_)
                  have kJ_161 : Kp 49 73 Ja J_161 := Kp_tr kJ_76 h_161.2.1
                  have kI_161 : Ch [] [19, 21] Ia I_161 := Ch_tr kI_76 (Ch_wd h_161.1 (by decide) (by decide))
                  have cI_161 : RX I_161 := h_161.2.2.1
                  have qI_161 := RX_w cI_161
                  have f20_I_161 : I_161 49 20 = I_76 49 20 := h_161.1.2 20 (by decide)
                  have vI_161 : EV I_161 t c d9 := h_161.2.2.2.1
                  have oI_161 := EV_o vI_161
                  have yI_161 := h_161.2.2.2.2
                  have bI_161 : zB1 I_161 := yI_161.1
                  refine ww_lstore_n hX (pc := 164) (lv' := [some (kR (some 49)), some (kI la), some (kL x_161), none, some (kI x_59), some (kL x_76), none]) dX11_termOf_164 (by decide) rfl rfl ?_
                  refine ww_goto hX (pc := 165) (tgt := 6) dX11_termOf_165 (by decide) ?_
                  refine ww_sub [some (kR (some 49)), some (kI la), some (kL x_161), none, none, none, none] (aLe_s (aLe_s (aLe_s (aLe_n (aLe_n (aLe_n (aLe_n aLe_0))))))) ?_
                  exact ih_6 _ (by have hm9 := Sh0_e hq_6; omega) x_161 I_161 J_161 rfl ⟨kI_161, cI_161, kJ_161, ⟨d9, _, vI_161, bI_161, (by rw [zJD_2, show c p9 = 147 by omega]; exact zRv_op hla (by have h9 := hB; unfold zB1 at h9; exact h9) (zRv_cg hr6 rfl rfl) (zRv_cg yI_76.2 (by omega) rfl) (zRv_bd yI_161.2 (by omega)) (fun g1 g2 g3 g4 => ⟨l_div_t g1 g2 g3 g4, by rw [l_div_t g1 g2 g3 g4]; have h9 := tdiv_le (b := x_76) g1 g2; omega, by rw [l_div_t g1 g2 g3 g4]; have h9 := tdiv_le (b := x_76) g1 g2; omega, fun h9 => hnz (by rw [w64_id (by omega) (by omega)]; exact h9.2)⟩)), hR9⟩⟩
              · simp only [w32_mod] at h_129
                exfalso
                omega
            · simp only [w32_mod] at h_95
              have hwz : w64 x_76 = 0 := by have h9 := l_cmp_v x_76 0; have h8 : w64 0 = 0 := rfl; omega
              have hB76 := bI_76
              unfold zB1 at hB76
              refine ww_aload_n hX (pc := 98) dX11_termOf_98 rfl ?_
              refine ww_aload_n hX (pc := 99) dX11_termOf_99 rfl ?_
              refine ww_getI hX (pc := 100) fX11_225 (by decide) (xs_49 hL) dX11_termOf_100 ?_
              refine ww_if_ne hX (pc := 103) (tgt := 110) dX11_termOf_103 (by decide) (fun h_103 => ?_) (fun h_103 => ?_)
              · simp only [w32_mod] at h_103
                refine ww_iconst hX (pc := 110) (x := 1) dX11_termOf_110 rfl ?_
                refine ww_goto hX (pc := 111) (tgt := 115) dX11_termOf_111 (by decide) ?_
                refine ww_putZ hX (pc := 115) (fun h9 => absurd h9 (by decide)) gX11_225 rfl (by decide) (xs_49 hL) dX11_termOf_115 ?_
                refine ww_nmH (fun I_115 eI_115 => ?_)
                have kI_115 : Ch [] [19, 21] Ia I_115 := by rw [eI_115]; exact Ch_f kI_76 (by decide)
                have cI_115 : RX I_115 := by rw [eI_115]; exact RX_f cI_76 (by decide)
                have qI_115 := RX_w cI_115
                have f19_I_115 : I_115 49 19 = I_76 49 19 := by rw [eI_115, up2_n _ _ (Or.inr (by decide))]
                have f20_I_115 : I_115 49 20 = I_76 49 20 := by rw [eI_115, up2_n _ _ (Or.inr (by decide))]
                have w21 : I_115 49 21 = 1 := by rw [eI_115, up2_s]
                have vI_115 : EV I_115 t c d9 := EV_st vI_76 (by rw [eI_115, up2_off _ _ _ (by decide)]) (by omega) (by omega) (by omega)
                have oI_115 := EV_o vI_115
                have bI_115 : zB1 I_115 := by unfold zB1; rw [eI_115, up2_s]; omega
                refine ww_lconst hX (pc := 118) (x := 1) dX11_termOf_118 (by decide) ?_
                refine ww_lstore hX (pc := 119) (lv' := [some (kR (some 49)), some (kI la), some (kL v9), none, some (kI x_59), some (kL 1), none]) dX11_termOf_119 (by decide) rfl rfl ?_
                refine ww_aload_n hX (pc := 121) dX11_termOf_121 rfl ?_
                refine ww_iload hX (pc := 122) dX11_termOf_122 rfl ?_
                refine ww_bipush hX (pc := 124) (x := 42) dX11_termOf_124 (by decide) ?_
                refine sI1 hX (pc := 126) sX11_190 (c_X11_sign l0 ) (by omega) (Nat.le_refl 0) (Nat.le_refl 0) (Nat.le_of_ble_eq_true rfl) dX11_termOf_126 (fun x_126 I_126 J_126 h_126 => ?_)
                obtain ⟨rfl, rfl, h_126⟩ := h_126
                refine ww_icmp_ne hX (pc := 129) (tgt := 139) dX11_termOf_129 (by decide) (fun h_129 => ?_) (fun h_129 => ?_)
                · simp only [w32_mod] at h_129
                  refine ww_iload hX (pc := 139) dX11_termOf_139 rfl ?_
                  refine ww_bipush hX (pc := 141) (x := 47) dX11_termOf_141 (by decide) ?_
                  refine sI1 hX (pc := 143) sX11_190 (c_X11_sign l0 ) (by omega) (Nat.le_refl 0) (Nat.le_refl 0) (Nat.le_of_ble_eq_true rfl) dX11_termOf_143 (fun x_143 I_143 J_143 h_143 => ?_)
                  obtain ⟨rfl, rfl, h_143⟩ := h_143
                  refine ww_icmp_ne hX (pc := 146) (tgt := 156) dX11_termOf_146 (by decide) (fun h_146 => ?_) (fun h_146 => ?_)
                  · simp only [w32_mod] at h_146
                    exfalso
                    omega
                  · simp only [w32_mod] at h_146
                    refine ww_lload_n hX (pc := 149) dX11_termOf_149 rfl ?_
                    refine ww_lload hX (pc := 150) dX11_termOf_150 rfl ?_
                    refine ww_ldiv hX (pc := 152) dX11_termOf_152 (by first | exact hnz | decide) ?_
                    refine ww_goto hX (pc := 153) (tgt := 160) dX11_termOf_153 (by decide) ?_
                    refine ww_iload_n hX (pc := 160) dX11_termOf_160 rfl ?_
                    refine vJ2 hX (pc := 161) sX11_233 (xs_49 hL) (c6_X11_bounded l0 hL cI_115  (by omega) vI_115 (zEV_ch kI_115 (by decide) (by decide) hV) bI_115) (by omega) (Nat.le_refl 0) (Nat.le_refl 0) (Nat.le_of_ble_eq_true rfl) dX11_termOf_161 (fun x_161 I_161 J_161 h_161 => ?_)
                    have kJ_161 : Kp 49 73 Ja J_161 := Kp_tr kJ_76 h_161.2.1
                    have kI_161 : Ch [] [19, 21] Ia I_161 := Ch_tr kI_115 (Ch_wd h_161.1 (by decide) (by decide))
                    have cI_161 : RX I_161 := h_161.2.2.1
                    have qI_161 := RX_w cI_161
                    have f20_I_161 : I_161 49 20 = I_115 49 20 := h_161.1.2 20 (by decide)
                    have vI_161 : EV I_161 t c d9 := h_161.2.2.2.1
                    have oI_161 := EV_o vI_161
                    have yI_161 := h_161.2.2.2.2
                    have bI_161 : zB1 I_161 := yI_161.1
                    refine ww_lstore_n hX (pc := 164) (lv' := [some (kR (some 49)), some (kI la), some (kL x_161), none, some (kI x_59), some (kL 1), none]) dX11_termOf_164 (by decide) rfl rfl ?_
                    refine ww_goto hX (pc := 165) (tgt := 6) dX11_termOf_165 (by decide) ?_
                    refine ww_sub [some (kR (some 49)), some (kI la), some (kL x_161), none, none, none, none] (aLe_s (aLe_s (aLe_s (aLe_n (aLe_n (aLe_n (aLe_n aLe_0))))))) ?_
                    exact ih_6 _ (by have hm9 := Sh0_e hq_6; omega) x_161 I_161 J_161 rfl ⟨kI_161, cI_161, kJ_161, ⟨d9, _, vI_161, bI_161, (by rw [zJD_2, show c p9 = 147 by omega]; exact zRv_z hla (by have h9 := hB; unfold zB1 at h9; exact h9) (zRv_cg hr6 rfl rfl) (zRv_cg yI_76.2 (by omega) rfl) (fun g1 g2 => by have h9 := w64_id (x := x_76) (by omega) (by omega); omega) (by decide) (fun g => by omega) (fun g => by omega) yI_161.2), hR9⟩⟩
                · simp only [w32_mod] at h_129
                  exfalso
                  omega
              · simp only [w32_mod] at h_103
                refine ww_iload_n hX (pc := 106) dX11_termOf_106 rfl ?_
                refine ww_if_eq hX (pc := 107) (tgt := 114) dX11_termOf_107 (by decide) (fun h_107 => ?_) (fun h_107 => ?_)
                · simp only [w32_mod] at h_107
                  refine ww_iconst hX (pc := 114) (x := 0) dX11_termOf_114 rfl ?_
                  refine ww_putZ hX (pc := 115) (fun h9 => absurd h9 (by decide)) gX11_225 rfl (by decide) (xs_49 hL) dX11_termOf_115 ?_
                  refine ww_nmH (fun I_115 eI_115 => ?_)
                  have kI_115 : Ch [] [19, 21] Ia I_115 := by rw [eI_115]; exact Ch_f kI_76 (by decide)
                  have cI_115 : RX I_115 := by rw [eI_115]; exact RX_f cI_76 (by decide)
                  have qI_115 := RX_w cI_115
                  have f19_I_115 : I_115 49 19 = I_76 49 19 := by rw [eI_115, up2_n _ _ (Or.inr (by decide))]
                  have f20_I_115 : I_115 49 20 = I_76 49 20 := by rw [eI_115, up2_n _ _ (Or.inr (by decide))]
                  have w21 : I_115 49 21 = 0 := by rw [eI_115, up2_s]
                  have vI_115 : EV I_115 t c d9 := EV_st vI_76 (by rw [eI_115, up2_off _ _ _ (by decide)]) (by omega) (by omega) (by omega)
                  have oI_115 := EV_o vI_115
                  have bI_115 : zB1 I_115 := by unfold zB1; rw [eI_115, up2_s]; omega
                  refine ww_lconst hX (pc := 118) (x := 1) dX11_termOf_118 (by decide) ?_
                  refine ww_lstore hX (pc := 119) (lv' := [some (kR (some 49)), some (kI la), some (kL v9), none, some (kI x_59), some (kL 1), none]) dX11_termOf_119 (by decide) rfl rfl ?_
                  refine ww_aload_n hX (pc := 121) dX11_termOf_121 rfl ?_
                  refine ww_iload hX (pc := 122) dX11_termOf_122 rfl ?_
                  refine ww_bipush hX (pc := 124) (x := 42) dX11_termOf_124 (by decide) ?_
                  refine sI1 hX (pc := 126) sX11_190 (c_X11_sign l0 ) (by omega) (Nat.le_refl 0) (Nat.le_refl 0) (Nat.le_of_ble_eq_true rfl) dX11_termOf_126 (fun x_126 I_126 J_126 h_126 => ?_)
                  obtain ⟨rfl, rfl, h_126⟩ := h_126
                  refine ww_icmp_ne hX (pc := 129) (tgt := 139) dX11_termOf_129 (by decide) (fun h_129 => ?_) (fun h_129 => ?_)
                  · simp only [w32_mod] at h_129
                    refine ww_iload hX (pc := 139) dX11_termOf_139 rfl ?_
                    refine ww_bipush hX (pc := 141) (x := 47) dX11_termOf_141 (by decide) ?_
                    refine sI1 hX (pc := 143) sX11_190 (c_X11_sign l0 ) (by omega) (Nat.le_refl 0) (Nat.le_refl 0) (Nat.le_of_ble_eq_true rfl) dX11_termOf_143 (fun x_143 I_143 J_143 h_143 => ?_)
                    obtain ⟨rfl, rfl, h_143⟩ := h_143
                    refine ww_icmp_ne hX (pc := 146) (tgt := 156) dX11_termOf_146 (by decide) (fun h_146 => ?_) (fun h_146 => ?_)
                    · simp only [w32_mod] at h_146
                      exfalso
                      omega
                    · simp only [w32_mod] at h_146
                      refine ww_lload_n hX (pc := 149) dX11_termOf_149 rfl ?_
                      refine ww_lload hX (pc := 150) dX11_termOf_150 rfl ?_
                      refine ww_ldiv hX (pc := 152) dX11_termOf_152 (by first | exact hnz | decide) ?_
                      refine ww_goto hX (pc := 153) (tgt := 160) dX11_termOf_153 (by decide) ?_
                      refine ww_iload_n hX (pc := 160) dX11_termOf_160 rfl ?_
                      refine vJ2 hX (pc := 161) sX11_233 (xs_49 hL) (c6_X11_bounded l0 hL cI_115  (by omega) vI_115 (zEV_ch kI_115 (by decide) (by decide) hV) bI_115) (by omega) (Nat.le_refl 0) (Nat.le_refl 0) (Nat.le_of_ble_eq_true rfl) dX11_termOf_161 (fun x_161 I_161 J_161 h_161 => ?_)
                      have kJ_161 : Kp 49 73 Ja J_161 := Kp_tr kJ_76 h_161.2.1
                      have kI_161 : Ch [] [19, 21] Ia I_161 := Ch_tr kI_115 (Ch_wd h_161.1 (by decide) (by decide))
                      have cI_161 : RX I_161 := h_161.2.2.1
                      have qI_161 := RX_w cI_161
                      have f20_I_161 : I_161 49 20 = I_115 49 20 := h_161.1.2 20 (by decide)
                      have vI_161 : EV I_161 t c d9 := h_161.2.2.2.1
                      have oI_161 := EV_o vI_161
                      have yI_161 := h_161.2.2.2.2
                      have bI_161 : zB1 I_161 := yI_161.1
                      refine ww_lstore_n hX (pc := 164) (lv' := [some (kR (some 49)), some (kI la), some (kL x_161), none, some (kI x_59), some (kL 1), none]) dX11_termOf_164 (by decide) rfl rfl ?_
                      refine ww_goto hX (pc := 165) (tgt := 6) dX11_termOf_165 (by decide) ?_
                      refine ww_sub [some (kR (some 49)), some (kI la), some (kL x_161), none, none, none, none] (aLe_s (aLe_s (aLe_s (aLe_n (aLe_n (aLe_n (aLe_n aLe_0))))))) ?_
                      exact ih_6 _ (by have hm9 := Sh0_e hq_6; omega) x_161 I_161 J_161 rfl ⟨kI_161, cI_161, kJ_161, ⟨d9, _, vI_161, bI_161, (by rw [zJD_2, show c p9 = 147 by omega]; exact zRv_z hla (by have h9 := hB; unfold zB1 at h9; exact h9) (zRv_cg hr6 rfl rfl) (zRv_cg yI_76.2 (by omega) rfl) (fun g1 g2 => by have h9 := w64_id (x := x_76) (by omega) (by omega); omega) (by decide) (fun g => by omega) (fun g => by omega) yI_161.2), hR9⟩⟩
                  · simp only [w32_mod] at h_129
                    exfalso
                    omega
                · simp only [w32_mod] at h_107
                  refine ww_iconst hX (pc := 110) (x := 1) dX11_termOf_110 rfl ?_
                  refine ww_goto hX (pc := 111) (tgt := 115) dX11_termOf_111 (by decide) ?_
                  refine ww_putZ hX (pc := 115) (fun h9 => absurd h9 (by decide)) gX11_225 rfl (by decide) (xs_49 hL) dX11_termOf_115 ?_
                  refine ww_nmH (fun I_115 eI_115 => ?_)
                  have kI_115 : Ch [] [19, 21] Ia I_115 := by rw [eI_115]; exact Ch_f kI_76 (by decide)
                  have cI_115 : RX I_115 := by rw [eI_115]; exact RX_f cI_76 (by decide)
                  have qI_115 := RX_w cI_115
                  have f19_I_115 : I_115 49 19 = I_76 49 19 := by rw [eI_115, up2_n _ _ (Or.inr (by decide))]
                  have f20_I_115 : I_115 49 20 = I_76 49 20 := by rw [eI_115, up2_n _ _ (Or.inr (by decide))]
                  have w21 : I_115 49 21 = 1 := by rw [eI_115, up2_s]
                  have vI_115 : EV I_115 t c d9 := EV_st vI_76 (by rw [eI_115, up2_off _ _ _ (by decide)]) (by omega) (by omega) (by omega)
                  have oI_115 := EV_o vI_115
                  have bI_115 : zB1 I_115 := by unfold zB1; rw [eI_115, up2_s]; omega
                  refine ww_lconst hX (pc := 118) (x := 1) dX11_termOf_118 (by decide) ?_
                  refine ww_lstore hX (pc := 119) (lv' := [some (kR (some 49)), some (kI la), some (kL v9), none, some (kI x_59), some (kL 1), none]) dX11_termOf_119 (by decide) rfl rfl ?_
                  refine ww_aload_n hX (pc := 121) dX11_termOf_121 rfl ?_
                  refine ww_iload hX (pc := 122) dX11_termOf_122 rfl ?_
                  refine ww_bipush hX (pc := 124) (x := 42) dX11_termOf_124 (by decide) ?_
                  refine sI1 hX (pc := 126) sX11_190 (c_X11_sign l0 ) (by omega) (Nat.le_refl 0) (Nat.le_refl 0) (Nat.le_of_ble_eq_true rfl) dX11_termOf_126 (fun x_126 I_126 J_126 h_126 => ?_)
                  obtain ⟨rfl, rfl, h_126⟩ := h_126
                  refine ww_icmp_ne hX (pc := 129) (tgt := 139) dX11_termOf_129 (by decide) (fun h_129 => ?_) (fun h_129 => ?_)
                  · simp only [w32_mod] at h_129
                    refine ww_iload hX (pc := 139) dX11_termOf_139 rfl ?_
                    refine ww_bipush hX (pc := 141) (x := 47) dX11_termOf_141 (by decide) ?_
                    refine sI1 hX (pc := 143) sX11_190 (c_X11_sign l0 ) (by omega) (Nat.le_refl 0) (Nat.le_refl 0) (Nat.le_of_ble_eq_true rfl) dX11_termOf_143 (fun x_143 I_143 J_143 h_143 => ?_)
                    obtain ⟨rfl, rfl, h_143⟩ := h_143
                    refine ww_icmp_ne hX (pc := 146) (tgt := 156) dX11_termOf_146 (by decide) (fun h_146 => ?_) (fun h_146 => ?_)
                    · simp only [w32_mod] at h_146
                      exfalso
                      omega
                    · simp only [w32_mod] at h_146
                      refine ww_lload_n hX (pc := 149) dX11_termOf_149 rfl ?_
                      refine ww_lload hX (pc := 150) dX11_termOf_150 rfl ?_
                      refine ww_ldiv hX (pc := 152) dX11_termOf_152 (by first | exact hnz | decide) ?_
                      refine ww_goto hX (pc := 153) (tgt := 160) dX11_termOf_153 (by decide) ?_
                      refine ww_iload_n hX (pc := 160) dX11_termOf_160 rfl ?_
                      refine vJ2 hX (pc := 161) sX11_233 (xs_49 hL) (c6_X11_bounded l0 hL cI_115  (by omega) vI_115 (zEV_ch kI_115 (by decide) (by decide) hV) bI_115) (by omega) (Nat.le_refl 0) (Nat.le_refl 0) (Nat.le_of_ble_eq_true rfl) dX11_termOf_161 (fun x_161 I_161 J_161 h_161 => ?_)
                      have kJ_161 : Kp 49 73 Ja J_161 := Kp_tr kJ_76 h_161.2.1
                      have kI_161 : Ch [] [19, 21] Ia I_161 := Ch_tr kI_115 (Ch_wd h_161.1 (by decide) (by decide))
                      have cI_161 : RX I_161 := h_161.2.2.1
                      have qI_161 := RX_w cI_161
                      have f20_I_161 : I_161 49 20 = I_115 49 20 := h_161.1.2 20 (by decide)
                      have vI_161 : EV I_161 t c d9 := h_161.2.2.2.1
                      have oI_161 := EV_o vI_161
                      have yI_161 := h_161.2.2.2.2
                      have bI_161 : zB1 I_161 := yI_161.1
                      refine ww_lstore_n hX (pc := 164) (lv' := [some (kR (some 49)), some (kI la), some (kL x_161), none, some (kI x_59), some (kL 1), none]) dX11_termOf_164 (by decide) rfl rfl ?_
                      refine ww_goto hX (pc := 165) (tgt := 6) dX11_termOf_165 (by decide) ?_
                      refine ww_sub [some (kR (some 49)), some (kI la), some (kL x_161), none, none, none, none] (aLe_s (aLe_s (aLe_s (aLe_n (aLe_n (aLe_n (aLe_n aLe_0))))))) ?_
                      exact ih_6 _ (by have hm9 := Sh0_e hq_6; omega) x_161 I_161 J_161 rfl ⟨kI_161, cI_161, kJ_161, ⟨d9, _, vI_161, bI_161, (by rw [zJD_2, show c p9 = 147 by omega]; exact zRv_z hla (by have h9 := hB; unfold zB1 at h9; exact h9) (zRv_cg hr6 rfl rfl) (zRv_cg yI_76.2 (by omega) rfl) (fun g1 g2 => by have h9 := w64_id (x := x_76) (by omega) (by omega); omega) (by decide) (fun g => by omega) (fun g => by omega) yI_161.2), hR9⟩⟩
                  · simp only [w32_mod] at h_129
                    exfalso
                    omega
        · simp only [w32_mod] at h_35
          refine ww_aload_n hX (pc := 38) dX11_termOf_38 rfl ?_
          refine ww_aload_n hX (pc := 39) dX11_termOf_39 rfl ?_
          refine ww_getI hX (pc := 40) fX11_215 (by decide) (xs_49 hL) dX11_termOf_40 ?_
          refine vI1 hX (pc := 43) sX11_218 (xs_49 hL) (c_X11_codeAt l0 hL cI6  rfl vI6) (by omega) (Nat.le_refl 0) (Nat.le_refl 0) (Nat.le_of_ble_eq_true rfl) dX11_termOf_43 (fun x_43 I_43 J_43 h_43 => ?_)
          obtain ⟨rfl, rfl, h_43⟩ := h_43
          refine ww_bipush hX (pc := 46) (x := 37) dX11_termOf_46 (by decide) ?_
          refine sI1 hX (pc := 48) sX11_190 (c_X11_sign l0 ) (by omega) (Nat.le_refl 0) (Nat.le_refl 0) (Nat.le_of_ble_eq_true rfl) dX11_termOf_48 (fun x_48 I_48 J_48 h_48 => ?_)
          obtain ⟨rfl, rfl, h_48⟩ := h_48
          refine ww_icmp_ne hX (pc := 51) (tgt := 168) dX11_termOf_51 (by decide) (fun h_51 => ?_) (fun h_51 => ?_)
          · simp only [w32_mod] at h_51
            refine ww_lload_n hX (pc := 168) dX11_termOf_168 rfl ?_
            refine rJ hX (pc := 169) hT (Nat.le_refl 0) (Nat.le_refl 0) dX11_termOf_169 ?_
            exact ⟨kI6, kJ6, cI6, (by
                have hb9 := zHR_no hR6 (by simp only [List.mem_cons, List.not_mem_nil, or_false]; omega)
                exact EV_to vI6 hb9.1), bI6, (by
                have hb9 := zHR_no hR6 (by simp only [List.mem_cons, List.not_mem_nil, or_false]; omega)
                rw [← hb9.2]; exact zRv_cg hr6 rfl (by omega))⟩
          · simp only [w32_mod] at h_51
            have hop : c p9 ∈ ([142, 147, 137] : List Int) := by simp only [List.mem_cons, List.not_mem_nil, or_false]; omega
            have hz9 := EV_z (i := p9) vI6 (fun e9 => by rw [e9] at hop; revert hop; decide)
            obtain ⟨d9, F9, hT9, hlt9, hR9⟩ := zHR_op hR6 (zPart_lt m) hop (by omega)
            have hle9 := zHR_l (zPart_lt m) hR9
            refine ww_aload_n hX (pc := 54) dX11_termOf_54 rfl ?_
            refine ww_aload_n hX (pc := 55) dX11_termOf_55 rfl ?_
            refine ww_getI hX (pc := 56) fX11_215 (by decide) (xs_49 hL) dX11_termOf_56 ?_
            refine vI1 hX (pc := 59) sX11_218 (xs_49 hL) (c_X11_codeAt l0 hL cI6  rfl vI6) (by omega) (Nat.le_refl 0) (Nat.le_refl 0) (Nat.le_of_ble_eq_true rfl) dX11_termOf_59 (fun x_59 I_59 J_59 h_59 => ?_)
            obtain ⟨rfl, rfl, h_59⟩ := h_59
            refine ww_istore hX (pc := 62) (lv' := [some (kR (some 49)), some (kI la), some (kL v9), none, some (kI x_59), none, none]) dX11_termOf_62 (by decide) rfl rfl ?_
            refine ww_aload_n hX (pc := 64) dX11_termOf_64 rfl ?_
            refine ww_dupR hX (pc := 65) dX11_termOf_65 ?_
            refine ww_getI hX (pc := 66) fX11_215 (by decide) (xs_49 hL) dX11_termOf_66 ?_
            refine ww_iconst hX (pc := 69) (x := 1) dX11_termOf_69 rfl ?_
            refine ww_iadd hX (pc := 70) dX11_termOf_70 ?_
            refine ww_putI hX (pc := 71) (fun h9 => absurd h9 (by decide)) gX11_215 rfl (xs_49 hL) dX11_termOf_71 ?_
            refine ww_nmH (fun I_71 eI_71 => ?_)
            have kI_71 : Ch [] [19, 21] Ia I_71 := by rw [eI_71]; exact Ch_f kI6 (by decide)
            have cI_71 : RX I_71 := by rw [eI_71]; exact RX_f cI6 (by decide)
            have qI_71 := RX_w cI_71
            have f20_I_71 : I_71 49 20 = I6 49 20 := by rw [eI_71, up2_n _ _ (Or.inr (by decide))]
            have f21_I_71 : I_71 49 21 = I6 49 21 := by rw [eI_71, up2_n _ _ (Or.inr (by decide))]
            have vI_71 : EV I_71 t c (p9 + 1) := EV_st vI6 (by rw [eI_71, up2_off _ _ _ (by decide)]) (by omega) (by rw [eI_71, up2_s]; omega) (by omega)
            have oI_71 := EV_o vI_71
            have bI_71 : zB1 I_71 := zB1_e bI6 f21_I_71
            refine ww_aload_n hX (pc := 74) dX11_termOf_74 rfl ?_
            refine ww_iload_n hX (pc := 75) dX11_termOf_75 rfl ?_
            refine vJ1 hX (pc := 76) sX11_237 (xs_49 hL) (c6_X11_partOf l0 hL cI_71  (by omega) vI_71 (zEV_ch kI_71 (by decide) (by decide) hV) bI_71 hT9 hrec) (by omega) (Nat.le_refl 0) (Nat.le_refl 0) (Nat.le_of_ble_eq_true rfl) dX11_termOf_76 (fun x_76 I_76 J_76 h_76 => ?_)
            have kJ_76 : Kp 49 73 Ja J_76 := Kp_tr kJ6 h_76.2.1
            have kI_76 : Ch [] [19, 21] Ia I_76 := Ch_tr kI_71 (Ch_wd h_76.1 (by decide) (by decide))
            have cI_76 : RX I_76 := h_76.2.2.1
            have qI_76 := RX_w cI_76
            have f20_I_76 : I_76 49 20 = I_71 49 20 := h_76.1.2 20 (by decide)
            have vI_76 : EV I_76 t c d9 := h_76.2.2.2.1
            have oI_76 := EV_o vI_76
            have yI_76 := h_76.2.2.2.2
            have bI_76 : zB1 I_76 := yI_76.1
            refine ww_lstore hX (pc := 79) (lv' := [some (kR (some 49)), some (kI la), some (kL v9), none, some (kI x_59), some (kL x_76), none]) dX11_termOf_79 (by decide) rfl rfl ?_
            refine ww_iload hX (pc := 81) dX11_termOf_81 rfl ?_
            refine ww_bipush hX (pc := 83) (x := 42) dX11_termOf_83 (by decide) ?_
            refine sI1 hX (pc := 85) sX11_190 (c_X11_sign l0 ) (by omega) (Nat.le_refl 0) (Nat.le_refl 0) (Nat.le_of_ble_eq_true rfl) dX11_termOf_85 (fun x_85 I_85 J_85 h_85 => ?_)
            obtain ⟨rfl, rfl, h_85⟩ := h_85
            refine ww_icmp_eq hX (pc := 88) (tgt := 121) dX11_termOf_88 (by decide) (fun h_88 => ?_) (fun h_88 => ?_)
            · simp only [w32_mod] at h_88
              exfalso
              omega
            · simp only [w32_mod] at h_88
              refine ww_lload hX (pc := 91) dX11_termOf_91 rfl ?_
              refine ww_lconst hX (pc := 93) (x := 0) dX11_termOf_93 (by decide) ?_
              refine ww_lcmp hX (pc := 94) dX11_termOf_94 ?_
              refine ww_if_ne hX (pc := 95) (tgt := 121) dX11_termOf_95 (by decide) (fun h_95 => ?_) (fun h_95 => ?_)
              · simp only [w32_mod] at h_95
                have hnz := l_cmp_ne0 h_95
                refine ww_aload_n hX (pc := 121) dX11_termOf_121 rfl ?_
                refine ww_iload hX (pc := 122) dX11_termOf_122 rfl ?_
                refine ww_bipush hX (pc := 124) (x := 42) dX11_termOf_124 (by decide) ?_
                refine sI1 hX (pc := 126) sX11_190 (c_X11_sign l0 ) (by omega) (Nat.le_refl 0) (Nat.le_refl 0) (Nat.le_of_ble_eq_true rfl) dX11_termOf_126 (fun x_126 I_126 J_126 h_126 => ?_)
                obtain ⟨rfl, rfl, h_126⟩ := h_126
                refine ww_icmp_ne hX (pc := 129) (tgt := 139) dX11_termOf_129 (by decide) (fun h_129 => ?_) (fun h_129 => ?_)
                · simp only [w32_mod] at h_129
                  refine ww_iload hX (pc := 139) dX11_termOf_139 rfl ?_
                  refine ww_bipush hX (pc := 141) (x := 47) dX11_termOf_141 (by decide) ?_
                  refine sI1 hX (pc := 143) sX11_190 (c_X11_sign l0 ) (by omega) (Nat.le_refl 0) (Nat.le_refl 0) (Nat.le_of_ble_eq_true rfl) dX11_termOf_143 (fun x_143 I_143 J_143 h_143 => ?_)
                  obtain ⟨rfl, rfl, h_143⟩ := h_143
                  refine ww_icmp_ne hX (pc := 146) (tgt := 156) dX11_termOf_146 (by decide) (fun h_146 => ?_) (fun h_146 => ?_)
                  · simp only [w32_mod] at h_146
                    refine ww_lload_n hX (pc := 156) dX11_termOf_156 rfl ?_
                    refine ww_lload hX (pc := 157) dX11_termOf_157 rfl ?_
                    refine ww_lrem hX (pc := 159) dX11_termOf_159 (by first | exact hnz | decide) ?_
                    refine ww_iload_n hX (pc := 160) dX11_termOf_160 rfl ?_
                    refine vJ2 hX (pc := 161) sX11_233 (xs_49 hL) (c6_X11_bounded l0 hL cI_76  (by omega) vI_76 (zEV_ch kI_76 (by decide) (by decide) hV) bI_76) (by omega) (Nat.le_refl 0) (Nat.le_refl 0) (Nat.le_of_ble_eq_true rfl) dX11_termOf_161 (fun x_161 I_161 J_161 h_161 => ?_)
                    have kJ_161 : Kp 49 73 Ja J_161 := Kp_tr kJ_76 h_161.2.1
                    have kI_161 : Ch [] [19, 21] Ia I_161 := Ch_tr kI_76 (Ch_wd h_161.1 (by decide) (by decide))
                    have cI_161 : RX I_161 := h_161.2.2.1
                    have qI_161 := RX_w cI_161
                    have f20_I_161 : I_161 49 20 = I_76 49 20 := h_161.1.2 20 (by decide)
                    have vI_161 : EV I_161 t c d9 := h_161.2.2.2.1
                    have oI_161 := EV_o vI_161
                    have yI_161 := h_161.2.2.2.2
                    have bI_161 : zB1 I_161 := yI_161.1
                    refine ww_lstore_n hX (pc := 164) (lv' := [some (kR (some 49)), some (kI la), some (kL x_161), none, some (kI x_59), some (kL x_76), none]) dX11_termOf_164 (by decide) rfl rfl ?_
                    refine ww_goto hX (pc := 165) (tgt := 6) dX11_termOf_165 (by decide) ?_
                    refine ww_sub [some (kR (some 49)), some (kI la), some (kL x_161), none, none, none, none] (aLe_s (aLe_s (aLe_s (aLe_n (aLe_n (aLe_n (aLe_n aLe_0))))))) ?_
                    exact ih_6 _ (by have hm9 := Sh0_e hq_6; omega) x_161 I_161 J_161 rfl ⟨kI_161, cI_161, kJ_161, ⟨d9, _, vI_161, bI_161, (by rw [zJD_2, show c p9 = 137 by omega]; exact zRv_op hla (by have h9 := hB; unfold zB1 at h9; exact h9) (zRv_cg hr6 rfl rfl) (zRv_cg yI_76.2 (by omega) rfl) (zRv_bd yI_161.2 (by omega)) (fun g1 g2 g3 g4 => ⟨l_rem_t g1 g2 g3 g4, by rw [l_rem_t g1 g2 g3 g4]; have h9 := tmod_le (b := x_76) g1 g2; omega, by rw [l_rem_t g1 g2 g3 g4]; have h9 := tmod_le (b := x_76) g1 g2; omega, fun h9 => hnz (by rw [w64_id (by omega) (by omega)]; exact h9.2)⟩)), hR9⟩⟩
                  · simp only [w32_mod] at h_146
                    exfalso
                    omega
                · simp only [w32_mod] at h_129
                  exfalso
                  omega
              · simp only [w32_mod] at h_95
                have hwz : w64 x_76 = 0 := by have h9 := l_cmp_v x_76 0; have h8 : w64 0 = 0 := rfl; omega
                have hB76 := bI_76
                unfold zB1 at hB76
                refine ww_aload_n hX (pc := 98) dX11_termOf_98 rfl ?_
                refine ww_aload_n hX (pc := 99) dX11_termOf_99 rfl ?_
                refine ww_getI hX (pc := 100) fX11_225 (by decide) (xs_49 hL) dX11_termOf_100 ?_
                refine ww_if_ne hX (pc := 103) (tgt := 110) dX11_termOf_103 (by decide) (fun h_103 => ?_) (fun h_103 => ?_)
                · simp only [w32_mod] at h_103
                  refine ww_iconst hX (pc := 110) (x := 1) dX11_termOf_110 rfl ?_
                  refine ww_goto hX (pc := 111) (tgt := 115) dX11_termOf_111 (by decide) ?_
                  refine ww_putZ hX (pc := 115) (fun h9 => absurd h9 (by decide)) gX11_225 rfl (by decide) (xs_49 hL) dX11_termOf_115 ?_
                  refine ww_nmH (fun I_115 eI_115 => ?_)
                  have kI_115 : Ch [] [19, 21] Ia I_115 := by rw [eI_115]; exact Ch_f kI_76 (by decide)
                  have cI_115 : RX I_115 := by rw [eI_115]; exact RX_f cI_76 (by decide)
                  have qI_115 := RX_w cI_115
                  have f19_I_115 : I_115 49 19 = I_76 49 19 := by rw [eI_115, up2_n _ _ (Or.inr (by decide))]
                  have f20_I_115 : I_115 49 20 = I_76 49 20 := by rw [eI_115, up2_n _ _ (Or.inr (by decide))]
                  have w21 : I_115 49 21 = 1 := by rw [eI_115, up2_s]
                  have vI_115 : EV I_115 t c d9 := EV_st vI_76 (by rw [eI_115, up2_off _ _ _ (by decide)]) (by omega) (by omega) (by omega)
                  have oI_115 := EV_o vI_115
                  have bI_115 : zB1 I_115 := by unfold zB1; rw [eI_115, up2_s]; omega
                  refine ww_lconst hX (pc := 118) (x := 1) dX11_termOf_118 (by decide) ?_
                  refine ww_lstore hX (pc := 119) (lv' := [some (kR (some 49)), some (kI la), some (kL v9), none, some (kI x_59), some (kL 1), none]) dX11_termOf_119 (by decide) rfl rfl ?_
                  refine ww_aload_n hX (pc := 121) dX11_termOf_121 rfl ?_
                  refine ww_iload hX (pc := 122) dX11_termOf_122 rfl ?_
                  refine ww_bipush hX (pc := 124) (x := 42) dX11_termOf_124 (by decide) ?_
                  refine sI1 hX (pc := 126) sX11_190 (c_X11_sign l0 ) (by omega) (Nat.le_refl 0) (Nat.le_refl 0) (Nat.le_of_ble_eq_true rfl) dX11_termOf_126 (fun x_126 I_126 J_126 h_126 => ?_)
                  obtain ⟨rfl, rfl, h_126⟩ := h_126
                  refine ww_icmp_ne hX (pc := 129) (tgt := 139) dX11_termOf_129 (by decide) (fun h_129 => ?_) (fun h_129 => ?_)
                  · simp only [w32_mod] at h_129
                    refine ww_iload hX (pc := 139) dX11_termOf_139 rfl ?_
                    refine ww_bipush hX (pc := 141) (x := 47) dX11_termOf_141 (by decide) ?_
                    refine sI1 hX (pc := 143) sX11_190 (c_X11_sign l0 ) (by omega) (Nat.le_refl 0) (Nat.le_refl 0) (Nat.le_of_ble_eq_true rfl) dX11_termOf_143 (fun x_143 I_143 J_143 h_143 => ?_)
                    obtain ⟨rfl, rfl, h_143⟩ := h_143
                    refine ww_icmp_ne hX (pc := 146) (tgt := 156) dX11_termOf_146 (by decide) (fun h_146 => ?_) (fun h_146 => ?_)
                    · simp only [w32_mod] at h_146
                      refine ww_lload_n hX (pc := 156) dX11_termOf_156 rfl ?_
                      refine ww_lload hX (pc := 157) dX11_termOf_157 rfl ?_
                      refine ww_lrem hX (pc := 159) dX11_termOf_159 (by first | exact hnz | decide) ?_
                      refine ww_iload_n hX (pc := 160) dX11_termOf_160 rfl ?_
                      refine vJ2 hX (pc := 161) sX11_233 (xs_49 hL) (c6_X11_bounded l0 hL cI_115  (by omega) vI_115 (zEV_ch kI_115 (by decide) (by decide) hV) bI_115) (by omega) (Nat.le_refl 0) (Nat.le_refl 0) (Nat.le_of_ble_eq_true rfl) dX11_termOf_161 (fun x_161 I_161 J_161 h_161 => ?_)
                      have kJ_161 : Kp 49 73 Ja J_161 := Kp_tr kJ_76 h_161.2.1
                      have kI_161 : Ch [] [19, 21] Ia I_161 := Ch_tr kI_115 (Ch_wd h_161.1 (by decide) (by decide))
                      have cI_161 : RX I_161 := h_161.2.2.1
                      have qI_161 := RX_w cI_161
                      have f20_I_161 : I_161 49 20 = I_115 49 20 := h_161.1.2 20 (by decide)
                      have vI_161 : EV I_161 t c d9 := h_161.2.2.2.1
                      have oI_161 := EV_o vI_161
                      have yI_161 := h_161.2.2.2.2
                      have bI_161 : zB1 I_161 := yI_161.1
                      refine ww_lstore_n hX (pc := 164) (lv' := [some (kR (some 49)), some (kI la), some (kL x_161), none, some (kI x_59), some (kL 1), none]) dX11_termOf_164 (by decide) rfl rfl ?_
                      refine ww_goto hX (pc := 165) (tgt := 6) dX11_termOf_165 (by decide) ?_
                      refine ww_sub [some (kR (some 49)), some (kI la), some (kL x_161), none, none, none, none] (aLe_s (aLe_s (aLe_s (aLe_n (aLe_n (aLe_n (aLe_n aLe_0))))))) ?_
                      exact ih_6 _ (by have hm9 := Sh0_e hq_6; omega) x_161 I_161 J_161 rfl ⟨kI_161, cI_161, kJ_161, ⟨d9, _, vI_161, bI_161, (by rw [zJD_2, show c p9 = 137 by omega]; exact zRv_z hla (by have h9 := hB; unfold zB1 at h9; exact h9) (zRv_cg hr6 rfl rfl) (zRv_cg yI_76.2 (by omega) rfl) (fun g1 g2 => by have h9 := w64_id (x := x_76) (by omega) (by omega); omega) (by decide) (fun g => by omega) (fun g => by omega) yI_161.2), hR9⟩⟩
                    · simp only [w32_mod] at h_146
                      exfalso
                      omega
                  · simp only [w32_mod] at h_129
                    exfalso
                    omega
                · simp only [w32_mod] at h_103
                  refine ww_iload_n hX (pc := 106) dX11_termOf_106 rfl ?_
                  refine ww_if_eq hX (pc := 107) (tgt := 114) dX11_termOf_107 (by decide) (fun h_107 => ?_) (fun h_107 => ?_)
                  · simp only [w32_mod] at h_107
                    refine ww_iconst hX (pc := 114) (x := 0) dX11_termOf_114 rfl ?_
                    refine ww_putZ hX (pc := 115) (fun h9 => absurd h9 (by decide)) gX11_225 rfl (by decide) (xs_49 hL) dX11_termOf_115 ?_
                    refine ww_nmH (fun I_115 eI_115 => ?_)
                    have kI_115 : Ch [] [19, 21] Ia I_115 := by rw [eI_115]; exact Ch_f kI_76 (by decide)
                    have cI_115 : RX I_115 := by rw [eI_115]; exact RX_f cI_76 (by decide)
                    have qI_115 := RX_w cI_115
                    have f19_I_115 : I_115 49 19 = I_76 49 19 := by rw [eI_115, up2_n _ _ (Or.inr (by decide))]
                    have f20_I_115 : I_115 49 20 = I_76 49 20 := by rw [eI_115, up2_n _ _ (Or.inr (by decide))]
                    have w21 : I_115 49 21 = 0 := by rw [eI_115, up2_s]
                    have vI_115 : EV I_115 t c d9 := EV_st vI_76 (by rw [eI_115, up2_off _ _ _ (by decide)]) (by omega) (by omega) (by omega)
                    have oI_115 := EV_o vI_115
                    have bI_115 : zB1 I_115 := by unfold zB1; rw [eI_115, up2_s]; omega
                    refine ww_lconst hX (pc := 118) (x := 1) dX11_termOf_118 (by decide) ?_
                    refine ww_lstore hX (pc := 119) (lv' := [some (kR (some 49)), some (kI la), some (kL v9), none, some (kI x_59), some (kL 1), none]) dX11_termOf_119 (by decide) rfl rfl ?_
                    refine ww_aload_n hX (pc := 121) dX11_termOf_121 rfl ?_
                    refine ww_iload hX (pc := 122) dX11_termOf_122 rfl ?_
                    refine ww_bipush hX (pc := 124) (x := 42) dX11_termOf_124 (by decide) ?_
                    refine sI1 hX (pc := 126) sX11_190 (c_X11_sign l0 ) (by omega) (Nat.le_refl 0) (Nat.le_refl 0) (Nat.le_of_ble_eq_true rfl) dX11_termOf_126 (fun x_126 I_126 J_126 h_126 => ?_)
                    obtain ⟨rfl, rfl, h_126⟩ := h_126
                    refine ww_icmp_ne hX (pc := 129) (tgt := 139) dX11_termOf_129 (by decide) (fun h_129 => ?_) (fun h_129 => ?_)
                    · simp only [w32_mod] at h_129
                      refine ww_iload hX (pc := 139) dX11_termOf_139 rfl ?_
                      refine ww_bipush hX (pc := 141) (x := 47) dX11_termOf_141 (by decide) ?_
                      refine sI1 hX (pc := 143) sX11_190 (c_X11_sign l0 ) (by omega) (Nat.le_refl 0) (Nat.le_refl 0) (Nat.le_of_ble_eq_true rfl) dX11_termOf_143 (fun x_143 I_143 J_143 h_143 => ?_)
                      obtain ⟨rfl, rfl, h_143⟩ := h_143
                      refine ww_icmp_ne hX (pc := 146) (tgt := 156) dX11_termOf_146 (by decide) (fun h_146 => ?_) (fun h_146 => ?_)
                      · simp only [w32_mod] at h_146
                        refine ww_lload_n hX (pc := 156) dX11_termOf_156 rfl ?_
                        refine ww_lload hX (pc := 157) dX11_termOf_157 rfl ?_
                        refine ww_lrem hX (pc := 159) dX11_termOf_159 (by first | exact hnz | decide) ?_
                        refine ww_iload_n hX (pc := 160) dX11_termOf_160 rfl ?_
                        refine vJ2 hX (pc := 161) sX11_233 (xs_49 hL) (c6_X11_bounded l0 hL cI_115  (by omega) vI_115 (zEV_ch kI_115 (by decide) (by decide) hV) bI_115) (by omega) (Nat.le_refl 0) (Nat.le_refl 0) (Nat.le_of_ble_eq_true rfl) dX11_termOf_161 (fun x_161 I_161 J_161 h_161 => ?_)
                        have kJ_161 : Kp 49 73 Ja J_161 := Kp_tr kJ_76 h_161.2.1
                        have kI_161 : Ch [] [19, 21] Ia I_161 := Ch_tr kI_115 (Ch_wd h_161.1 (by decide) (by decide))
                        have cI_161 : RX I_161 := h_161.2.2.1
                        have qI_161 := RX_w cI_161
                        have f20_I_161 : I_161 49 20 = I_115 49 20 := h_161.1.2 20 (by decide)
                        have vI_161 : EV I_161 t c d9 := h_161.2.2.2.1
                        have oI_161 := EV_o vI_161
                        have yI_161 := h_161.2.2.2.2
                        have bI_161 : zB1 I_161 := yI_161.1
                        refine ww_lstore_n hX (pc := 164) (lv' := [some (kR (some 49)), some (kI la), some (kL x_161), none, some (kI x_59), some (kL 1), none]) dX11_termOf_164 (by decide) rfl rfl ?_
                        refine ww_goto hX (pc := 165) (tgt := 6) dX11_termOf_165 (by decide) ?_
                        refine ww_sub [some (kR (some 49)), some (kI la), some (kL x_161), none, none, none, none] (aLe_s (aLe_s (aLe_s (aLe_n (aLe_n (aLe_n (aLe_n aLe_0))))))) ?_
                        exact ih_6 _ (by have hm9 := Sh0_e hq_6; omega) x_161 I_161 J_161 rfl ⟨kI_161, cI_161, kJ_161, ⟨d9, _, vI_161, bI_161, (by rw [zJD_2, show c p9 = 137 by omega]; exact zRv_z hla (by have h9 := hB; unfold zB1 at h9; exact h9) (zRv_cg hr6 rfl rfl) (zRv_cg yI_76.2 (by omega) rfl) (fun g1 g2 => by have h9 := w64_id (x := x_76) (by omega) (by omega); omega) (by decide) (fun g => by omega) (fun g => by omega) yI_161.2), hR9⟩⟩
                      · simp only [w32_mod] at h_146
                        exfalso
                        omega
                    · simp only [w32_mod] at h_129
                      exfalso
                      omega
                  · simp only [w32_mod] at h_107
                    refine ww_iconst hX (pc := 110) (x := 1) dX11_termOf_110 rfl ?_
                    refine ww_goto hX (pc := 111) (tgt := 115) dX11_termOf_111 (by decide) ?_
                    refine ww_putZ hX (pc := 115) (fun h9 => absurd h9 (by decide)) gX11_225 rfl (by decide) (xs_49 hL) dX11_termOf_115 ?_
                    refine ww_nmH (fun I_115 eI_115 => ?_)
                    have kI_115 : Ch [] [19, 21] Ia I_115 := by rw [eI_115]; exact Ch_f kI_76 (by decide)
                    have cI_115 : RX I_115 := by rw [eI_115]; exact RX_f cI_76 (by decide)
                    have qI_115 := RX_w cI_115
                    have f19_I_115 : I_115 49 19 = I_76 49 19 := by rw [eI_115, up2_n _ _ (Or.inr (by decide))]
                    have f20_I_115 : I_115 49 20 = I_76 49 20 := by rw [eI_115, up2_n _ _ (Or.inr (by decide))]
                    have w21 : I_115 49 21 = 1 := by rw [eI_115, up2_s]
                    have vI_115 : EV I_115 t c d9 := EV_st vI_76 (by rw [eI_115, up2_off _ _ _ (by decide)]) (by omega) (by omega) (by omega)
                    have oI_115 := EV_o vI_115
                    have bI_115 : zB1 I_115 := by unfold zB1; rw [eI_115, up2_s]; omega
                    refine ww_lconst hX (pc := 118) (x := 1) dX11_termOf_118 (by decide) ?_
                    refine ww_lstore hX (pc := 119) (lv' := [some (kR (some 49)), some (kI la), some (kL v9), none, some (kI x_59), some (kL 1), none]) dX11_termOf_119 (by decide) rfl rfl ?_
                    refine ww_aload_n hX (pc := 121) dX11_termOf_121 rfl ?_
                    refine ww_iload hX (pc := 122) dX11_termOf_122 rfl ?_
                    refine ww_bipush hX (pc := 124) (x := 42) dX11_termOf_124 (by decide) ?_
                    refine sI1 hX (pc := 126) sX11_190 (c_X11_sign l0 ) (by omega) (Nat.le_refl 0) (Nat.le_refl 0) (Nat.le_of_ble_eq_true rfl) dX11_termOf_126 (fun x_126 I_126 J_126 h_126 => ?_)
                    obtain ⟨rfl, rfl, h_126⟩ := h_126
                    refine ww_icmp_ne hX (pc := 129) (tgt := 139) dX11_termOf_129 (by decide) (fun h_129 => ?_) (fun h_129 => ?_)
                    · simp only [w32_mod] at h_129
                      refine ww_iload hX (pc := 139) dX11_termOf_139 rfl ?_
                      refine ww_bipush hX (pc := 141) (x := 47) dX11_termOf_141 (by decide) ?_
                      refine sI1 hX (pc := 143) sX11_190 (c_X11_sign l0 ) (by omega) (Nat.le_refl 0) (Nat.le_refl 0) (Nat.le_of_ble_eq_true rfl) dX11_termOf_143 (fun x_143 I_143 J_143 h_143 => ?_)
                      obtain ⟨rfl, rfl, h_143⟩ := h_143
                      refine ww_icmp_ne hX (pc := 146) (tgt := 156) dX11_termOf_146 (by decide) (fun h_146 => ?_) (fun h_146 => ?_)
                      · simp only [w32_mod] at h_146
                        refine ww_lload_n hX (pc := 156) dX11_termOf_156 rfl ?_
                        refine ww_lload hX (pc := 157) dX11_termOf_157 rfl ?_
                        refine ww_lrem hX (pc := 159) dX11_termOf_159 (by first | exact hnz | decide) ?_
                        refine ww_iload_n hX (pc := 160) dX11_termOf_160 rfl ?_
                        refine vJ2 hX (pc := 161) sX11_233 (xs_49 hL) (c6_X11_bounded l0 hL cI_115  (by omega) vI_115 (zEV_ch kI_115 (by decide) (by decide) hV) bI_115) (by omega) (Nat.le_refl 0) (Nat.le_refl 0) (Nat.le_of_ble_eq_true rfl) dX11_termOf_161 (fun x_161 I_161 J_161 h_161 => ?_)
                        have kJ_161 : Kp 49 73 Ja J_161 := Kp_tr kJ_76 h_161.2.1
                        have kI_161 : Ch [] [19, 21] Ia I_161 := Ch_tr kI_115 (Ch_wd h_161.1 (by decide) (by decide))
                        have cI_161 : RX I_161 := h_161.2.2.1
                        have qI_161 := RX_w cI_161
                        have f20_I_161 : I_161 49 20 = I_115 49 20 := h_161.1.2 20 (by decide)
                        have vI_161 : EV I_161 t c d9 := h_161.2.2.2.1
                        have oI_161 := EV_o vI_161
                        have yI_161 := h_161.2.2.2.2
                        have bI_161 : zB1 I_161 := yI_161.1
                        refine ww_lstore_n hX (pc := 164) (lv' := [some (kR (some 49)), some (kI la), some (kL x_161), none, some (kI x_59), some (kL 1), none]) dX11_termOf_164 (by decide) rfl rfl ?_
                        refine ww_goto hX (pc := 165) (tgt := 6) dX11_termOf_165 (by decide) ?_
                        refine ww_sub [some (kR (some 49)), some (kI la), some (kL x_161), none, none, none, none] (aLe_s (aLe_s (aLe_s (aLe_n (aLe_n (aLe_n (aLe_n aLe_0))))))) ?_
                        exact ih_6 _ (by have hm9 := Sh0_e hq_6; omega) x_161 I_161 J_161 rfl ⟨kI_161, cI_161, kJ_161, ⟨d9, _, vI_161, bI_161, (by rw [zJD_2, show c p9 = 137 by omega]; exact zRv_z hla (by have h9 := hB; unfold zB1 at h9; exact h9) (zRv_cg hr6 rfl rfl) (zRv_cg yI_76.2 (by omega) rfl) (fun g1 g2 => by have h9 := w64_id (x := x_76) (by omega) (by omega); omega) (by decide) (fun g => by omega) (fun g => by omega) yI_161.2), hR9⟩⟩
                      · simp only [w32_mod] at h_146
                        exfalso
                        omega
                    · simp only [w32_mod] at h_129
                      exfalso
                      omega
  exact hl_6 _ x_2 I_2 J_2 rfl ⟨kI_2, cI_2, kJ_2, ⟨a1, D1, vI_2, bI_2, yI_2.2, hRs⟩⟩
set_option maxHeartbeats 4000000 in
set_option maxRecDepth 20000 in
theorem c6_X11_sumOf (l0 : Launch) {Ia Ja : aI1} {Ra : aR1} {Sa : aS1} (hL : LY Ra Sa) (hQ : RX Ia) {la : Int} (hla : 0 ≤ la ∧ la ≤ 1) {t a : Nat} {c : Nat → Int} (hE : EV Ia t c a) {vl : Nat → Int} {en : zE} (hV : zEV Ia t vl en) (hB : zB1 Ia) {m b : Nat} {D : zD} (hG : zG (zS c vl m) a b D) (hrec : ∀ mp, m = mp + 1 → VSum l0 mp)  : CT l0 (3 * m + 5) 0 0 mX11_sumOf [kR (some 49), kI la] Ia Ja Ra Sa (cJ (fun x I' J' => Ch [] [19, 21] Ia I' ∧ Kp 49 73 Ja J' ∧ RX I' ∧ EV I' t c b ∧ zB1 I' ∧ zRv la (Ia 49 21) (I' 49 21) x (D en)) Ra Sa) := by
  refine ct_in pn_X11 (Nat.le_of_ble_eq_true rfl) (fun X hX hT hIn => ?_)
  have hX : aK l0 X cX11_sumOf 7 RX11 (some .long) (3 * m + 5) 0 0 := hX
  change WW X 0 [some (kR (some 49)), some (kI la), none, none, none, none, none] [] Ia Ja Ra Sa 0 0
  have qIa := RX_w hQ
  have oIa := EV_o hE
  obtain ⟨a1, D1, hG1, hRs⟩ := zG_sq (P := zTm (zSu c vl m) c vl) (ops := [143, 145]) (jn := zJD) hG
  have hle1 := zHR_l (zTm_lt m) hRs
  refine ww_aload_n hX (pc := 0) dX11_sumOf_0 rfl ?_
  refine ww_iload_n hX (pc := 1) dX11_sumOf_1 rfl ?_
  refine vJ1 hX (pc := 2) sX11_229 (xs_49 hL) (c6_X11_termOf l0 hL hQ  (by omega) hE hV hB hG1 hrec) (by omega) (Nat.le_refl 0) (Nat.le_refl 0) (Nat.le_of_ble_eq_true rfl) dX11_sumOf_2 (fun x_2 I_2 J_2 h_2 => ?_)
  have kJ_2 : Kp 49 73 Ja J_2 := Kp_tr (Kp_rf (a := 49) (b := 73)) h_2.2.1
  have kI_2 : Ch [] [19, 21] Ia I_2 := Ch_tr Ch_rf (Ch_wd h_2.1 (by decide) (by decide))
  have cI_2 : RX I_2 := h_2.2.2.1
  have qI_2 := RX_w cI_2
  have f20_I_2 : I_2 49 20 = Ia 49 20 := h_2.1.2 20 (by decide)
  have vI_2 : EV I_2 t c a1 := h_2.2.2.2.1
  have oI_2 := EV_o vI_2
  have yI_2 := h_2.2.2.2.2
  have bI_2 : zB1 I_2 := yI_2.1
  refine ww_lstore_n hX (pc := 5) (lv' := [some (kR (some 49)), some (kI la), some (kL x_2), none, none, none, none]) dX11_sumOf_5 (by decide) rfl rfl ?_
  have hl_6 : ∀ (n_6 : Nat) (v9 : Int) (I6 : aI1) (J6 : aI1), (400 * t + b - I6 49 19).toNat = n_6 → (Ch [] [19, 21] Ia I6 ∧ RX I6 ∧ Kp 49 73 Ja J6 ∧ ∃ (p9 : Nat) (D9 : zD), EV I6 t c p9 ∧ zB1 I6 ∧ zRv la (Ia 49 21) (I6 49 21) v9 (D9 en) ∧ zHR (zTm (zSu c vl m) c vl) [143, 145] zJD c p9 D9 b D) → WW X 6 [some (kR (some 49)), some (kI la), some (kL v9), none, none, none, none] [] I6 J6 Ra Sa 0 0 := by
    intro n_6
    induction n_6 using Nat.strongRecOn with
    | ind n_6 ih_6 =>
      intro v9 I6 J6 hm_6 hv_6
      have hq_6 := Sh0_i hm_6
      clear hm_6
      obtain ⟨kI6, cI6, kJ6, p9, D9, vI6, bI6, hr6, hR6⟩ := hv_6
      have qI6 := RX_w cI6
      have oI6 := EV_o vI6
      refine ww_aload_n hX (pc := 6) dX11_sumOf_6 rfl ?_
      refine ww_aload_n hX (pc := 7) dX11_sumOf_7 rfl ?_
      refine ww_getI hX (pc := 8) fX11_215 (by decide) (xs_49 hL) dX11_sumOf_8 ?_
      refine vI1 hX (pc := 11) sX11_218 (xs_49 hL) (c_X11_codeAt l0 hL cI6  rfl vI6) (by omega) (Nat.le_refl 0) (Nat.le_refl 0) (Nat.le_of_ble_eq_true rfl) dX11_sumOf_11 (fun x_11 I_11 J_11 h_11 => ?_)
      obtain ⟨rfl, rfl, h_11⟩ := h_11
      refine ww_bipush hX (pc := 14) (x := 43) dX11_sumOf_14 (by decide) ?_
      refine sI1 hX (pc := 16) sX11_190 (c_X11_sign l0 ) (by omega) (Nat.le_refl 0) (Nat.le_refl 0) (Nat.le_of_ble_eq_true rfl) dX11_sumOf_16 (fun x_16 I_16 J_16 h_16 => ?_)
      obtain ⟨rfl, rfl, h_16⟩ := h_16
      refine ww_icmp_eq hX (pc := 19) (tgt := 38) dX11_sumOf_19 (by decide) (fun h_19 => ?_) (fun h_19 => ?_)
      · simp only [w32_mod] at h_19
        have hop : c p9 ∈ ([143, 145] : List Int) := by simp only [List.mem_cons, List.not_mem_nil, or_false]; omega
        have hz9 := EV_z (i := p9) vI6 (fun e9 => by rw [e9] at hop; revert hop; decide)
        obtain ⟨d9, F9, hT9, hlt9, hR9⟩ := zHR_op hR6 (zTm_lt m) hop (by omega)
        have hle9 := zHR_l (zTm_lt m) hR9
        refine ww_aload_n hX (pc := 38) dX11_sumOf_38 rfl ?_
        refine ww_aload_n hX (pc := 39) dX11_sumOf_39 rfl ?_
        refine ww_getI hX (pc := 40) fX11_215 (by decide) (xs_49 hL) dX11_sumOf_40 ?_
        refine vI1 hX (pc := 43) sX11_218 (xs_49 hL) (c_X11_codeAt l0 hL cI6  rfl vI6) (by omega) (Nat.le_refl 0) (Nat.le_refl 0) (Nat.le_of_ble_eq_true rfl) dX11_sumOf_43 (fun x_43 I_43 J_43 h_43 => ?_)
        obtain ⟨rfl, rfl, h_43⟩ := h_43
        refine ww_bipush hX (pc := 46) (x := 43) dX11_sumOf_46 (by decide) ?_
        refine sI1 hX (pc := 48) sX11_190 (c_X11_sign l0 ) (by omega) (Nat.le_refl 0) (Nat.le_refl 0) (Nat.le_of_ble_eq_true rfl) dX11_sumOf_48 (fun x_48 I_48 J_48 h_48 => ?_)
        obtain ⟨rfl, rfl, h_48⟩ := h_48
        refine ww_icmp_ne hX (pc := 51) (tgt := 58) dX11_sumOf_51 (by decide) (fun h_51 => ?_) (fun h_51 => ?_)
        · simp only [w32_mod] at h_51
          exfalso
          omega
        · simp only [w32_mod] at h_51
          refine ww_iconst hX (pc := 54) (x := 1) dX11_sumOf_54 rfl ?_
          refine ww_goto hX (pc := 55) (tgt := 59) dX11_sumOf_55 (by decide) ?_
          refine ww_istore hX (pc := 59) (lv' := [some (kR (some 49)), some (kI la), some (kL v9), none, some (kI 1), none, none]) dX11_sumOf_59 (by decide) rfl rfl ?_
          refine ww_aload_n hX (pc := 61) dX11_sumOf_61 rfl ?_
          refine ww_dupR hX (pc := 62) dX11_sumOf_62 ?_
          refine ww_getI hX (pc := 63) fX11_215 (by decide) (xs_49 hL) dX11_sumOf_63 ?_
          refine ww_iconst hX (pc := 66) (x := 1) dX11_sumOf_66 rfl ?_
          refine ww_iadd hX (pc := 67) dX11_sumOf_67 ?_
          refine ww_putI hX (pc := 68) (fun h9 => absurd h9 (by decide)) gX11_215 rfl (xs_49 hL) dX11_sumOf_68 ?_
          refine ww_nmH (fun I_68 eI_68 => ?_)
          have kI_68 : Ch [] [19, 21] Ia I_68 := by rw [eI_68]; exact Ch_f kI6 (by decide)
          have cI_68 : RX I_68 := by rw [eI_68]; exact RX_f cI6 (by decide)
          have qI_68 := RX_w cI_68
          have f20_I_68 : I_68 49 20 = I6 49 20 := by rw [eI_68, up2_n _ _ (Or.inr (by decide))]
          have f21_I_68 : I_68 49 21 = I6 49 21 := by rw [eI_68, up2_n _ _ (Or.inr (by decide))]
          have vI_68 : EV I_68 t c (p9 + 1) := EV_st vI6 (by rw [eI_68, up2_off _ _ _ (by decide)]) (by omega) (by rw [eI_68, up2_s]; omega) (by omega)
          have oI_68 := EV_o vI_68
          have bI_68 : zB1 I_68 := zB1_e bI6 f21_I_68
          refine ww_aload_n hX (pc := 71) dX11_sumOf_71 rfl ?_
          refine ww_iload_n hX (pc := 72) dX11_sumOf_72 rfl ?_
          refine vJ1 hX (pc := 73) sX11_229 (xs_49 hL) (c6_X11_termOf l0 hL cI_68  (by omega) vI_68 (zEV_ch kI_68 (by decide) (by decide) hV) bI_68 hT9 hrec) (by omega) (Nat.le_refl 0) (Nat.le_refl 0) (Nat.le_of_ble_eq_true rfl) dX11_sumOf_73 (fun x_73 I_73 J_73 h_73 => ?_)
          have kJ_73 : Kp 49 73 Ja J_73 := Kp_tr kJ6 h_73.2.1
          have kI_73 : Ch [] [19, 21] Ia I_73 := Ch_tr kI_68 (Ch_wd h_73.1 (by decide) (by decide))
          have cI_73 : RX I_73 := h_73.2.2.1
          have qI_73 := RX_w cI_73
          have f20_I_73 : I_73 49 20 = I_68 49 20 := h_73.1.2 20 (by decide)
          have vI_73 : EV I_73 t c d9 := h_73.2.2.2.1
          have oI_73 := EV_o vI_73
          have yI_73 := h_73.2.2.2.2
          have bI_73 : zB1 I_73 := yI_73.1
          refine ww_lstore hX (pc := 76) (lv' := [some (kR (some 49)), some (kI la), some (kL v9), none, some (kI 1), some (kL x_73), none]) dX11_sumOf_76 (by decide) rfl rfl ?_
          refine ww_aload_n hX (pc := 78) dX11_sumOf_78 rfl ?_
          refine ww_iload hX (pc := 79) dX11_sumOf_79 rfl ?_
          refine ww_if_eq hX (pc := 81) (tgt := 91) dX11_sumOf_81 (by decide) (fun h_81 => ?_) (fun h_81 => ?_)
          · simp only [w32_mod] at h_81
            exfalso
            omega
          · simp only [w32_mod] at h_81
            refine ww_lload_n hX (pc := 84) dX11_sumOf_84 rfl ?_
            refine ww_lload hX (pc := 85) dX11_sumOf_85 rfl ?_
            refine ww_ladd hX (pc := 87) dX11_sumOf_87 ?_
            refine ww_goto hX (pc := 88) (tgt := 95) dX11_sumOf_88 (by decide) ?_
            refine ww_iload_n hX (pc := 95) dX11_sumOf_95 rfl ?_
            refine vJ2 hX (pc := 96) sX11_233 (xs_49 hL) (c6_X11_bounded l0 hL cI_73  (by omega) vI_73 (zEV_ch kI_73 (by decide) (by decide) hV) bI_73) (by omega) (Nat.le_refl 0) (Nat.le_refl 0) (Nat.le_of_ble_eq_true rfl) dX11_sumOf_96 (fun x_96 I_96 J_96 h_96 => ?_)
            have kJ_96 : Kp 49 73 Ja J_96 := Kp_tr kJ_73 h_96.2.1
            have kI_96 : Ch [] [19, 21] Ia I_96 := Ch_tr kI_73 (Ch_wd h_96.1 (by decide) (by decide))
            have cI_96 : RX I_96 := h_96.2.2.1
            have qI_96 := RX_w cI_96
            have f20_I_96 : I_96 49 20 = I_73 49 20 := h_96.1.2 20 (by decide)
            have vI_96 : EV I_96 t c d9 := h_96.2.2.2.1
            have oI_96 := EV_o vI_96
            have yI_96 := h_96.2.2.2.2
            have bI_96 : zB1 I_96 := yI_96.1
            refine ww_lstore_n hX (pc := 99) (lv' := [some (kR (some 49)), some (kI la), some (kL x_96), none, some (kI 1), some (kL x_73), none]) dX11_sumOf_99 (by decide) rfl rfl ?_
            refine ww_goto hX (pc := 100) (tgt := 6) dX11_sumOf_100 (by decide) ?_
            refine ww_sub [some (kR (some 49)), some (kI la), some (kL x_96), none, none, none, none] (aLe_s (aLe_s (aLe_s (aLe_n (aLe_n (aLe_n (aLe_n aLe_0))))))) ?_
            exact ih_6 _ (by have hm9 := Sh0_e hq_6; omega) x_96 I_96 J_96 rfl ⟨kI_96, cI_96, kJ_96, ⟨d9, _, vI_96, bI_96, (by rw [zJD_2, show c p9 = 143 by omega]; exact zRv_op hla (by have h9 := hB; unfold zB1 at h9; exact h9) (zRv_cg hr6 rfl rfl) (zRv_cg yI_73.2 (by omega) rfl) (zRv_bd yI_96.2 (by omega)) (fun g1 g2 g3 g4 => ⟨rfl, by omega, by omega, fun h9 => by omega⟩)), hR9⟩⟩
      · simp only [w32_mod] at h_19
        refine ww_aload_n hX (pc := 22) dX11_sumOf_22 rfl ?_
        refine ww_aload_n hX (pc := 23) dX11_sumOf_23 rfl ?_
        refine ww_getI hX (pc := 24) fX11_215 (by decide) (xs_49 hL) dX11_sumOf_24 ?_
        refine vI1 hX (pc := 27) sX11_218 (xs_49 hL) (c_X11_codeAt l0 hL cI6  rfl vI6) (by omega) (Nat.le_refl 0) (Nat.le_refl 0) (Nat.le_of_ble_eq_true rfl) dX11_sumOf_27 (fun x_27 I_27 J_27 h_27 => ?_)
        obtain ⟨rfl, rfl, h_27⟩ := h_27
        refine ww_bipush hX (pc := 30) (x := 45) dX11_sumOf_30 (by decide) ?_
        refine sI1 hX (pc := 32) sX11_190 (c_X11_sign l0 ) (by omega) (Nat.le_refl 0) (Nat.le_refl 0) (Nat.le_of_ble_eq_true rfl) dX11_sumOf_32 (fun x_32 I_32 J_32 h_32 => ?_)
        obtain ⟨rfl, rfl, h_32⟩ := h_32
        refine ww_icmp_ne hX (pc := 35) (tgt := 103) dX11_sumOf_35 (by decide) (fun h_35 => ?_) (fun h_35 => ?_)
        · simp only [w32_mod] at h_35
          refine ww_lload_n hX (pc := 103) dX11_sumOf_103 rfl ?_
          refine rJ hX (pc := 104) hT (Nat.le_refl 0) (Nat.le_refl 0) dX11_sumOf_104 ?_
          exact ⟨kI6, kJ6, cI6, (by
              have hb9 := zHR_no hR6 (by simp only [List.mem_cons, List.not_mem_nil, or_false]; omega)
              exact EV_to vI6 hb9.1), bI6, (by
              have hb9 := zHR_no hR6 (by simp only [List.mem_cons, List.not_mem_nil, or_false]; omega)
              rw [← hb9.2]; exact zRv_cg hr6 rfl (by omega))⟩
        · simp only [w32_mod] at h_35
          have hop : c p9 ∈ ([143, 145] : List Int) := by simp only [List.mem_cons, List.not_mem_nil, or_false]; omega
          have hz9 := EV_z (i := p9) vI6 (fun e9 => by rw [e9] at hop; revert hop; decide)
          obtain ⟨d9, F9, hT9, hlt9, hR9⟩ := zHR_op hR6 (zTm_lt m) hop (by omega)
          have hle9 := zHR_l (zTm_lt m) hR9
          refine ww_aload_n hX (pc := 38) dX11_sumOf_38 rfl ?_
          refine ww_aload_n hX (pc := 39) dX11_sumOf_39 rfl ?_
          refine ww_getI hX (pc := 40) fX11_215 (by decide) (xs_49 hL) dX11_sumOf_40 ?_
          refine vI1 hX (pc := 43) sX11_218 (xs_49 hL) (c_X11_codeAt l0 hL cI6  rfl vI6) (by omega) (Nat.le_refl 0) (Nat.le_refl 0) (Nat.le_of_ble_eq_true rfl) dX11_sumOf_43 (fun x_43 I_43 J_43 h_43 => ?_)
          obtain ⟨rfl, rfl, h_43⟩ := h_43
          refine ww_bipush hX (pc := 46) (x := 43) dX11_sumOf_46 (by decide) ?_
          refine sI1 hX (pc := 48) sX11_190 (c_X11_sign l0 ) (by omega) (Nat.le_refl 0) (Nat.le_refl 0) (Nat.le_of_ble_eq_true rfl) dX11_sumOf_48 (fun x_48 I_48 J_48 h_48 => ?_)
          obtain ⟨rfl, rfl, h_48⟩ := h_48
          refine ww_icmp_ne hX (pc := 51) (tgt := 58) dX11_sumOf_51 (by decide) (fun h_51 => ?_) (fun h_51 => ?_)
          · simp only [w32_mod] at h_51
            refine ww_iconst hX (pc := 58) (x := 0) dX11_sumOf_58 rfl ?_
            refine ww_istore hX (pc := 59) (lv' := [some (kR (some 49)), some (kI la), some (kL v9), none, some (kI 0), none, none]) dX11_sumOf_59 (by decide) rfl rfl ?_
            refine ww_aload_n hX (pc := 61) dX11_sumOf_61 rfl ?_
            refine ww_dupR hX (pc := 62) dX11_sumOf_62 ?_
            refine ww_getI hX (pc := 63) fX11_215 (by decide) (xs_49 hL) dX11_sumOf_63 ?_
            refine ww_iconst hX (pc := 66) (x := 1) dX11_sumOf_66 rfl ?_
            refine ww_iadd hX (pc := 67) dX11_sumOf_67 ?_
            refine ww_putI hX (pc := 68) (fun h9 => absurd h9 (by decide)) gX11_215 rfl (xs_49 hL) dX11_sumOf_68 ?_
            refine ww_nmH (fun I_68 eI_68 => ?_)
            have kI_68 : Ch [] [19, 21] Ia I_68 := by rw [eI_68]; exact Ch_f kI6 (by decide)
            have cI_68 : RX I_68 := by rw [eI_68]; exact RX_f cI6 (by decide)
            have qI_68 := RX_w cI_68
            have f20_I_68 : I_68 49 20 = I6 49 20 := by rw [eI_68, up2_n _ _ (Or.inr (by decide))]
            have f21_I_68 : I_68 49 21 = I6 49 21 := by rw [eI_68, up2_n _ _ (Or.inr (by decide))]
            have vI_68 : EV I_68 t c (p9 + 1) := EV_st vI6 (by rw [eI_68, up2_off _ _ _ (by decide)]) (by omega) (by rw [eI_68, up2_s]; omega) (by omega)
            have oI_68 := EV_o vI_68
            have bI_68 : zB1 I_68 := zB1_e bI6 f21_I_68
            refine ww_aload_n hX (pc := 71) dX11_sumOf_71 rfl ?_
            refine ww_iload_n hX (pc := 72) dX11_sumOf_72 rfl ?_
            refine vJ1 hX (pc := 73) sX11_229 (xs_49 hL) (c6_X11_termOf l0 hL cI_68  (by omega) vI_68 (zEV_ch kI_68 (by decide) (by decide) hV) bI_68 hT9 hrec) (by omega) (Nat.le_refl 0) (Nat.le_refl 0) (Nat.le_of_ble_eq_true rfl) dX11_sumOf_73 (fun x_73 I_73 J_73 h_73 => ?_)
            have kJ_73 : Kp 49 73 Ja J_73 := Kp_tr kJ6 h_73.2.1
            have kI_73 : Ch [] [19, 21] Ia I_73 := Ch_tr kI_68 (Ch_wd h_73.1 (by decide) (by decide))
            have cI_73 : RX I_73 := h_73.2.2.1
            have qI_73 := RX_w cI_73
            have f20_I_73 : I_73 49 20 = I_68 49 20 := h_73.1.2 20 (by decide)
            have vI_73 : EV I_73 t c d9 := h_73.2.2.2.1
            have oI_73 := EV_o vI_73
            have yI_73 := h_73.2.2.2.2
            have bI_73 : zB1 I_73 := yI_73.1
            refine ww_lstore hX (pc := 76) (lv' := [some (kR (some 49)), some (kI la), some (kL v9), none, some (kI 0), some (kL x_73), none]) dX11_sumOf_76 (by decide) rfl rfl ?_
            refine ww_aload_n hX (pc := 78) dX11_sumOf_78 rfl ?_
            refine ww_iload hX (pc := 79) dX11_sumOf_79 rfl ?_
            refine ww_if_eq hX (pc := 81) (tgt := 91) dX11_sumOf_81 (by decide) (fun h_81 => ?_) (fun h_81 => ?_)
            · simp only [w32_mod] at h_81
              refine ww_lload_n hX (pc := 91) dX11_sumOf_91 rfl ?_
              refine ww_lload hX (pc := 92) dX11_sumOf_92 rfl ?_
              refine ww_lsub hX (pc := 94) dX11_sumOf_94 ?_
              refine ww_iload_n hX (pc := 95) dX11_sumOf_95 rfl ?_
              refine vJ2 hX (pc := 96) sX11_233 (xs_49 hL) (c6_X11_bounded l0 hL cI_73  (by omega) vI_73 (zEV_ch kI_73 (by decide) (by decide) hV) bI_73) (by omega) (Nat.le_refl 0) (Nat.le_refl 0) (Nat.le_of_ble_eq_true rfl) dX11_sumOf_96 (fun x_96 I_96 J_96 h_96 => ?_)
              have kJ_96 : Kp 49 73 Ja J_96 := Kp_tr kJ_73 h_96.2.1
              have kI_96 : Ch [] [19, 21] Ia I_96 := Ch_tr kI_73 (Ch_wd h_96.1 (by decide) (by decide))
              have cI_96 : RX I_96 := h_96.2.2.1
              have qI_96 := RX_w cI_96
              have f20_I_96 : I_96 49 20 = I_73 49 20 := h_96.1.2 20 (by decide)
              have vI_96 : EV I_96 t c d9 := h_96.2.2.2.1
              have oI_96 := EV_o vI_96
              have yI_96 := h_96.2.2.2.2
              have bI_96 : zB1 I_96 := yI_96.1
              refine ww_lstore_n hX (pc := 99) (lv' := [some (kR (some 49)), some (kI la), some (kL x_96), none, some (kI 0), some (kL x_73), none]) dX11_sumOf_99 (by decide) rfl rfl ?_
              refine ww_goto hX (pc := 100) (tgt := 6) dX11_sumOf_100 (by decide) ?_
              refine ww_sub [some (kR (some 49)), some (kI la), some (kL x_96), none, none, none, none] (aLe_s (aLe_s (aLe_s (aLe_n (aLe_n (aLe_n (aLe_n aLe_0))))))) ?_
              exact ih_6 _ (by have hm9 := Sh0_e hq_6; omega) x_96 I_96 J_96 rfl ⟨kI_96, cI_96, kJ_96, ⟨d9, _, vI_96, bI_96, (by rw [zJD_2, show c p9 = 145 by omega]; exact zRv_op hla (by have h9 := hB; unfold zB1 at h9; exact h9) (zRv_cg hr6 rfl rfl) (zRv_cg yI_73.2 (by omega) rfl) (zRv_bd yI_96.2 (by omega)) (fun g1 g2 g3 g4 => ⟨rfl, by omega, by omega, fun h9 => by omega⟩)), hR9⟩⟩
            · simp only [w32_mod] at h_81
              exfalso
              omega
          · simp only [w32_mod] at h_51
            exfalso
            omega
  exact hl_6 _ x_2 I_2 J_2 rfl ⟨kI_2, cI_2, kJ_2, ⟨a1, D1, vI_2, bI_2, yI_2.2, hRs⟩⟩
theorem c_VSum (l0 : Launch) : ∀ m : Nat, VSum l0 m
  | 0 => fun hL hQ _ hla _ _ _ hE _ _ hV hB _ _ hG => c6_X11_sumOf l0 hL hQ hla hE hV hB (m := 0) hG (fun mp e => absurd e (by omega))
  | m + 1 => fun hL hQ _ hla _ _ _ hE _ _ hV hB _ _ hG => c6_X11_sumOf l0 hL hQ hla hE hV hB (m := m + 1) hG (fun mp e => by
      obtain rfl : m = mp := by omega
      exact c_VSum l0 m)
