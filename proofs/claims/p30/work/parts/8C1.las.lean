/-! bits of STATES -/
theorem or_of_sub {a b : Nat} (h : a &&& b = a) : b ||| a = b := by
  apply Nat.eq_of_testBit_eq
  intro i
  have h2 : (a &&& b).testBit i = a.testBit i := by rw [h]
  rw [Nat.testBit_and] at h2
  rw [Nat.testBit_or]
  revert h2
  cases a.testBit i <;> cases b.testBit i <;> decide
theorem sub_or (s x : Nat) : s &&& (x ||| s) = s := by
  apply Nat.eq_of_testBit_eq
  intro i
  rw [Nat.testBit_and, Nat.testBit_or]
  cases s.testBit i <;> cases x.testBit i <;> decide
/-- the next that has all of s: nothing with all of s lies between -/
theorem sup_next : ∀ (u s t : Nat), s &&& t = s → s &&& u = s → t < u → (t + 1) ||| s ≤ u := by
  intro u
  induction u using Nat.strongRecOn with
  | ind u ih =>
    intro s t h1 h2 h3
    have a1 : s / 2 &&& t / 2 = s / 2 := by rw [← Nat.and_div_two, h1]
    have a2 : s / 2 &&& u / 2 = s / 2 := by rw [← Nat.and_div_two, h2]
    have b1 := @Nat.and_mod_two_eq_one s t
    have b2 := @Nat.and_mod_two_eq_one s u
    rw [h1] at b1
    rw [h2] at b2
    have o1 : ((t + 1) ||| s) / 2 = (t + 1) / 2 ||| s / 2 := Nat.or_div_two
    have o2 := @Nat.or_mod_two_eq_one (t + 1) s
    by_cases hs : s % 2 = 1
    · have ht := (b1.mp hs).2
      have hu := (b2.mp hs).2
      have h4 := ih (u / 2) (by omega) (s / 2) (t / 2) a1 a2 (by omega)
      rw [show (t + 1) / 2 = t / 2 + 1 by omega] at o1
      omega
    · by_cases ht : t % 2 = 1
      · have h4 := ih (u / 2) (by omega) (s / 2) (t / 2) a1 a2 (by omega)
        rw [show (t + 1) / 2 = t / 2 + 1 by omega] at o1
        have o3 : ¬ ((t + 1) ||| s) % 2 = 1 := fun h => by
          have := o2.mp h
          omega
        omega
      · rw [show (t + 1) / 2 = t / 2 by omega, or_of_sub a1] at o1
        omega
def pcB (t i : Nat) : Int := if t.testBit i then 1 else 0
theorem pcB_r (t i : Nat) : 0 ≤ pcB t i ∧ pcB t i ≤ 1 := by
  unfold pcB
  cases t.testBit i <;> decide
theorem pcB_le {s t : Nat} (h : s &&& t = s) (i : Nat) : pcB s i ≤ pcB t i := by
  have h2 : (s &&& t).testBit i = s.testBit i := by rw [h]
  rw [Nat.testBit_and] at h2
  unfold pcB
  revert h2
  cases s.testBit i <;> cases t.testBit i <;> decide
theorem pcB_eq {s t i : Nat} (h : pcB s i = pcB t i) : s.testBit i = t.testBit i := by
  unfold pcB at h
  revert h
  cases s.testBit i <;> cases t.testBit i <;> decide
/-- how many LAMPS are lit -/
def pcn (t : Nat) : Int := pcB t 0 + pcB t 1 + pcB t 2 + pcB t 3 + pcB t 4 + pcB t 5 + pcB t 6 + pcB t 7
theorem pcn_r (t : Nat) : 0 ≤ pcn t ∧ pcn t ≤ 8 := by
  have h0 := pcB_r t 0
  have h1 := pcB_r t 1
  have h2 := pcB_r t 2
  have h3 := pcB_r t 3
  have h4 := pcB_r t 4
  have h5 := pcB_r t 5
  have h6 := pcB_r t 6
  have h7 := pcB_r t 7
  unfold pcn
  omega
theorem pcn_lt {s t : Nat} (h : s &&& t = s) (hlt : s < t) (ht : t < 256) : pcn s + 1 ≤ pcn t := by
  have h0 := pcB_le h 0
  have h1 := pcB_le h 1
  have h2 := pcB_le h 2
  have h3 := pcB_le h 3
  have h4 := pcB_le h 4
  have h5 := pcB_le h 5
  have h6 := pcB_le h 6
  have h7 := pcB_le h 7
  refine Decidable.byContradiction (fun hn => ?_)
  unfold pcn at hn
  have e : s = t := by
    apply Nat.eq_of_testBit_eq
    intro i
    by_cases hi : i < 8
    · rcases (show i = 0 ∨ i = 1 ∨ i = 2 ∨ i = 3 ∨ i = 4 ∨ i = 5 ∨ i = 6 ∨ i = 7 by omega) with rfl | rfl | rfl | rfl | rfl | rfl | rfl | rfl <;> exact pcB_eq (by omega)
    · have hp : (2 : Nat) ^ 8 ≤ 2 ^ i := Nat.pow_le_pow_right (by decide) (by omega)
      rw [Nat.testBit_lt_two_pow (show s < 2 ^ i by omega), Nat.testBit_lt_two_pow (show t < 2 ^ i by omega)]
  omega
theorem i_or_512 {a b : Int} (h0 : 0 ≤ a) (h1 : a < 512) (h2 : 0 ≤ b) (h3 : b < 512) : i_or a b < 512 := by
  have := i_or_lt 9 (a := a) (b := b) (by decide) h0 (by simpa using h1) h2 (by simpa using h3)
  simpa using this
theorem iand_r (a b : Int) : -2147483648 ≤ i_and a b ∧ i_and a b < 2147483648 := by
  have h := w32_r (i_and a b)
  have e : w32 (i_and a b) = i_and a b := by
    unfold w32 i_and
    rw [n_of]
  rw [e] at h
  exact h
/-- the machine's next STATE that has all of e -/
theorem or_nx {to e : Int} (h0 : 0 ≤ to) (h1 : to < 2147483647) (h2 : 0 ≤ e) (h3 : e < 2147483648) : i_or (to + 1) e = ((to.toNat + 1 ||| e.toNat : Nat) : Int) := by
  have h := i_or_N (a := to.toNat + 1) (b := e.toNat) (by omega) (by omega)
  rw [← h]
  rw [show ((to.toNat + 1 : Nat) : Int) = to + 1 by omega, show ((e.toNat : Nat) : Int) = e by omega]
theorem or_nx_sub {to e : Int} (h0 : 0 ≤ to) (h1 : to < 2147483647) (h2 : 0 ≤ e) (h3 : e < 2147483648) : e.toNat &&& (i_or (to + 1) e).toNat = e.toNat := by
  rw [or_nx h0 h1 h2 h3, Int.toNat_natCast]
  exact sub_or _ _
theorem or_nx_le {to e : Int} (h0 : 0 ≤ to) (h1 : to < 2147483647) (h2 : 0 ≤ e) (h3 : e < 2147483648) (hs : e.toNat &&& to.toNat = e.toNat) {t : Nat} (ht : e.toNat &&& t = e.toNat) (h4 : to < t) : i_or (to + 1) e ≤ t := by
  rw [or_nx h0 h1 h2 h3]
  have := sup_next t e.toNat to.toNat hs ht (by omega)
  omega
/-! LASTING -/
/-- v is one more than the greatest of L over P; 0 without any -/
def Mx (P : Nat → Prop) (L : Nat → Int) (v : Int) : Prop := (∀ t, P t → 1 + L t ≤ v) ∧ (v = 0 ∨ ∃ t, P t ∧ v = 1 + L t)
theorem Mx_cg {P Q : Nat → Prop} {L M : Nat → Int} {v : Int} (h : Mx P L v) (h1 : ∀ t, P t ↔ Q t) (h2 : ∀ t, Q t → L t = M t) : Mx Q M v :=
  ⟨fun t ht => by rw [← h2 t ht]; exact h.1 t ((h1 t).mpr ht), h.2.imp id (fun ⟨t, h3, h4⟩ => ⟨t, (h1 t).mp h3, by rw [← h2 t ((h1 t).mp h3)]; exact h4⟩)⟩
theorem Mx_un {P : Nat → Prop} {L : Nat → Int} {v w : Int} (h : Mx P L v) (g : Mx P L w) (hL : ∀ t, P t → 0 ≤ L t) : v = w := by
  rcases h.2 with h2 | ⟨t, h2, h3⟩
  · rcases g.2 with g2 | ⟨u, g2, g3⟩
    · omega
    · have := h.1 u g2
      have := hL u g2
      omega
  · rcases g.2 with g2 | ⟨u, g2, g3⟩
    · have := g.1 t h2
      have := hL t h2
      omega
    · have := h.1 u g2
      have := g.1 t h2
      omega
theorem Mx_no {P : Nat → Prop} {L : Nat → Int} (h : ∀ t, ¬ P t) : Mx P L 0 := ⟨fun t ht => absurd ht (h t), Or.inl rfl⟩
theorem Mx_ad {P Q : Nat → Prop} {L : Nat → Int} {v : Int} {u : Nat} (h : Mx P L v) (hq : ∀ t, Q t ↔ P t ∨ t = u) (hL : 0 ≤ L u) : Mx Q L (max v (1 + L u)) := by
  refine ⟨fun t ht => ?_, ?_⟩
  · rcases (hq t).mp ht with h1 | rfl
    · have := h.1 t h1
      omega
    · omega
  · right
    by_cases hv : v ≤ 1 + L u
    · exact ⟨u, (hq u).mpr (Or.inr rfl), by omega⟩
    · rcases h.2 with h2 | ⟨t, h2, h3⟩
      · omega
      · exact ⟨t, (hq t).mpr (Or.inl h2), by omega⟩
/-- STATES above e by which NEWS x can be SENT from e -/
def PB (code : Nat → Int) (g e N x : Int) (t : Nat) : Prop := e < t ∧ (t : Int) < N ∧ e.toNat &&& t = e.toNat ∧ i_and (i_xor t e) g = 0 ∧ code t = x
def MB (code L : Nat → Int) (g e N to : Int) (bs : Nat → Int) : Prop := ∀ x : Nat, x < 8 → (-1 ≤ bs x ∧ bs x ≤ 8) ∧ Mx (fun t => PB code g e N x t ∧ (t : Int) < to) L (bs x + 1)
theorem MB_0 {code L : Nat → Int} {g e N : Int} {bs : Nat → Int} (h0 : 0 ≤ e) (h1 : e < 2147483647) (hb : ∀ x, x < 8 → bs x = -1) : MB code L g e N (i_or (e + 1) e) bs := by
  intro x hx
  rw [hb x hx]
  refine ⟨by omega, Mx_no (fun t ht => ?_)⟩
  obtain ⟨⟨p1, p2, p3, p4, p5⟩, p6⟩ := ht
  have := or_nx_le h0 h1 h0 (by omega) (Nat.and_self _) p3 p1
  omega
theorem MB_no {code L : Nat → Int} {g e N to : Int} {bs : Nat → Int} (h : MB code L g e N to bs) (h0 : 0 ≤ to) (h1 : to < 2147483647) (h2 : 0 ≤ e) (h3 : e < 2147483648) (hs : e.toNat &&& to.toNat = e.toNat) (hn : ∀ x : Nat, x < 8 → ¬ PB code g e N x to.toNat) : MB code L g e N (i_or (to + 1) e) bs := by
  intro x hx
  refine ⟨(h x hx).1, Mx_cg (h x hx).2 (fun t => ⟨fun ht => ⟨ht.1, ?_⟩, fun ht => ⟨ht.1, ?_⟩⟩) (fun _ _ => rfl)⟩
  · have := i_or_ge (a := to + 1) (b := e) (by omega) (by omega) h2 h3
    have := ht.2
    omega
  · refine Decidable.byContradiction (fun h4 => ?_)
    by_cases h5 : (t : Int) = to
    · exact hn x hx (by rw [show to.toNat = t by omega]; exact ht.1)
    · have := or_nx_le h0 h1 h2 h3 hs ht.1.2.2.1 (by omega)
      have := ht.2
      omega
theorem MB_ad {code L : Nat → Int} {g e N to : Int} {bs : Nat → Int} {x0 : Int} (h : MB code L g e N to bs) (h0 : 0 ≤ to) (h1 : to < 2147483647) (h2 : 0 ≤ e) (h3 : e < 2147483648) (hs : e.toNat &&& to.toNat = e.toNat) (hx0 : 0 ≤ x0) (hx1 : x0 < 8) (hp : PB code g e N x0 to.toNat) (hL : 0 ≤ L to.toNat ∧ L to.toNat ≤ 8) : MB code L g e N (i_or (to + 1) e) (up1 bs x0.toNat (max (bs x0.toNat) (L to.toNat))) := by
  have hor := i_or_ge (a := to + 1) (b := e) (by omega) (by omega) h2 h3
  intro x hx
  by_cases hxx : x = x0.toNat
  · subst hxx
    rw [up1_s]
    have h4 := h x0.toNat hx
    refine ⟨by omega, ?_⟩
    have hq : ∀ t : Nat, (PB code g e N ((x0.toNat : Nat) : Int) t ∧ (t : Int) < i_or (to + 1) e) ↔ (PB code g e N ((x0.toNat : Nat) : Int) t ∧ (t : Int) < to) ∨ t = to.toNat := by
      intro t
      constructor
      · intro ht
        by_cases h6 : (t : Int) < to
        · exact Or.inl ⟨ht.1, h6⟩
        · right
          refine Decidable.byContradiction (fun h7 => ?_)
          have := or_nx_le h0 h1 h2 h3 hs ht.1.2.2.1 (by omega)
          have := ht.2
          omega
      · intro ht
        rcases ht with ht | rfl
        · have := ht.2
          exact ⟨ht.1, by omega⟩
        · rw [show ((x0.toNat : Nat) : Int) = x0 by omega]
          exact ⟨hp, by omega⟩
    have h5 := Mx_ad h4.2 hq hL.1
    rw [show max (bs x0.toNat) (L to.toNat) + 1 = max (bs x0.toNat + 1) (1 + L to.toNat) by omega]
    exact h5
  · rw [up1_n _ _ hxx]
    refine ⟨(h x hx).1, Mx_cg (h x hx).2 (fun t => ⟨fun ht => ⟨ht.1, ?_⟩, fun ht => ⟨ht.1, ?_⟩⟩) (fun _ _ => rfl)⟩
    · have := ht.2
      omega
    · refine Decidable.byContradiction (fun h4 => ?_)
      by_cases h5 : (t : Int) = to
      · have h6 := ht.1.2.2.2.2
        have h7 := hp.2.2.2.2
        rw [show to.toNat = t by omega] at h7
        omega
      · have := or_nx_le h0 h1 h2 h3 hs ht.1.2.2.1 (by omega)
        have := ht.2
        omega
theorem MB_at {code L : Nat → Int} {g e N to : Int} {bs : Nat → Int} (h : MB code L g e N to bs) (h1 : N ≤ to) {x : Nat} (hx : x < 8) : (-1 ≤ bs x ∧ bs x ≤ 8) ∧ Mx (PB code g e N x) L (bs x + 1) :=
  ⟨(h x hx).1, Mx_cg (h x hx).2 (fun t => ⟨fun ht => ht.1, fun ht => ⟨ht, by have := ht.2.1; omega⟩⟩) (fun _ _ => rfl)⟩
/-- what LASTING of e is, by those above it -/
def zLS (code L : Nat → Int) (g N q e v : Int) : Prop := (∀ x : Nat, (x : Int) < q → ¬ (x : Int) = code e.toNat → ∃ w, Mx (PB code g e N x) L w ∧ v ≤ w) ∧ (∃ x : Nat, (x : Int) < q ∧ ¬ (x : Int) = code e.toNat ∧ Mx (PB code g e N x) L v)
def zLV (code : Nat → Int) (g N q e : Int) (L : Nat → Int) : Prop := ∀ s : Nat, e < s → (s : Int) < N → zLS code L g N q s (L s) ∧ 0 ≤ L s ∧ L s ≤ 8 - pcn s
theorem zLS_cg {code L M : Nat → Int} {g N q e v : Int} (h : zLS code L g N q e v) (h1 : ∀ t : Nat, e < t → (t : Int) < N → L t = M t) : zLS code M g N q e v := by
  refine ⟨fun x hx hn => ?_, ?_⟩
  · obtain ⟨w, h2, h3⟩ := h.1 x hx hn
    exact ⟨w, Mx_cg h2 (fun _ => Iff.rfl) (fun t ht => h1 t ht.1 ht.2.1), h3⟩
  · obtain ⟨x, h2, h3, h4⟩ := h.2
    exact ⟨x, h2, h3, Mx_cg h4 (fun _ => Iff.rfl) (fun t ht => h1 t ht.1 ht.2.1)⟩
theorem zLS_un {code L : Nat → Int} {g N q e v w : Int} (h : zLS code L g N q e v) (k : zLS code L g N q e w) (hL : ∀ t : Nat, e < t → (t : Int) < N → 0 ≤ L t) : v = w := by
  obtain ⟨x, h2, h3, h4⟩ := h.2
  obtain ⟨y, k2, k3, k4⟩ := k.2
  obtain ⟨v', a1, a2⟩ := h.1 y k2 k3
  obtain ⟨w', b1, b2⟩ := k.1 x h2 h3
  have e1 := Mx_un a1 k4 (fun t ht => hL t ht.1 ht.2.1)
  have e2 := Mx_un b1 h4 (fun t ht => hL t ht.1 ht.2.1)
  omega
theorem zLV_step {code L : Nat → Int} {g N q e v : Int} (h : zLV code g N q e L) (h0 : 0 ≤ e) (h1 : zLS code L g N q e v ∧ 0 ≤ v ∧ v ≤ 8 - pcn e.toNat) {e' : Int} (he' : e' = e - 1) : zLV code g N q e' (up1 L e.toNat v) := by
  intro s hs hN
  by_cases e1 : s = e.toNat
  · subst e1
    rw [up1_s]
    refine ⟨zLS_cg (L := L) (by rw [show ((e.toNat : Nat) : Int) = e by omega]; exact h1.1) (fun t ht _ => ?_), h1.2⟩
    rw [up1_n _ _ (by omega)]
  · rw [up1_n _ _ e1]
    have h2 := h s (by omega) hN
    refine ⟨zLS_cg h2.1 (fun t ht _ => ?_), h2.2⟩
    rw [up1_n _ _ (by omega)]
def LI (ce : Int) (bs : Nat → Int) (w v : Int) : Prop := v ≤ 8 ∧ (∀ x : Nat, (x : Int) < w → ¬ (x : Int) = ce → v ≤ bs x + 1) ∧ (v = 8 ∨ ∃ x : Nat, (x : Int) < w ∧ ¬ (x : Int) = ce ∧ v = bs x + 1)
theorem LI_0 (ce : Int) (bs : Nat → Int) : LI ce bs 0 8 := ⟨by omega, fun x hx => absurd hx (by omega), Or.inl rfl⟩
theorem LI_no {ce w v : Int} {bs : Nat → Int} (h : LI ce bs w v) (h1 : w = ce) : LI ce bs (w + 1) v :=
  ⟨h.1, fun x hx hn => h.2.1 x (by omega) hn, h.2.2.imp id (fun ⟨x, h2, h3⟩ => ⟨x, by omega, h3⟩)⟩
theorem LI_ad {ce w v : Int} {bs : Nat → Int} (h : LI ce bs w v) (h0 : 0 ≤ w) (h1 : ¬ w = ce) : LI ce bs (w + 1) (min v (bs w.toNat + 1)) := by
  refine ⟨by have := h.1; omega, fun x hx hn => ?_, ?_⟩
  · by_cases e : (x : Int) = w
    · rw [show w.toNat = x by omega]; omega
    · have := h.2.1 x (by omega) hn
      omega
  · by_cases hv : v ≤ bs w.toNat + 1
    · rw [show min v (bs w.toNat + 1) = v by omega]
      exact h.2.2.imp id (fun ⟨x, h2, h3⟩ => ⟨x, by omega, h3⟩)
    · exact Or.inr ⟨w.toNat, by omega, by omega, by omega⟩
theorem zLS_of {code L : Nat → Int} {g N q e v to : Int} {bs : Nat → Int} (hm : MB code L g e N to bs) (hN : N ≤ to) (hi : LI (code e.toNat) bs q v) (hL : ∀ t : Nat, e < t → (t : Int) < N → 0 ≤ L t ∧ L t ≤ 8 - pcn t) (h0 : 0 ≤ e) (h1 : e < 256) (hN2 : N ≤ 256) (hq : 2 ≤ q) (hq2 : q ≤ 8) : zLS code L g N q e v ∧ 0 ≤ v ∧ v ≤ 8 - pcn e.toNat := by
  have hb : ∀ x : Nat, (x : Int) < q → bs x + 1 ≤ 8 - pcn e.toNat := fun x hx => by
    have hp := pcn_r e.toNat
    rcases (MB_at hm hN (x := x) (by omega)).2.2 with h2 | ⟨t, h2, h3⟩
    · omega
    · have h4 := hL t h2.1 h2.2.1
      have h6 := h2.1
      have h7 := h2.2.1
      have h5 := pcn_lt h2.2.2.1 (by omega) (by omega)
      omega
  obtain ⟨x0, hx0, hx1⟩ : ∃ x : Nat, (x : Int) < q ∧ ¬ (x : Int) = code e.toNat := by
    by_cases h2 : code e.toNat = 0
    · exact ⟨1, by omega, by omega⟩
    · exact ⟨0, by omega, by omega⟩
  have hv0 := hi.2.1 x0 hx0 hx1
  have hb0 := hb x0 hx0
  have hp := pcn_r e.toNat
  refine ⟨⟨fun x hx hn => ⟨bs x + 1, (MB_at hm hN (by omega)).2, hi.2.1 x hx hn⟩, ?_⟩, ?_, by omega⟩
  · rcases hi.2.2 with h2 | ⟨x, h2, h3, h4⟩
    · exact ⟨x0, hx0, hx1, by rw [show v = bs x0 + 1 by omega]; exact (MB_at hm hN (by omega)).2⟩
    · exact ⟨x, h2, h3, by rw [h4]; exact (MB_at hm hN (by omega)).2⟩
  · rcases hi.2.2 with h2 | ⟨x, h2, h3, h4⟩
    · omega
    · have := (MB_at hm hN (x := x) (by omega)).1
      omega
/-- two tables of LASTING by the same CODE are alike -/
theorem zLV_un {code code' L M : Nat → Int} {g N q : Int} (h : zLV code g N q (-1) L) (k : zLV code' g N q (-1) M) (hc : ∀ s : Nat, (s : Int) < N → code s = code' s) : ∀ (n s : Nat), (s : Int) < N → N - s ≤ n → L s = M s := by
  intro n
  induction n with
  | zero => intro s hs hn; omega
  | succ n ih =>
    intro s hs hn
    have h1 := (h s (by omega) hs).1
    have k1 := (k s (by omega) hs).1
    have k2 : zLS code L g N q s (M s) := by
      have k3 := zLS_cg k1 (M := L) (fun t ht htN => (ih t htN (by omega)).symm)
      have e : ∀ x : Int, ∀ t : Nat, PB code' g s N x t ↔ PB code g s N x t := fun x t => by
        unfold PB
        constructor
        · intro ⟨p1, p2, p3, p4, p5⟩
          exact ⟨p1, p2, p3, p4, by rw [hc t p2]; exact p5⟩
        · intro ⟨p1, p2, p3, p4, p5⟩
          exact ⟨p1, p2, p3, p4, by rw [← hc t p2]; exact p5⟩
      have es : code ((s : Nat) : Int).toNat = code' ((s : Nat) : Int).toNat := hc _ (by omega)
      refine ⟨fun x hx hn2 => ?_, ?_⟩
      · obtain ⟨w, w1, w2⟩ := k3.1 x hx (by rw [← es]; exact hn2)
        exact ⟨w, Mx_cg w1 (e x) (fun _ _ => rfl), w2⟩
      · obtain ⟨x, x1, x2, x3⟩ := k3.2
        exact ⟨x, x1, by rw [es]; exact x2, Mx_cg x3 (e x) (fun _ _ => rfl)⟩
    exact zLS_un h1 k2 (fun t ht htN => (h t (by omega) htN).2.1)
def Ko (b : Nat) (I I' : aI1) : Prop := ∀ k, k ≠ b → I' k = I k
theorem Ko_rf {b : Nat} {I : aI1} : Ko b I I := fun _ _ => rfl
theorem Ko_up {b : Nat} {I I1 : aI1} (h : Ko b I I1) (j : Nat) (v : Int) : Ko b I (up2 I1 b j v) := fun q h1 => by
  rw [up2_off _ _ _ h1]
  exact h q h1
theorem Ko_upR {b : Nat} {I I1 : aI1} (h : Ko b I I1) (f : Nat → Int) : Ko b I (upR I1 b f) := fun q h1 => by
  rw [upR_n _ _ h1]
  exact h q h1
set_option maxHeartbeats 4000000 in
set_option maxRecDepth 20000 in
theorem c5_X5_fillBest (l0 : Launch) {Ia Ja : aI1} {Ra : aR1} {Sa : aS1} {t o b c no nc : Nat} (hst : Sa[t]? = some (11, 0)) (hr0 : Ra t 0 = some o) (hr1 : Ra t 1 = some b) (hso : Sa[o]? = some (0, no)) (hsb : Sa[b]? = some (0, 8)) (hsc : Sa[c]? = some (0, nc)) (hno : no ≤ 65536) (hnc : nc ≤ 65536) (hco : c ≠ o) (hcb : c ≠ b) (hcr : ∀ j, j < nc → -2147483648 ≤ Ia c j ∧ Ia c j < 2147483648) (hob : o ≠ b) {a g e : Int} (ha0 : -1 ≤ a) (ha : a < no) (ha2 : a < nc) (ha3 : a ≤ 255) (he : 0 ≤ e) (he2 : e ≤ 255) (hLo : ∀ t : Nat, e < t → (t : Int) ≤ a → 0 ≤ Ia o t ∧ Ia o t ≤ 8)  : CT l0 1 0 0 mX5_fillBest [kR (some t), kR (some c), kI a, kI g, kI e] Ia Ja Ra Sa (cV (fun I' J' => Ja = J' ∧ Ko b Ia I' ∧ MB (Ia c) (Ia o) g e (a + 1) (a + 1) (I' b)) Ra Sa) := by
  refine ct_in pn_X5 (Nat.le_of_ble_eq_true rfl) (fun X hX hT hIn => ?_)
  have hX : aK l0 X cX5_fillBest 7 RX5 none 1 0 0 := hX
  change WW X 0 [some (kR (some t)), some (kR (some c)), some (kI a), some (kI g), some (kI e), none, none] [] Ia Ja Ra Sa 0 0
  refine ww_aload_n hX (pc := 0) dX5_fillBest_0 rfl ?_
  refine ww_getR hX (pc := 1) fX5_9 (by decide) hst hr1 dX5_fillBest_1 ?_
  refine ww_iconst hX (pc := 4) (x := (-1)) dX5_fillBest_4 rfl ?_
  refine sV2 hX (pc := 5) sX5_28 (c_J7_fill_53178 l0 hsb (by decide)) (by decide) (Nat.le_refl 0) (Nat.le_refl 0) (Nat.le_of_ble_eq_true rfl) dX5_fillBest_5 (fun I_5 J_5 h_5 => ?_)
  obtain ⟨rfl, eI_5⟩ := h_5
  have kI_5 : Ko b Ia I_5 := by rw [eI_5]; exact Ko_upR Ko_rf _
  refine ww_iload hX (pc := 8) dX5_fillBest_8 rfl ?_
  refine ww_iconst hX (pc := 10) (x := 1) dX5_fillBest_10 rfl ?_
  refine ww_iadd hX (pc := 11) dX5_fillBest_11 ?_
  refine ww_iload hX (pc := 12) dX5_fillBest_12 rfl ?_
  refine ww_ior hX (pc := 14) dX5_fillBest_14 ?_
  refine ww_nmI (fun v_15 hv_15 => ?_)
  refine ww_istore hX (pc := 15) (lv' := [some (kR (some t)), some (kR (some c)), some (kI a), some (kI g), some (kI e), some (kI v_15), none]) dX5_fillBest_15 (by decide) rfl rfl ?_
  have hor0 := i_or_ge (a := e + 1) (b := e) (by omega) (by omega) (by omega) (by omega)
  have hol0 := i_or_512 (a := e + 1) (b := e) (by omega) (by omega) (by omega) (by omega)
  have hl_17 : ∀ (n_17 : Nat) (to : Int) (I2 : aI1), (a + 1 - to).toNat = n_17 → (Ko b Ia I2 ∧ 0 ≤ to ∧ to < 2147483647 ∧ e < to ∧ e.toNat &&& to.toNat = e.toNat ∧ MB (Ia c) (Ia o) g e (a + 1) to (I2 b)) → WW X 17 [some (kR (some t)), some (kR (some c)), some (kI a), some (kI g), some (kI e), some (kI to), none] [] I2 Ja Ra Sa 0 0 := by
    intro n_17
    induction n_17 using Nat.strongRecOn with
    | ind n_17 ih_17 =>
      intro to I2 hm_17 hv_17
      have hq_17 := Sh0_i hm_17
      clear hm_17
      obtain ⟨kI2, hto0, hto1, hel, hsi, hmb⟩ := hv_17
      have ec : I2 c = Ia c := kI2 c hcb
      have eo : I2 o = Ia o := kI2 o hob
      refine ww_iload hX (pc := 17) dX5_fillBest_17 rfl ?_
      refine ww_iload_n hX (pc := 19) dX5_fillBest_19 rfl ?_
      refine ww_icmp_gt hX (pc := 20) (tgt := 87) dX5_fillBest_20 (by decide) (fun h_20 => ?_) (fun h_20 => ?_)
      · simp only [w32_mod] at h_20
        refine rV hX (pc := 87) hT (Nat.le_refl 0) (Nat.le_refl 0) dX5_fillBest_87 ?_
        exact ⟨rfl, kI2, fun x hx => ⟨(hmb x hx).1, Mx_cg (MB_at hmb (by omega) hx).2 (fun t => ⟨fun h9 => ⟨h9, h9.2.1⟩, fun h9 => h9.1⟩) (fun _ _ => rfl)⟩⟩
      · simp only [w32_mod] at h_20
        have hcr2 := hcr to.toNat (by omega)
        rw [← ec] at hcr2
        refine ww_aload_n hX (pc := 23) dX5_fillBest_23 rfl ?_
        refine ww_iload hX (pc := 24) dX5_fillBest_24 rfl ?_
        refine ww_iald hX (pc := 26) hsc (by omega) (by omega) (by omega) dX5_fillBest_26 ?_
        refine ww_nmI (fun v_27 hv_27 => ?_)
        refine ww_istore hX (pc := 27) (lv' := [some (kR (some t)), some (kR (some c)), some (kI a), some (kI g), some (kI e), some (kI to), some (kI v_27)]) dX5_fillBest_27 (by decide) rfl rfl ?_
        refine ww_iload hX (pc := 29) dX5_fillBest_29 rfl ?_
        refine ww_if_lt hX (pc := 31) (tgt := 75) dX5_fillBest_31 (by decide) (fun h_31 => ?_) (fun h_31 => ?_)
        · simp only [w32_mod] at h_31
          refine ww_iload hX (pc := 75) dX5_fillBest_75 rfl ?_
          refine ww_iconst hX (pc := 77) (x := 1) dX5_fillBest_77 rfl ?_
          refine ww_iadd hX (pc := 78) dX5_fillBest_78 ?_
          refine ww_iload hX (pc := 79) dX5_fillBest_79 rfl ?_
          refine ww_ior hX (pc := 81) dX5_fillBest_81 ?_
          refine ww_nmI (fun v_82 hv_82 => ?_)
          refine ww_istore hX (pc := 82) (lv' := [some (kR (some t)), some (kR (some c)), some (kI a), some (kI g), some (kI e), some (kI v_82), some (kI v_27)]) dX5_fillBest_82 (by decide) rfl rfl ?_
          refine ww_goto hX (pc := 84) (tgt := 17) dX5_fillBest_84 (by decide) ?_
          refine ww_sub [some (kR (some t)), some (kR (some c)), some (kI a), some (kI g), some (kI e), some (kI v_82), none] (aLe_s (aLe_s (aLe_s (aLe_s (aLe_s (aLe_s (aLe_n aLe_0))))))) ?_
          have hol := i_or_512 (a := to + 1) (b := e) (by omega) (by omega) (by omega) (by omega)
          have hor := i_or_ge (a := to + 1) (b := e) (by omega) (by omega) (by omega) (by omega)
          have hsn := or_nx_sub (to := to) (e := e) (by omega) (by omega) (by omega) (by omega)
          have hnp : ∀ x : Nat, x < 8 → ¬ PB (Ia c) g e (a + 1) x to.toNat := fun x hx h9 => by
            obtain ⟨-, -, -, p4, p5⟩ := h9
            rw [show ((to.toNat : Nat) : Int) = to by omega] at p4
            rw [← ec, ← hv_27] at p5
            omega
          have hmn := MB_no hmb (by omega) (by omega) (by omega) (by omega) hsi hnp
          exact ih_17 _ (by have hm9 := Sh0_e hq_17; omega) v_82 I2 rfl ⟨kI2, by omega, by omega, by omega, by rw [hv_82]; exact hsn, by rw [hv_82]; exact hmn⟩
        · simp only [w32_mod] at h_31
          refine ww_iload hX (pc := 34) dX5_fillBest_34 rfl ?_
          refine ww_bipush hX (pc := 36) (x := 8) dX5_fillBest_36 (by decide) ?_
          refine ww_icmp_ge hX (pc := 38) (tgt := 75) dX5_fillBest_38 (by decide) (fun h_38 => ?_) (fun h_38 => ?_)
          · simp only [w32_mod] at h_38
            refine ww_iload hX (pc := 75) dX5_fillBest_75 rfl ?_
            refine ww_iconst hX (pc := 77) (x := 1) dX5_fillBest_77 rfl ?_
            refine ww_iadd hX (pc := 78) dX5_fillBest_78 ?_
            refine ww_iload hX (pc := 79) dX5_fillBest_79 rfl ?_
            refine ww_ior hX (pc := 81) dX5_fillBest_81 ?_
            refine ww_nmI (fun v_82 hv_82 => ?_)
            refine ww_istore hX (pc := 82) (lv' := [some (kR (some t)), some (kR (some c)), some (kI a), some (kI g), some (kI e), some (kI v_82), some (kI v_27)]) dX5_fillBest_82 (by decide) rfl rfl ?_
            refine ww_goto hX (pc := 84) (tgt := 17) dX5_fillBest_84 (by decide) ?_
            refine ww_sub [some (kR (some t)), some (kR (some c)), some (kI a), some (kI g), some (kI e), some (kI v_82), none] (aLe_s (aLe_s (aLe_s (aLe_s (aLe_s (aLe_s (aLe_n aLe_0))))))) ?_
            have hol := i_or_512 (a := to + 1) (b := e) (by omega) (by omega) (by omega) (by omega)
            have hor := i_or_ge (a := to + 1) (b := e) (by omega) (by omega) (by omega) (by omega)
            have hsn := or_nx_sub (to := to) (e := e) (by omega) (by omega) (by omega) (by omega)
            have hnp : ∀ x : Nat, x < 8 → ¬ PB (Ia c) g e (a + 1) x to.toNat := fun x hx h9 => by
              obtain ⟨-, -, -, p4, p5⟩ := h9
              rw [show ((to.toNat : Nat) : Int) = to by omega] at p4
              rw [← ec, ← hv_27] at p5
              omega
            have hmn := MB_no hmb (by omega) (by omega) (by omega) (by omega) hsi hnp
            exact ih_17 _ (by have hm9 := Sh0_e hq_17; omega) v_82 I2 rfl ⟨kI2, by omega, by omega, by omega, by rw [hv_82]; exact hsn, by rw [hv_82]; exact hmn⟩
          · simp only [w32_mod] at h_38
            refine ww_iload hX (pc := 41) dX5_fillBest_41 rfl ?_
            refine ww_iload hX (pc := 43) dX5_fillBest_43 rfl ?_
            refine ww_ixor hX (pc := 45) dX5_fillBest_45 ?_
            refine ww_iload_n hX (pc := 46) dX5_fillBest_46 rfl ?_
            refine ww_iand hX (pc := 47) dX5_fillBest_47 ?_
            refine ww_if_ne hX (pc := 48) (tgt := 75) dX5_fillBest_48 (by decide) (fun h_48 => ?_) (fun h_48 => ?_)
            · simp only [w32_mod] at h_48
              refine ww_iload hX (pc := 75) dX5_fillBest_75 rfl ?_
              refine ww_iconst hX (pc := 77) (x := 1) dX5_fillBest_77 rfl ?_
              refine ww_iadd hX (pc := 78) dX5_fillBest_78 ?_
              refine ww_iload hX (pc := 79) dX5_fillBest_79 rfl ?_
              refine ww_ior hX (pc := 81) dX5_fillBest_81 ?_
              refine ww_nmI (fun v_82 hv_82 => ?_)
              refine ww_istore hX (pc := 82) (lv' := [some (kR (some t)), some (kR (some c)), some (kI a), some (kI g), some (kI e), some (kI v_82), some (kI v_27)]) dX5_fillBest_82 (by decide) rfl rfl ?_
              refine ww_goto hX (pc := 84) (tgt := 17) dX5_fillBest_84 (by decide) ?_
              refine ww_sub [some (kR (some t)), some (kR (some c)), some (kI a), some (kI g), some (kI e), some (kI v_82), none] (aLe_s (aLe_s (aLe_s (aLe_s (aLe_s (aLe_s (aLe_n aLe_0))))))) ?_
              have hol := i_or_512 (a := to + 1) (b := e) (by omega) (by omega) (by omega) (by omega)
              have hor := i_or_ge (a := to + 1) (b := e) (by omega) (by omega) (by omega) (by omega)
              have hsn := or_nx_sub (to := to) (e := e) (by omega) (by omega) (by omega) (by omega)
              have hnp : ∀ x : Nat, x < 8 → ¬ PB (Ia c) g e (a + 1) x to.toNat := fun x hx h9 => by
                obtain ⟨-, -, -, p4, p5⟩ := h9
                rw [show ((to.toNat : Nat) : Int) = to by omega] at p4
                rw [← ec, ← hv_27] at p5
                omega
              have hmn := MB_no hmb (by omega) (by omega) (by omega) (by omega) hsi hnp
              exact ih_17 _ (by have hm9 := Sh0_e hq_17; omega) v_82 I2 rfl ⟨kI2, by omega, by omega, by omega, by rw [hv_82]; exact hsn, by rw [hv_82]; exact hmn⟩
            · simp only [w32_mod] at h_48
              refine ww_aload_n hX (pc := 51) dX5_fillBest_51 rfl ?_
              refine ww_getR hX (pc := 52) fX5_9 (by decide) hst hr1 dX5_fillBest_52 ?_
              refine ww_iload hX (pc := 55) dX5_fillBest_55 rfl ?_
              refine ww_aload_n hX (pc := 57) dX5_fillBest_57 rfl ?_
              refine ww_getR hX (pc := 58) fX5_9 (by decide) hst hr1 dX5_fillBest_58 ?_
              refine ww_iload hX (pc := 61) dX5_fillBest_61 rfl ?_
              refine ww_iald hX (pc := 63) hsb (by decide) (by omega) (by omega) dX5_fillBest_63 ?_
              refine ww_aload_n hX (pc := 64) dX5_fillBest_64 rfl ?_
              refine ww_getR hX (pc := 65) fX5_15 (by decide) hst hr0 dX5_fillBest_65 ?_
              refine ww_iload hX (pc := 68) dX5_fillBest_68 rfl ?_
              refine ww_iald hX (pc := 70) hso (by omega) (by omega) (by omega) dX5_fillBest_70 ?_
              refine ww_mmax hX (pc := 71) tb_750 tb_460 tb_13 tb_461 (by decide) (Nat.le_refl 0) (Nat.le_refl 0) (Nat.le_of_ble_eq_true rfl) dX5_fillBest_71 ?_
              have hbx := (hmb v_27.toNat (by omega)).1
              have hlx := hLo to.toNat (by omega) (by omega)
              refine ww_toI (b := max (I2 b v_27.toNat) (I2 o to.toNat)) (by rw [eo]; exact i_max_r (by omega) (by omega) (by omega) (by omega)) ?_
              refine ww_iast hX (pc := 74) hsb (by decide) (by omega) (by omega) dX5_fillBest_74 ?_
              refine ww_nmH (fun I_74 eI_74 => ?_)
              have kI_74 : Ko b Ia I_74 := by rw [eI_74]; exact Ko_up kI2 _ _
              refine ww_iload hX (pc := 75) dX5_fillBest_75 rfl ?_
              refine ww_iconst hX (pc := 77) (x := 1) dX5_fillBest_77 rfl ?_
              refine ww_iadd hX (pc := 78) dX5_fillBest_78 ?_
              refine ww_iload hX (pc := 79) dX5_fillBest_79 rfl ?_
              refine ww_ior hX (pc := 81) dX5_fillBest_81 ?_
              refine ww_nmI (fun v_82 hv_82 => ?_)
              refine ww_istore hX (pc := 82) (lv' := [some (kR (some t)), some (kR (some c)), some (kI a), some (kI g), some (kI e), some (kI v_82), some (kI v_27)]) dX5_fillBest_82 (by decide) rfl rfl ?_
              refine ww_goto hX (pc := 84) (tgt := 17) dX5_fillBest_84 (by decide) ?_
              refine ww_sub [some (kR (some t)), some (kR (some c)), some (kI a), some (kI g), some (kI e), some (kI v_82), none] (aLe_s (aLe_s (aLe_s (aLe_s (aLe_s (aLe_s (aLe_n aLe_0))))))) ?_
              have hol := i_or_512 (a := to + 1) (b := e) (by omega) (by omega) (by omega) (by omega)
              have hor := i_or_ge (a := to + 1) (b := e) (by omega) (by omega) (by omega) (by omega)
              have hsn := or_nx_sub (to := to) (e := e) (by omega) (by omega) (by omega) (by omega)
              have hpb : PB (Ia c) g e (a + 1) v_27 to.toNat := ⟨by omega, by omega, hsi, by rw [show ((to.toNat : Nat) : Int) = to by omega]; have := iand_r (i_xor to e) g; omega, by rw [hv_27, ec]⟩
              have hmn : MB (Ia c) (Ia o) g e (a + 1) (i_or (to + 1) e) (I_74 b) := by rw [eI_74, up2_row, eo]; exact MB_ad hmb (by omega) (by omega) (by omega) (by omega) hsi (by omega) (by omega) hpb (by have := hLo to.toNat (by omega) (by omega); omega)
              exact ih_17 _ (by have hm9 := Sh0_e hq_17; omega) v_82 I_74 rfl ⟨kI_74, by omega, by omega, by omega, by rw [hv_82]; exact hsn, by rw [hv_82]; exact hmn⟩
  exact hl_17 _ v_15 I_5 rfl ⟨kI_5, by omega, by omega, by omega, by rw [hv_15]; exact or_nx_sub (by omega) (by omega) (by omega) (by omega), by rw [hv_15]; exact MB_0 (by omega) (by omega) (fun x hx => by rw [eI_5, upR_s, if_pos hx])⟩
set_option maxHeartbeats 4000000 in
set_option maxRecDepth 20000 in
theorem c5_X5_fill (l0 : Launch) {Ia Ja : aI1} {Ra : aR1} {Sa : aS1} {t o b c no nc : Nat} (hst : Sa[t]? = some (11, 0)) (hr0 : Ra t 0 = some o) (hr1 : Ra t 1 = some b) (hso : Sa[o]? = some (0, no)) (hsb : Sa[b]? = some (0, 8)) (hsc : Sa[c]? = some (0, nc)) (hno : no ≤ 65536) (hnc : nc ≤ 65536) (hco : c ≠ o) (hcb : c ≠ b) (hcr : ∀ j, j < nc → -2147483648 ≤ Ia c j ∧ Ia c j < 2147483648) (hob : o ≠ b) {a g q : Int} (ha0 : 0 ≤ a) (ha : a < no) (ha3 : a ≤ 255) (hcn : no ≤ nc) (hq1 : 2 ≤ q) (hq2 : q ≤ 8)  : CT l0 2 0 0 mX5_fill [kR (some t), kR (some c), kI a, kI g, kI q] Ia Ja Ra Sa (cV (fun I' J' => Ja = J' ∧ Kq o b Ia I' ∧ zLV (Ia c) g (a + 1) q (-1) (I' o)) Ra Sa) := by
  refine ct_in pn_X5 (Nat.le_of_ble_eq_true rfl) (fun X hX hT hIn => ?_)
  have hX : aK l0 X cX5_fill 9 RX5 none 2 0 0 := hX
  change WW X 0 [some (kR (some t)), some (kR (some c)), some (kI a), some (kI g), some (kI q), none, none, none, none] [] Ia Ja Ra Sa 0 0
  refine ww_iload_n hX (pc := 0) dX5_fill_0 rfl ?_
  refine ww_aload_n hX (pc := 1) dX5_fill_1 rfl ?_
  refine ww_getR hX (pc := 2) fX5_15 (by decide) hst hr0 dX5_fill_2 ?_
  refine ww_alen hX (pc := 5) (by decide) hso dX5_fill_5 ?_
  refine ww_iconst hX (pc := 6) (x := 1) dX5_fill_6 rfl ?_
  refine ww_isub hX (pc := 7) dX5_fill_7 ?_
  refine ww_mmin hX (pc := 8) tb_744 tb_579 tb_13 tb_580 (by decide) (Nat.le_refl 0) (Nat.le_refl 0) (Nat.le_of_ble_eq_true rfl) dX5_fill_8 ?_
  refine ww_nmI (fun v_11 hv_11 => ?_)
  refine ww_istore hX (pc := 11) (lv' := [some (kR (some t)), some (kR (some c)), some (kI a), some (kI g), some (kI q), some (kI v_11), none, none, none]) dX5_fill_11 (by decide) rfl rfl ?_
  have hv11 : a = v_11 := by rw [hv_11, i_min_r (by omega) (by omega) (by omega) (by omega)]; omega
  subst hv11
  refine ww_iload hX (pc := 13) dX5_fill_13 rfl ?_
  refine ww_istore hX (pc := 15) (lv' := [some (kR (some t)), some (kR (some c)), some (kI a), some (kI g), some (kI q), some (kI a), some (kI a), none, none]) dX5_fill_15 (by decide) rfl rfl ?_
  have hl_17 : ∀ (n_17 : Nat) (e : Int) (I2 : aI1), (e + 1).toNat = n_17 → (Kq o b Ia I2 ∧ -1 ≤ e ∧ e ≤ a ∧ zLV (Ia c) g (a + 1) q e (I2 o)) → WW X 17 [some (kR (some t)), some (kR (some c)), some (kI a), some (kI g), some (kI q), some (kI a), some (kI e), none, none] [] I2 Ja Ra Sa 0 0 := by
    intro n_17
    induction n_17 using Nat.strongRecOn with
    | ind n_17 ih_17 =>
      intro e I2 hm_17 hv_17
      have hq_17 := Sh0_i hm_17
      clear hm_17
      obtain ⟨kI2, he0, he1, hlv⟩ := hv_17
      have ec : I2 c = Ia c := kI2 c hco hcb
      refine ww_iload hX (pc := 17) dX5_fill_17 rfl ?_
      refine ww_if_lt hX (pc := 19) (tgt := 99) dX5_fill_19 (by decide) (fun h_19 => ?_) (fun h_19 => ?_)
      · simp only [w32_mod] at h_19
        refine rV hX (pc := 99) hT (Nat.le_refl 0) (Nat.le_refl 0) dX5_fill_99 ?_
        exact ⟨rfl, kI2, (show e = -1 by omega) ▸ hlv⟩
      · simp only [w32_mod] at h_19
        refine ww_aload_n hX (pc := 22) dX5_fill_22 rfl ?_
        refine ww_aload_n hX (pc := 23) dX5_fill_23 rfl ?_
        refine ww_iload hX (pc := 24) dX5_fill_24 rfl ?_
        refine ww_iload_n hX (pc := 26) dX5_fill_26 rfl ?_
        refine ww_iload hX (pc := 27) dX5_fill_27 rfl ?_
        refine vV4 hX (pc := 29) sX5_24 hst (c5_X5_fillBest l0 (Ia := I2) hst hr0 hr1 hso hsb hsc hno hnc hco hcb (by rw [ec]; exact hcr) hob (by omega) (by omega) (by omega) (by omega) (by omega) (by omega) (fun t h1 h2 => by have h3 := (hlv t h1 (by omega)).2; have h4 := pcn_r t; omega)) (by decide) (Nat.le_refl 0) (Nat.le_refl 0) (Nat.le_of_ble_eq_true rfl) dX5_fill_29 (fun I_29 J_29 h_29 => ?_)
        obtain ⟨rfl, h_29, m_29⟩ := h_29
        have kI_29 : Kq o b Ia I_29 := fun k h1 h2 => (h_29 k h2).trans (kI2 k h1 h2)
        have ec9 : I_29 c = Ia c := (h_29 c hcb).trans ec
        have eo9 : I_29 o = I2 o := h_29 o hob
        rw [ec] at m_29
        refine ww_bipush hX (pc := 32) (x := 8) dX5_fill_32 (by decide) ?_
        refine ww_istore hX (pc := 34) (lv' := [some (kR (some t)), some (kR (some c)), some (kI a), some (kI g), some (kI q), some (kI a), some (kI e), some (kI 8), none]) dX5_fill_34 (by decide) rfl rfl ?_
        refine ww_iconst hX (pc := 36) (x := 0) dX5_fill_36 rfl ?_
        refine ww_istore hX (pc := 37) (lv' := [some (kR (some t)), some (kR (some c)), some (kI a), some (kI g), some (kI q), some (kI a), some (kI e), some (kI 8), some (kI 0)]) dX5_fill_37 (by decide) rfl rfl ?_
        have hl_39 : ∀ (n_39 : Nat) (lst : Int) (w : Int), (8 - w).toNat = n_39 → ((0 ≤ w ∧ w ≤ q ∧ -10 ≤ lst) ∧ LI (I_29 c e.toNat) (I_29 b) w lst) → WW X 39 [some (kR (some t)), some (kR (some c)), some (kI a), some (kI g), some (kI q), some (kI a), some (kI e), some (kI lst), some (kI w)] [] I_29 Ja Ra Sa 0 0 := by
          intro n_39
          induction n_39 using Nat.strongRecOn with
          | ind n_39 ih_39 =>
            intro lst w hm_39 hv_39
            have hq_39 := Sh0_i hm_39
            clear hm_39
            obtain ⟨⟨hw0, hw1, hl0⟩, hli⟩ := hv_39
            refine ww_iload hX (pc := 39) dX5_fill_39 rfl ?_
            refine ww_iload hX (pc := 41) dX5_fill_41 rfl ?_
            refine ww_icmp_ge hX (pc := 43) (tgt := 84) dX5_fill_43 (by decide) (fun h_43 => ?_) (fun h_43 => ?_)
            · simp only [w32_mod] at h_43
              have hls := zLS_of m_29 (Int.le_refl _) (by rw [← ec9]; exact (show w = q by omega) ▸ hli) (fun t h1 h2 => (hlv t h1 h2).2) (by omega) (by omega) (by omega) hq1 hq2
              refine ww_aload_n hX (pc := 84) dX5_fill_84 rfl ?_
              refine ww_getR hX (pc := 85) fX5_15 (by decide) hst hr0 dX5_fill_85 ?_
              refine ww_iload hX (pc := 88) dX5_fill_88 rfl ?_
              refine ww_iload hX (pc := 90) dX5_fill_90 rfl ?_
              refine ww_iast hX (pc := 92) hso (by omega) (by omega) (by omega) dX5_fill_92 ?_
              refine ww_nmH (fun I_92 eI_92 => ?_)
              have kI_92 : Kq o b Ia I_92 := by rw [eI_92]; exact Kq_up kI_29 _ _ (by simp)
              refine ww_iinc hX (pc := 93) (lv' := [some (kR (some t)), some (kR (some c)), some (kI a), some (kI g), some (kI q), some (kI a), some (kI (e + (-1))), some (kI lst), some (kI w)]) dX5_fill_93 rfl (by decide) rfl rfl ?_
              refine ww_goto hX (pc := 96) (tgt := 17) dX5_fill_96 (by decide) ?_
              refine ww_sub [some (kR (some t)), some (kR (some c)), some (kI a), some (kI g), some (kI q), some (kI a), some (kI (e + (-1))), none, none] (aLe_s (aLe_s (aLe_s (aLe_s (aLe_s (aLe_s (aLe_s (aLe_n (aLe_n aLe_0))))))))) ?_
              exact ih_17 _ (by have hm9 := Sh0_e hq_17; omega) (e + (-1)) I_92 rfl ⟨kI_92, by omega, by omega, by rw [eI_92, up2_row, eo9]; exact zLV_step hlv (by omega) hls (by omega)⟩
            · simp only [w32_mod] at h_43
              refine ww_iload hX (pc := 46) dX5_fill_46 rfl ?_
              refine ww_bipush hX (pc := 48) (x := 8) dX5_fill_48 (by decide) ?_
              refine ww_icmp_ge hX (pc := 50) (tgt := 84) dX5_fill_50 (by decide) (fun h_50 => ?_) (fun h_50 => ?_)
              · simp only [w32_mod] at h_50
                have hls := zLS_of m_29 (Int.le_refl _) (by rw [← ec9]; exact (show w = q by omega) ▸ hli) (fun t h1 h2 => (hlv t h1 h2).2) (by omega) (by omega) (by omega) hq1 hq2
                refine ww_aload_n hX (pc := 84) dX5_fill_84 rfl ?_
                refine ww_getR hX (pc := 85) fX5_15 (by decide) hst hr0 dX5_fill_85 ?_
                refine ww_iload hX (pc := 88) dX5_fill_88 rfl ?_
                refine ww_iload hX (pc := 90) dX5_fill_90 rfl ?_
                refine ww_iast hX (pc := 92) hso (by omega) (by omega) (by omega) dX5_fill_92 ?_
                refine ww_nmH (fun I_92 eI_92 => ?_)
                have kI_92 : Kq o b Ia I_92 := by rw [eI_92]; exact Kq_up kI_29 _ _ (by simp)
                refine ww_iinc hX (pc := 93) (lv' := [some (kR (some t)), some (kR (some c)), some (kI a), some (kI g), some (kI q), some (kI a), some (kI (e + (-1))), some (kI lst), some (kI w)]) dX5_fill_93 rfl (by decide) rfl rfl ?_
                refine ww_goto hX (pc := 96) (tgt := 17) dX5_fill_96 (by decide) ?_
                refine ww_sub [some (kR (some t)), some (kR (some c)), some (kI a), some (kI g), some (kI q), some (kI a), some (kI (e + (-1))), none, none] (aLe_s (aLe_s (aLe_s (aLe_s (aLe_s (aLe_s (aLe_s (aLe_n (aLe_n aLe_0))))))))) ?_
                exact ih_17 _ (by have hm9 := Sh0_e hq_17; omega) (e + (-1)) I_92 rfl ⟨kI_92, by omega, by omega, by rw [eI_92, up2_row, eo9]; exact zLV_step hlv (by omega) hls (by omega)⟩
              · simp only [w32_mod] at h_50
                have hcr2 := hcr e.toNat (by omega)
                rw [← ec9] at hcr2
                refine ww_iload hX (pc := 53) dX5_fill_53 rfl ?_
                refine ww_aload_n hX (pc := 55) dX5_fill_55 rfl ?_
                refine ww_iload hX (pc := 56) dX5_fill_56 rfl ?_
                refine ww_iald hX (pc := 58) hsc (by omega) (by omega) (by omega) dX5_fill_58 ?_
                refine ww_icmp_eq hX (pc := 59) (tgt := 78) dX5_fill_59 (by decide) (fun h_59 => ?_) (fun h_59 => ?_)
                · simp only [w32_mod] at h_59
                  refine ww_iinc hX (pc := 78) (lv' := [some (kR (some t)), some (kR (some c)), some (kI a), some (kI g), some (kI q), some (kI a), some (kI e), some (kI lst), some (kI (w + 1))]) dX5_fill_78 rfl (by decide) rfl rfl ?_
                  refine ww_goto hX (pc := 81) (tgt := 39) dX5_fill_81 (by decide) ?_
                  exact ih_39 _ (by have hm9 := Sh0_e hq_39; omega) lst (w + 1) rfl ⟨⟨by omega, by omega, by omega⟩, LI_no hli (by omega)⟩
                · simp only [w32_mod] at h_59
                  refine ww_iload hX (pc := 62) dX5_fill_62 rfl ?_
                  refine ww_aload_n hX (pc := 64) dX5_fill_64 rfl ?_
                  refine ww_getR hX (pc := 65) fX5_9 (by decide) hst hr1 dX5_fill_65 ?_
                  refine ww_iload hX (pc := 68) dX5_fill_68 rfl ?_
                  refine ww_iald hX (pc := 70) hsb (by decide) (by omega) (by omega) dX5_fill_70 ?_
                  refine ww_iconst hX (pc := 71) (x := 1) dX5_fill_71 rfl ?_
                  refine ww_iadd hX (pc := 72) dX5_fill_72 ?_
                  refine ww_mmin hX (pc := 73) tb_744 tb_579 tb_13 tb_580 (by decide) (Nat.le_refl 0) (Nat.le_refl 0) (Nat.le_of_ble_eq_true rfl) dX5_fill_73 ?_
                  have hbx := (m_29 w.toNat (by omega)).1
                  have hl8 := hli.1
                  refine ww_toI (b := min lst (I_29 b w.toNat + 1)) (i_min_r (by omega) (by omega) (by omega) (by omega)) ?_
                  refine ww_nmI (fun v_76 hv_76 => ?_)
                  refine ww_istore hX (pc := 76) (lv' := [some (kR (some t)), some (kR (some c)), some (kI a), some (kI g), some (kI q), some (kI a), some (kI e), some (kI v_76), some (kI w)]) dX5_fill_76 (by decide) rfl rfl ?_
                  refine ww_iinc hX (pc := 78) (lv' := [some (kR (some t)), some (kR (some c)), some (kI a), some (kI g), some (kI q), some (kI a), some (kI e), some (kI v_76), some (kI (w + 1))]) dX5_fill_78 rfl (by decide) rfl rfl ?_
                  refine ww_goto hX (pc := 81) (tgt := 39) dX5_fill_81 (by decide) ?_
                  exact ih_39 _ (by have hm9 := Sh0_e hq_39; omega) v_76 (w + 1) rfl ⟨⟨by omega, by omega, by omega⟩, by rw [hv_76]; exact LI_ad hli (by omega) (by omega)⟩
        exact hl_39 _ 8 0 rfl ⟨⟨by omega, by omega, by omega⟩, LI_0 _ _⟩
  exact hl_17 _ a Ia rfl ⟨Kq_rf, by omega, by omega, fun s h1 h2 => absurd h2 (by omega)⟩
