/-! OIL of a STATE -/
def oilS (o : Nat → Int) (s : Nat) (n : Nat) : Int := fW (fun (v : Int) (l : Nat) => if s.testBit l = true then v + o l else v) 0 n
theorem oilS_s (o : Nat → Int) (s n : Nat) : oilS o s (n + 1) = if s.testBit n = true then oilS o s n + o n else oilS o s n := rfl
theorem oilS_lt {o : Nat → Int} {s n m : Nat} (h : s < 2 ^ n) (hm : n ≤ m) : oilS o s m = oilS o s n :=
  fW_N hm (fun v t ht => by
    have h2 : (2 : Nat) ^ n ≤ 2 ^ t := Nat.pow_le_pow_right (by decide) ht
    show (if s.testBit t = true then v + o t else v) = v
    rw [Nat.testBit_lt_two_pow (show s < 2 ^ t by omega)]
    rfl)
theorem oilS_cg {o o' : Nat → Int} {s t : Nat} : ∀ n : Nat, (∀ l, l < n → o l = o' l) → (∀ l, l < n → s.testBit l = t.testBit l) → oilS o s n = oilS o' t n
  | 0, _, _ => rfl
  | n + 1, h, h2 => by
    rw [oilS_s, oilS_s, oilS_cg n (fun l hl => h l (by omega)) (fun l hl => h2 l (by omega)), h n (by omega), h2 n (by omega)]
theorem oilS_bit {o : Nat → Int} {b n : Nat} (h : b < 2 ^ n) : oilS o (2 ^ n + b) (n + 1) = oilS o b n + o n := by
  rw [oilS_s, Nat.testBit_two_pow_add_eq, Nat.testBit_lt_two_pow h]
  show oilS o (2 ^ n + b) n + o n = _
  rw [oilS_cg (o' := o) (t := b) n (fun _ _ => rfl) (fun l hl => Nat.testBit_two_pow_add_gt hl b)]
theorem oilS_r {o : Nat → Int} {s : Nat} (ho : ∀ l, l < 8 → 0 ≤ o l ∧ o l ≤ 99) : ∀ n : Nat, n ≤ 8 → 0 ≤ oilS o s n ∧ oilS o s n ≤ 99 * n
  | 0, _ => ⟨Int.le_refl 0, Int.le_refl 0⟩
  | n + 1, h => by
    have h1 := oilS_r ho n (s := s) (by omega)
    have h2 := ho n (by omega)
    rw [oilS_s]
    split <;> omega
/-- all that is lit more -/
theorem oilS_df {o : Nat → Int} {s t : Nat} (h : s &&& t = s) : ∀ n : Nat, oilS o t n = oilS o s n + oilS o (df t s) n
  | 0 => rfl
  | n + 1 => by
    have h1 := oilS_df (o := o) h n
    have g : (s &&& t).testBit n = s.testBit n := by rw [h]
    have e : (df t s).testBit n = (t.testBit n ^^ (t.testBit n && s.testBit n)) := by
      unfold df
      rw [Nat.testBit_xor, Nat.testBit_and]
    rw [Nat.testBit_and] at g
    rw [oilS_s, oilS_s, oilS_s, e, h1]
    revert g
    cases s.testBit n <;> cases t.testBit n <;> intro g <;> simp at g ⊢ <;> omega
theorem or_bit {b n : Nat} (hb : b < 2 ^ n) (hn : n ≤ 7) : i_or ((2 ^ n : Nat) : Int) (b : Int) = ((2 ^ n + b : Nat) : Int) := by
  have h7 : (2 : Nat) ^ n ≤ 2 ^ 7 := Nat.pow_le_pow_right (by decide) hn
  rw [i_or_N (by omega) (by omega)]
  have h2 := Nat.two_pow_add_eq_or_of_lt hb 1
  rw [Nat.mul_one] at h2
  rw [h2]
theorem pcn_df {s t : Nat} (h : s &&& t = s) : pcn (df t s) = pcn t - pcn s := by
  have hb : ∀ i, pcB (df t s) i = pcB t i - pcB s i := fun i => by
    have g : (s &&& t).testBit i = s.testBit i := by rw [h]
    have e : (df t s).testBit i = (t.testBit i ^^ (t.testBit i && s.testBit i)) := by
      unfold df
      rw [Nat.testBit_xor, Nat.testBit_and]
    rw [Nat.testBit_and] at g
    unfold pcB
    rw [e]
    revert g
    cases s.testBit i <;> cases t.testBit i <;> intro g <;> simp at g ⊢
  unfold pcn
  rw [hb 0, hb 1, hb 2, hb 3, hb 4, hb 5, hb 6, hb 7]
  omega
/-! choosing -/
/-- the best of the STATES from s by which NEWS x is READ; -1 without -/
def nxF (bt : Nat → Nat → Bool) (code : Nat → Int) (g s N x : Int) (v : Int) (t : Nat) : Int := if (t : Int) < N ∧ s.toNat &&& t = s.toNat ∧ i_and (i_xor t s) g = 0 ∧ code t = x ∧ (v = -1 ∨ bt t v.toNat = true) then t else v
def NX (bt : Nat → Nat → Bool) (code : Nat → Int) (g s N x : Int) : Int := fW (nxF bt code g s N x) (-1) N.toNat
theorem nxF_n {bt : Nat → Nat → Bool} {code : Nat → Int} {g s N x : Int} : ∀ v (t : Nat), ¬ (s.toNat &&& t = s.toNat) → nxF bt code g s N x v t = v := fun _ _ h => if_neg (fun h2 => h h2.2.1)
theorem nxF_N {bt : Nat → Nat → Bool} {code : Nat → Int} {g s N x : Int} : ∀ v (t : Nat), N ≤ t → nxF bt code g s N x v t = v := fun _ _ h => if_neg (fun h2 => by have := h2.1; omega)
/-- by which NEWS x can be SENT from s, s too -/
def CD (code : Nat → Int) (g s N x : Int) (t : Nat) : Prop := (t : Int) < N ∧ s.toNat &&& t = s.toNat ∧ i_and (i_xor t s) g = 0 ∧ code t = x
theorem nxF_y {bt : Nat → Nat → Bool} {code : Nat → Int} {g s N x v to : Int} (h0 : 0 ≤ to) (h1 : to < N) (h2 : s.toNat &&& to.toNat = s.toNat) (h3 : i_and (i_xor to s) g = 0) (h4 : code to.toNat = x) (h5 : v = -1 ∨ bt to.toNat v.toNat = true) : nxF bt code g s N x v to.toNat = to := by
  have e : ((to.toNat : Nat) : Int) = to := by omega
  exact (if_pos ⟨by omega, h2, by rw [e]; exact h3, h4, h5⟩).trans e
theorem nxF_x {bt : Nat → Nat → Bool} {code : Nat → Int} {g s N x v to : Int} (h0 : 0 ≤ to) (h : ¬ (i_and (i_xor to s) g = 0 ∧ code to.toNat = x ∧ (v = -1 ∨ bt to.toNat v.toNat = true))) : nxF bt code g s N x v to.toNat = v :=
  if_neg (fun h2 => h ⟨by have h3 := h2.2.2.1; rw [show ((to.toNat : Nat) : Int) = to by omega] at h3; exact h3, h2.2.2.2⟩)
theorem nx_cd {bt : Nat → Nat → Bool} {code : Nat → Int} {g s N x : Int} : ∀ n, fW (nxF bt code g s N x) (-1) n = -1 ∨ ∃ t : Nat, fW (nxF bt code g s N x) (-1) n = (t : Int) ∧ CD code g s N x t
  | 0 => Or.inl rfl
  | n + 1 => by
    show nxF bt code g s N x (fW (nxF bt code g s N x) (-1) n) n = -1 ∨ ∃ t : Nat, nxF bt code g s N x (fW (nxF bt code g s N x) (-1) n) n = (t : Int) ∧ CD code g s N x t
    by_cases h : (n : Int) < N ∧ s.toNat &&& n = s.toNat ∧ i_and (i_xor n s) g = 0 ∧ code n = x ∧ (fW (nxF bt code g s N x) (-1) n = -1 ∨ bt n (fW (nxF bt code g s N x) (-1) n).toNat = true)
    · rw [show nxF bt code g s N x (fW (nxF bt code g s N x) (-1) n) n = (n : Int) from if_pos h]
      exact Or.inr ⟨n, rfl, h.1, h.2.1, h.2.2.1, h.2.2.2.1⟩
    · rw [show nxF bt code g s N x (fW (nxF bt code g s N x) (-1) n) n = fW (nxF bt code g s N x) (-1) n from if_neg h]
      exact nx_cd n
theorem NX_cd {bt : Nat → Nat → Bool} {code : Nat → Int} {g s N x : Int} : NX bt code g s N x = -1 ∨ ∃ t : Nat, NX bt code g s N x = (t : Int) ∧ CD code g s N x t := nx_cd _
theorem NX_r {bt : Nat → Nat → Bool} {code : Nat → Int} {g s N x : Int} (h0 : 0 ≤ s) : NX bt code g s N x = -1 ∨ (s ≤ NX bt code g s N x ∧ NX bt code g s N x < N ∧ code (NX bt code g s N x).toNat = x ∧ s.toNat &&& (NX bt code g s N x).toNat = s.toNat ∧ i_and (i_xor (NX bt code g s N x) s) g = 0) := by
  rcases NX_cd (bt := bt) (code := code) (g := g) (s := s) (N := N) (x := x) with h | ⟨t, h, h1, h2, h3, h4⟩
  · exact Or.inl h
  · right
    rw [h, Int.toNat_natCast]
    have h5 : s.toNat &&& t ≤ t := Nat.and_le_right
    exact ⟨by omega, h1, h4, h2, h3⟩
theorem nx_cg {bt bt' : Nat → Nat → Bool} {code code' : Nat → Int} {g s N x : Int} (hc : ∀ t : Nat, (t : Int) < N → code t = code' t) (hb : ∀ t v : Nat, CD code g s N x t → CD code g s N x v → bt t v = bt' t v) : ∀ n, fW (nxF bt code g s N x) (-1) n = fW (nxF bt' code' g s N x) (-1) n
  | 0 => rfl
  | n + 1 => by
    have ih := nx_cg hc hb n
    show nxF bt code g s N x (fW (nxF bt code g s N x) (-1) n) n = nxF bt' code' g s N x (fW (nxF bt' code' g s N x) (-1) n) n
    rw [← ih]
    have hv := nx_cd (bt := bt) (code := code) (g := g) (s := s) (N := N) (x := x) n
    generalize fW (nxF bt code g s N x) (-1) n = v at hv ⊢
    by_cases h : (n : Int) < N ∧ s.toNat &&& n = s.toNat ∧ i_and (i_xor n s) g = 0 ∧ code n = x
    · have e : (v = -1 ∨ bt n v.toNat = true) ↔ (v = -1 ∨ bt' n v.toNat = true) := by
        rcases hv with hv | ⟨t, hv, ht⟩
        · exact ⟨fun _ => Or.inl hv, fun _ => Or.inl hv⟩
        · rw [hv, Int.toNat_natCast, hb n t h ht]
      unfold nxF
      by_cases h2 : v = -1 ∨ bt n v.toNat = true
      · rw [if_pos ⟨h.1, h.2.1, h.2.2.1, h.2.2.2, h2⟩, if_pos ⟨h.1, h.2.1, h.2.2.1, by rw [← hc n h.1]; exact h.2.2.2, e.mp h2⟩]
      · rw [if_neg (fun h9 => h2 h9.2.2.2.2), if_neg (fun h9 => h2 (e.mpr h9.2.2.2.2))]
    · unfold nxF
      rw [if_neg (fun h9 => h ⟨h9.1, h9.2.1, h9.2.2.1, h9.2.2.2.1⟩), if_neg (fun h9 => h ⟨h9.1, h9.2.1, h9.2.2.1, by rw [hc n h9.1]; exact h9.2.2.2.1⟩)]
theorem NX_cg {bt bt' : Nat → Nat → Bool} {code code' : Nat → Int} {g s N x : Int} (hc : ∀ t : Nat, (t : Int) < N → code t = code' t) (hb : ∀ t v : Nat, CD code g s N x t → CD code g s N x v → bt t v = bt' t v) : NX bt code g s N x = NX bt' code' g s N x := nx_cg hc hb _
/-- a MANNER by the class's tables: OIL, LASTING, MEAN -/
def bC (m : Int) (o L T : Nat → Int) (t v : Nat) : Bool := if m = 1 then decide (o t < o v) else if m = 2 then decide (L v < L t ∨ (L t = L v ∧ pcn t < pcn v)) else if m = 3 then decide (T v < T t) else decide (pcn t < pcn v)
/-! means -/
/-- v is the greatest of T over P; -1 without any -/
def GM (P : Nat → Prop) (T : Nat → Int) (v : Int) : Prop := (∀ t, P t → T t ≤ v) ∧ ((v = -1 ∧ ∀ t, ¬ P t) ∨ ∃ t, P t ∧ v = T t)
theorem GM_cg {P Q : Nat → Prop} {T M : Nat → Int} {v : Int} (h : GM P T v) (h1 : ∀ t, P t ↔ Q t) (h2 : ∀ t, Q t → T t = M t) : GM Q M v :=
  ⟨fun t ht => by rw [← h2 t ht]; exact h.1 t ((h1 t).mpr ht), h.2.imp (fun ⟨a, b⟩ => ⟨a, fun t ht => b t ((h1 t).mpr ht)⟩) (fun ⟨t, a, b⟩ => ⟨t, (h1 t).mp a, by rw [← h2 t ((h1 t).mp a)]; exact b⟩)⟩
theorem GM_un {P : Nat → Prop} {T : Nat → Int} {v w : Int} (h : GM P T v) (k : GM P T w) : v = w := by
  rcases h.2 with ⟨h2, h3⟩ | ⟨t, h2, h3⟩
  · rcases k.2 with ⟨k2, -⟩ | ⟨u, k2, -⟩
    · omega
    · exact absurd k2 (h3 u)
  · rcases k.2 with ⟨-, k3⟩ | ⟨u, k2, k3⟩
    · exact absurd h2 (k3 t)
    · have := k.1 t h2
      have := h.1 u k2
      omega
theorem GM_0 {P : Nat → Prop} {T : Nat → Int} (h : ∀ t, ¬ P t) : GM P T (-1) := ⟨fun t ht => absurd ht (h t), Or.inl ⟨rfl, h⟩⟩
theorem GM_ad {P Q : Nat → Prop} {T : Nat → Int} {v : Int} {u : Nat} (h : GM P T v) (hq : ∀ t, Q t ↔ P t ∨ t = u) (hT : 0 ≤ T u) : GM Q T (max v (T u)) := by
  refine ⟨fun t ht => ?_, ?_⟩
  · rcases (hq t).mp ht with h1 | rfl
    · have := h.1 t h1
      omega
    · omega
  · right
    by_cases hv : v ≤ T u
    · exact ⟨u, (hq u).mpr (Or.inr rfl), by omega⟩
    · rcases h.2 with ⟨h2, -⟩ | ⟨t, h2, h3⟩
      · omega
      · exact ⟨t, (hq t).mpr (Or.inl h2), by omega⟩
theorem GM_mul {P : Nat → Prop} {T : Nat → Int} {v c : Int} (h : GM P T v) (hc : 0 < c) (hT : ∀ t, P t → 0 ≤ T t) : GM P (fun t => T t * c) (if v = -1 then -1 else v * c) := by
  rcases h.2 with ⟨h2, h3⟩ | ⟨t, h2, h3⟩
  · rw [if_pos h2]
    exact GM_0 h3
  · have h4 := hT t h2
    rw [if_neg (by omega)]
    exact ⟨fun u hu => Int.mul_le_mul_of_nonneg_right (h.1 u hu) (by omega), Or.inr ⟨t, h2, by rw [h3]⟩⟩
/-- the sum that a MEAN is of -/
def mS (U own : Int) (r : Nat → Int) (q : Nat) : Int := fW (fun (v : Int) (x : Nat) => if (x : Int) = own ∨ r x = -1 then v else v + (U + r x)) (if own = -1 then 0 else U) q
theorem mS_s (U own : Int) (r : Nat → Int) (q : Nat) : mS U own r (q + 1) = if (q : Int) = own ∨ r q = -1 then mS U own r q else mS U own r q + (U + r q) := rfl
theorem mS_cg {U own : Int} {r r' : Nat → Int} : ∀ q : Nat, (∀ x, x < q → r x = r' x) → mS U own r q = mS U own r' q
  | 0, _ => rfl
  | q + 1, h => by rw [mS_s, mS_s, mS_cg q (fun x hx => h x (by omega)), h q (by omega)]
theorem mS_mul {U V c own : Int} {r r' : Nat → Int} (hU : V = U * c) : ∀ q : Nat, (∀ x, x < q → (r x = -1 ∧ r' x = -1) ∨ (0 ≤ r x ∧ 0 ≤ r' x ∧ r' x = r x * c)) → mS V own r' q = mS U own r q * c
  | 0, _ => by
    show (if own = -1 then 0 else V) = (if own = -1 then 0 else U) * c
    by_cases h : own = -1
    · rw [if_pos h, if_pos h, Int.zero_mul]
    · rw [if_neg h, if_neg h, hU]
  | q + 1, h => by
    have ih := mS_mul (own := own) hU q (fun x hx => h x (by omega))
    rw [mS_s, mS_s]
    rcases h q (by omega) with ⟨h1, h2⟩ | ⟨h1, h2, h3⟩
    · rw [if_pos (Or.inr h2), if_pos (Or.inr h1), ih]
    · by_cases h4 : (q : Int) = own
      · rw [if_pos (Or.inl h4), if_pos (Or.inl h4), ih]
      · rw [if_neg (by omega), if_neg (by omega), ih, h3, hU, Int.add_mul, Int.add_mul]
theorem mS_r {U own B : Int} {r : Nat → Int} (hU : 0 ≤ U) (hB : 0 ≤ B) : ∀ q : Nat, (∀ x, x < q → -1 ≤ r x ∧ r x ≤ B) → 0 ≤ mS U own r q ∧ mS U own r q ≤ U + q * (U + B)
  | 0, _ => by
    show 0 ≤ (if own = -1 then 0 else U) ∧ (if own = -1 then 0 else U) ≤ U + ((0 : Nat) : Int) * (U + B)
    rw [show ((0 : Nat) : Int) = 0 from rfl, Int.zero_mul]
    split <;> omega
  | q + 1, h => by
    have ih := mS_r (own := own) hU hB q (fun x hx => h x (by omega))
    have h1 := h q (by omega)
    rw [mS_s, show (((q + 1 : Nat) : Int)) * (U + B) = (q : Int) * (U + B) + (U + B) by rw [Int.natCast_succ, Int.add_mul, Int.one_mul]]
    split <;> omega
/-- a MEAN by those above, times the unit U (of one that is READ: through K - 1) -/
def MCs (code : Nat → Int) (g N K U : Int) (T : Nat → Int) (s : Nat) (v : Int) : Prop := ∃ r : Nat → Int, (∀ x : Nat, (x : Int) < K → GM (PB code g s N x) T (r x)) ∧ v = if code s = -1 then mS U (code s) r K.toNat else mS U (code s) r K.toNat / (K - 1)
/-- a MEAN by those above, times K - 1 once for each LAMP that is dark -/
def MRs (code : Nat → Int) (g N K n : Int) (M : Nat → Int) (s : Nat) (v : Int) : Prop := ∃ r : Nat → Int, (∀ x : Nat, (x : Int) < K → GM (PB code g s N x) (fun t => M t * (K - 1) ^ (n - pcn s - (n - pcn t) - 1).toNat) (r x)) ∧ v = mS ((K - 1) ^ (n - pcn s).toNat) (code s) r K.toNat
theorem MCs_cg {code : Nat → Int} {g N K U v : Int} {T T' : Nat → Int} {s : Nat} (h : MCs code g N K U T s v) (hT : ∀ t : Nat, s < t → (t : Int) < N → T t = T' t) : MCs code g N K U T' s v := by
  obtain ⟨r, h1, h2⟩ := h
  exact ⟨r, fun x hx => GM_cg (h1 x hx) (fun _ => Iff.rfl) (fun t ht => hT t (by have := ht.1; omega) ht.2.1), h2⟩
theorem MRs_cg {code : Nat → Int} {g N K n v : Int} {M M' : Nat → Int} {s : Nat} (h : MRs code g N K n M s v) (hT : ∀ t : Nat, s < t → (t : Int) < N → M t = M' t) : MRs code g N K n M' s v := by
  obtain ⟨r, h1, h2⟩ := h
  exact ⟨r, fun x hx => GM_cg (h1 x hx) (fun _ => Iff.rfl) (fun t ht => by show M t * _ = M' t * _; rw [hT t (by have := ht.1; omega) ht.2.1]), h2⟩
theorem pw_pos {P : Int} (h : 1 ≤ P) (n : Nat) : 1 ≤ P ^ n := by
  induction n with
  | zero => exact Int.le_of_eq (Int.pow_zero P).symm
  | succ n ih =>
    rw [Int.pow_succ]
    have := Int.mul_le_mul ih h (by omega) (by omega)
    omega
theorem pw_add (P : Int) (a b : Nat) : P ^ a * P ^ b = P ^ (a + b) := (Int.pow_add P a b).symm
/-- both kinds of MEAN told by each other -/
theorem M_link {code : Nat → Int} {g N K n : Int} {T M : Nat → Int} {s : Nat} {v w : Int} (hK : 2 ≤ K) (hn : n ≤ 8) (hN : N ≤ 256) (hs : (s : Int) < N) (hc : ∀ t : Nat, s < t → (t : Int) < N → ¬ code t = -1 → T t = M t * (K - 1) ^ (8 - (n - pcn t)).toNat ∧ 0 ≤ M t) (hp : ∀ t : Nat, (t : Int) < N → pcn t ≤ n) (h : MCs code g N K ((K - 1) ^ 9) T s v) (k : MRs code g N K n M s w) : (code s = -1 → v = w * (K - 1) ^ (9 - (n - pcn s)).toNat) ∧ (¬ code s = -1 → v = w * (K - 1) ^ (8 - (n - pcn s)).toNat) := by
  obtain ⟨r, h1, h2⟩ := h
  obtain ⟨r', k1, k2⟩ := k
  have hps := hp s hs
  have hpr := pcn_r s
  have hc1 : 1 ≤ (K - 1) ^ (9 - (n - pcn s)).toNat := pw_pos (by omega) _
  have hr : ∀ x, x < K.toNat → (r' x = -1 ∧ r x = -1) ∨ (0 ≤ r' x ∧ 0 ≤ r x ∧ r x = r' x * (K - 1) ^ (9 - (n - pcn s)).toNat) := fun x hx => by
    have g1 := h1 x (by omega)
    have g2 := k1 x (by omega)
    have hpos : ∀ t, PB code g s N x t → 0 ≤ M t * (K - 1) ^ (n - pcn s - (n - pcn t) - 1).toNat := fun t ht => by
      have a1 := (hc t (by have := ht.1; omega) ht.2.1 (by have := ht.2.2.2.2; omega)).2
      have a2 := pw_pos (P := K - 1) (by omega) (n - pcn s - (n - pcn t) - 1).toNat
      exact Int.mul_nonneg a1 (by omega)
    have g3 := GM_mul g2 (c := (K - 1) ^ (9 - (n - pcn s)).toNat) (by omega) hpos
    have g4 : GM (PB code g s N x) T (if r' x = -1 then -1 else r' x * (K - 1) ^ (9 - (n - pcn s)).toNat) := by
      refine GM_cg g3 (fun _ => Iff.rfl) (fun t ht => ?_)
      have b1 := ht.1
      have b2 := ht.2.1
      have a3 := (hc t (by omega) b2 (by have := ht.2.2.2.2; omega)).1
      have a4 := pcn_lt (by have := ht.2.2.1; rw [Int.toNat_natCast] at this; exact this) (show s < t by omega) (by omega)
      have a5 := hp t b2
      have a6 := pcn_r t
      rw [a3, Int.mul_assoc, pw_add]
      exact congrArg (fun z : Nat => M t * (K - 1) ^ z) (by omega)
    have g5 := GM_un g1 g4
    rcases g2.2 with ⟨g6, -⟩ | ⟨t, g6, g7⟩
    · rw [if_pos g6] at g5
      exact Or.inl ⟨g6, g5⟩
    · have g8 := hpos t g6
      have g7 : r' x = M t * (K - 1) ^ (n - pcn s - (n - pcn t) - 1).toNat := g7
      rw [if_neg (by omega)] at g5
      refine Or.inr ⟨by omega, ?_, g5⟩
      rw [g5]
      exact Int.mul_nonneg (by omega) (by omega)
  have hm := mS_mul (U := (K - 1) ^ (n - pcn s).toNat) (V := (K - 1) ^ 9) (c := (K - 1) ^ (9 - (n - pcn s)).toNat) (own := code s) (r := r') (r' := r) (by
    rw [pw_add]
    exact congrArg (fun z : Nat => (K - 1) ^ z) (by omega)) K.toNat hr
  constructor
  · intro h9
    rw [h2, if_pos h9, hm, k2]
  · intro h9
    rw [h2, if_neg h9, hm, k2, show (9 - (n - pcn s)).toNat = (8 - (n - pcn s)).toNat + 1 by omega, Int.pow_succ, ← Int.mul_assoc]
    exact Int.mul_ediv_cancel _ (by omega)
