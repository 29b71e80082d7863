/-! folds over STATES -/
def fW {β : Type} (f : β → Nat → β) (z : β) : Nat → β
  | 0 => z
  | n + 1 => f (fW f z n) n
theorem fW_s {β : Type} (f : β → Nat → β) (z : β) {i : Int} (h : 0 ≤ i) : fW f z (i + 1).toNat = f (fW f z i.toNat) i.toNat := by
  rw [show (i + 1).toNat = i.toNat + 1 by omega]
  rfl
theorem fW_z {β : Type} {f : β → Nat → β} {z : β} {a : Nat} : ∀ (d : Nat), (∀ v t, a ≤ t → t < a + d → f v t = v) → fW f z (a + d) = fW f z a
  | 0, _ => rfl
  | d + 1, h => by
    show f (fW f z (a + d)) (a + d) = fW f z a
    rw [h _ (a + d) (by omega) (by omega)]
    exact fW_z d (fun v t h1 h2 => h v t h1 (by omega))
theorem fW_nx {β : Type} {f : β → Nat → β} {z : β} {to e : Int} (h0 : 0 ≤ to) (h1 : to < 2147483647) (h2 : 0 ≤ e) (h3 : e < 2147483648) (hs : e.toNat &&& to.toNat = e.toNat) (hf : ∀ v (t : Nat), ¬ (e.toNat &&& t = e.toNat) → f v t = v) : fW f z (i_or (to + 1) e).toNat = f (fW f z to.toNat) to.toNat := by
  have hge := (i_or_ge (a := to + 1) (b := e) (by omega) (by omega) h2 h3).1
  have e1 : (i_or (to + 1) e).toNat = (to.toNat + 1) + ((i_or (to + 1) e).toNat - (to.toNat + 1)) := by omega
  rw [e1, fW_z _ (fun v t g1 g2 => hf v t (fun g3 => by
    have := or_nx_le h0 h1 h2 h3 hs g3 (by omega)
    omega))]
  rfl
theorem fW_e {β : Type} {f : β → Nat → β} {z : β} {e : Nat} (hf : ∀ v (t : Nat), ¬ (e &&& t = e) → f v t = v) : fW f z e = z := by
  have h := fW_z (f := f) (z := z) (a := 0) e (fun v t _ h2 => hf v t (fun h3 => by
    have h4 : e &&& t ≤ t := Nat.and_le_right
    omega))
  rw [Nat.zero_add] at h
  exact h
theorem fW_N {β : Type} {f : β → Nat → β} {z : β} {N m : Nat} (hm : N ≤ m) (hf : ∀ v (t : Nat), N ≤ t → f v t = v) : fW f z m = fW f z N := by
  have h := fW_z (f := f) (z := z) (a := N) (m - N) (fun v t h1 _ => hf v t h1)
  rw [show N + (m - N) = m by omega] at h
  exact h
/-! bits -/
theorem zand_i (x : Int) : i_and 0 x = 0 := by
  have e : Int32.ofInt 0 &&& Int32.ofInt x = 0 := Int32.toBitVec_inj.1 (by
    show 0#32 &&& (Int32.ofInt x).toBitVec = 0#32
    exact BitVec.zero_and)
  unfold i_and
  rw [e]
  rfl
theorem ior_z {v : Int} (h1 : -2147483648 ≤ v) (h2 : v < 2147483648) : i_or v 0 = v := by
  have e : Int32.ofInt v ||| Int32.ofInt 0 = Int32.ofInt v := Int32.toBitVec_inj.1 (by
    show (Int32.ofInt v).toBitVec ||| 0#32 = (Int32.ofInt v).toBitVec
    exact BitVec.or_zero)
  unfold i_or
  rw [e]
  exact w32_id h1 h2
theorem ior_r (a b : Int) : -2147483648 ≤ i_or a b ∧ i_or a b < 2147483648 := by
  have h := w32_r (i_or a b)
  have e : w32 (i_or a b) = i_or a b := by
    unfold w32 i_or
    rw [n_of]
  rw [e] at h
  exact h
theorem bc_pcn {a : Int} (h0 : 0 ≤ a) (h1 : a < 256) : bc a = pcn a.toNat := by
  have h : ∀ n : Fin 256, bc ((n.val : Nat) : Int) = pcn n.val := by decide +kernel
  have := h ⟨a.toNat, by omega⟩
  rwa [show ((a.toNat : Nat) : Int) = a by omega] at this
/-- the reference's count of what is lit -/
def oN (a : Int) : Nat → Int
  | 0 => 0
  | n + 1 => oN a n + i_and (i_shr a (n : Int)) 1
theorem oN_s (a : Int) {i : Int} (h : 0 ≤ i) : oN a (i + 1).toNat = oN a i.toNat + i_and (i_shr a i) 1 := by
  rw [show (i + 1).toNat = i.toNat + 1 by omega]
  show oN a i.toNat + i_and (i_shr a ((i.toNat : Nat) : Int)) 1 = _
  rw [show ((i.toNat : Nat) : Int) = i by omega]
theorem oN_pcn {a : Int} (h0 : 0 ≤ a) (h1 : a < 256) : oN a 16 = pcn a.toNat := by
  have h : ∀ n : Fin 256, oN ((n.val : Nat) : Int) 16 = pcn n.val := by decide +kernel
  have := h ⟨a.toNat, by omega⟩
  rwa [show ((a.toNat : Nat) : Int) = a by omega] at this
/-- what is lit in s, and not in t -/
def df (s t : Nat) : Nat := s ^^^ (s &&& t)
theorem anx_N {s t : Int} (hs : 0 ≤ s) (hs1 : s < 256) (ht : 0 ≤ t) (ht1 : t < 256) : i_and s (i_xor t (-1)) = ((df s.toNat t.toNat : Nat) : Int) := by
  have e1 : Int32.ofInt s &&& (Int32.ofInt t ^^^ Int32.ofInt (-1)) = Int32.ofInt s ^^^ (Int32.ofInt s &&& Int32.ofInt t) := Int32.toBitVec_inj.1 (by
    show (Int32.ofInt s).toBitVec &&& ((Int32.ofInt t).toBitVec ^^^ (Int32.ofInt (-1)).toBitVec) = (Int32.ofInt s).toBitVec ^^^ ((Int32.ofInt s).toBitVec &&& (Int32.ofInt t).toBitVec)
    rw [m1_bv]
    apply BitVec.eq_of_getLsbD_eq
    intro i hi
    rw [BitVec.getLsbD_and, BitVec.getLsbD_xor, BitVec.getLsbD_xor, BitVec.getLsbD_and, BitVec.getLsbD_allOnes]
    cases (Int32.ofInt s).toBitVec.getLsbD i <;> cases (Int32.ofInt t).toBitVec.getLsbD i <;> simp [hi])
  have hx : s.toNat ^^^ (s.toNat &&& t.toNat) < 2 ^ 31 := Nat.xor_lt_two_pow (by omega) (by have h : s.toNat &&& t.toNat ≤ s.toNat := Nat.and_le_left; omega)
  unfold i_and i_xor df
  rw [n_of, e1]
  have e2 := o_and s.toNat t.toNat
  have e3 := o_xor s.toNat (s.toNat &&& t.toNat)
  rw [show ((s.toNat : Nat) : Int) = s by omega] at e2 e3
  rw [show ((t.toNat : Nat) : Int) = t by omega] at e2
  rw [e2, e3]
  exact w32_id (by omega) (by omega)
theorem df_lt {s t : Nat} (h : s < 256) : df s t < 256 := by
  unfold df
  have h2 : s &&& t ≤ s := Nat.and_le_left
  exact Nat.xor_lt_two_pow (n := 8) h (by omega)
theorem df_0 {s t : Nat} : df s t = 0 ↔ s &&& t = s := by
  unfold df
  constructor
  · intro h
    apply Nat.eq_of_testBit_eq
    intro i
    have h2 : (s ^^^ (s &&& t)).testBit i = (0 : Nat).testBit i := by rw [h]
    rw [Nat.testBit_xor, Nat.testBit_and, Nat.zero_testBit] at h2
    rw [Nat.testBit_and]
    revert h2
    cases s.testBit i <;> cases t.testBit i <;> decide
  · intro h
    rw [h, Nat.xor_self]
theorem df_sub {s t : Nat} (h : t &&& s = t) : df s t = s ^^^ t := by
  unfold df
  rw [Nat.and_comm, h]
theorem pcn_le {s t : Nat} (h : s &&& t = s) : pcn s ≤ pcn t := by
  have h0 := pcB_le h 0
  have h1 := pcB_le h 1
  have h2 := pcB_le h 2
  have h3 := pcB_le h 3
  have h4 := pcB_le h 4
  have h5 := pcB_le h 5
  have h6 := pcB_le h 6
  have h7 := pcB_le h 7
  unfold pcn
  omega
/-- from less that is seen in both one is farther -/
theorem df_le {a s t : Nat} (h : a &&& s = a) (h2 : a &&& t = a) : pcn (df s t) ≤ pcn (s ^^^ a) := by
  refine pcn_le ?_
  apply Nat.eq_of_testBit_eq
  intro i
  have g : (a &&& s).testBit i = a.testBit i := by rw [h]
  have g2 : (a &&& t).testBit i = a.testBit i := by rw [h2]
  unfold df
  rw [Nat.testBit_and] at g g2
  rw [Nat.testBit_and, Nat.testBit_xor, Nat.testBit_and, Nat.testBit_xor]
  revert g g2
  cases a.testBit i <;> cases s.testBit i <;> cases t.testBit i <;> decide
theorem i0_bv {x g : Int} : i_and x g = 0 ↔ (Int32.ofInt x).toBitVec &&& (Int32.ofInt g).toBitVec = 0#32 := by
  unfold i_and
  constructor
  · intro h
    have e := n_of (Int32.ofInt x &&& Int32.ofInt g)
    rw [h] at e
    have e2 := congrArg Int32.toBitVec e
    exact e2.symm
  · intro h
    have e : Int32.ofInt x &&& Int32.ofInt g = 0 := Int32.toBitVec_inj.1 h
    rw [e]
    rfl
/-- what can come from what can come -/
theorem rc_step {i t g : Int} (hi : 0 ≤ i) (hi1 : i < 256) (ht : 0 ≤ t) (ht1 : t < 256) (h1 : i_and i g = 0) (h2 : i_and (i_xor t i) g = 0) : i_and t g = 0 := by
  rw [i0_bv] at h1 h2 ⊢
  unfold i_xor at h2
  rw [n_of] at h2
  have h3 : ((Int32.ofInt t).toBitVec ^^^ (Int32.ofInt i).toBitVec) &&& (Int32.ofInt g).toBitVec = 0#32 := h2
  apply BitVec.eq_of_getLsbD_eq
  intro k hk
  have g1 : ((Int32.ofInt i).toBitVec &&& (Int32.ofInt g).toBitVec).getLsbD k = (0#32).getLsbD k := by rw [h1]
  have g2 : (((Int32.ofInt t).toBitVec ^^^ (Int32.ofInt i).toBitVec) &&& (Int32.ofInt g).toBitVec).getLsbD k = (0#32).getLsbD k := by rw [h3]
  rw [BitVec.getLsbD_and, BitVec.getLsbD_zero] at g1
  rw [BitVec.getLsbD_and, BitVec.getLsbD_xor, BitVec.getLsbD_zero] at g2
  rw [BitVec.getLsbD_and, BitVec.getLsbD_zero]
  revert g1 g2
  cases (Int32.ofInt i).toBitVec.getLsbD k <;> cases (Int32.ofInt t).toBitVec.getLsbD k <;> cases (Int32.ofInt g).toBitVec.getLsbD k <;> decide
theorem ixor_z {t : Int} (ht : 0 ≤ t) (ht1 : t < 256) : i_xor t 0 = t := by
  have h := i_xor_N (a := t.toNat) (b := 0) (by omega) (by omega)
  rw [Nat.xor_zero, show ((t.toNat : Nat) : Int) = t by omega] at h
  exact h
theorem ixor_N {s t : Int} (hs : 0 ≤ s) (hs1 : s < 256) (ht : 0 ≤ t) (ht1 : t < 256) : i_xor t s = ((t.toNat ^^^ s.toNat : Nat) : Int) := by
  have h := i_xor_N (a := t.toNat) (b := s.toNat) (by omega) (by omega)
  rw [show ((t.toNat : Nat) : Int) = t by omega, show ((s.toNat : Nat) : Int) = s by omega] at h
  exact h
/-! what is asked of the CODE -/
/-- by how many STATES above s (s too) NEWS x can be SENT from s -/
def wyF (code : Nat → Int) (g s N x : Int) (v : Int) (t : Nat) : Int := if (t : Int) < N ∧ s.toNat &&& t = s.toNat ∧ i_and (i_xor t s) g = 0 ∧ code t = x then v + 1 else v
theorem wyF_n {code : Nat → Int} {g s N x : Int} : ∀ v (t : Nat), ¬ (s.toNat &&& t = s.toNat) → wyF code g s N x v t = v := fun _ _ h => if_neg (fun h2 => h h2.2.1)
theorem wyF_N {code : Nat → Int} {g s N x : Int} : ∀ v (t : Nat), N ≤ t → wyF code g s N x v t = v := fun _ _ h => if_neg (fun h2 => by have := h2.1; omega)
/-- REACHED -/
def RC (code : Nat → Int) (g : Int) (t : Nat) : Prop := t = 0 ∨ (¬ code t = -1 ∧ i_and t g = 0)
def rcF (code : Nat → Int) (g : Int) (v : Int) (t : Nat) : Int := if t = 0 ∨ (¬ code t = -1 ∧ i_and t g = 0) then v + 1 else v
theorem rcF_1 {code : Nat → Int} {g v : Int} {t : Nat} (h : RC code g t) : rcF code g v t = v + 1 := if_pos h
theorem rcF_0 {code : Nat → Int} {g v : Int} {t : Nat} (h : ¬ RC code g t) : rcF code g v t = v := if_neg h
/-- READ and REACHED -/
def RR7 (code : Nat → Int) (g N : Int) (t : Nat) : Prop := (t : Int) < N ∧ ¬ code t = -1 ∧ i_and t g = 0
theorem RR7_RC {code : Nat → Int} {g N : Int} {t : Nat} (h : (t : Int) < N) : RR7 code g N t ↔ (¬ code t = -1 ∧ RC code g t) := by
  unfold RR7 RC
  constructor
  · intro h1
    exact ⟨h1.2.1, Or.inr h1.2⟩
  · intro h1
    refine ⟨h, h1.1, ?_⟩
    rcases h1.2 with rfl | h2
    · exact zand_i g
    · exact h2.2
def mbF (code : Nat → Int) (g s N m : Int) (v : Int) (t : Nat) : Int := if (t : Int) < N ∧ s.toNat &&& t = s.toNat ∧ ¬ code t = -1 ∧ i_and t g = 0 ∧ pcn (t ^^^ s.toNat) ≤ m then i_or v (i_shl 1 (code t)) else v
theorem mbF_n {code : Nat → Int} {g s N m : Int} : ∀ v (t : Nat), ¬ (s.toNat &&& t = s.toNat) → mbF code g s N m v t = v := fun _ _ h => if_neg (fun h2 => h h2.2.1)
theorem mbF_N {code : Nat → Int} {g s N m : Int} : ∀ v (t : Nat), N ≤ t → mbF code g s N m v t = v := fun _ _ h => if_neg (fun h2 => by have := h2.1; omega)
/-- the NEWS of a STATE as a bit -/
def nbT (code : Nat → Int) (g : Int) (t : Int) : Int := if ¬ code t.toNat = -1 ∧ i_and t g = 0 then i_shl 1 (code t.toNat) else 0
/-! SAFE -/
def UN (code : Nat → Int) (g N : Int) (s t : Nat) : Prop := RR7 code g N s ∧ RR7 code g N t ∧ ¬ code s = code t
def DD (s t : Nat) : Int := max (pcn (df s t)) (pcn (df t s))
theorem DD_c (s t : Nat) : DD s t = DD t s := by
  unfold DD
  omega
theorem UN_c {code : Nat → Int} {g N : Int} {s t : Nat} (h : UN code g N s t) : UN code g N t s := ⟨h.2.1, h.1, fun h2 => h.2.2 h2.symm⟩
def SFE (code : Nat → Int) (g N v : Int) : Prop := v ≤ 8 ∧ (∀ s t, UN code g N s t → v + 1 ≤ DD s t) ∧ (v = 8 ∨ ∃ s t, UN code g N s t ∧ DD s t ≤ v + 1)
/-! NEWS as bits -/
def BT (code : Nat → Int) (Q : Nat → Prop) (v : Int) : Prop := (0 ≤ v ∧ v < 256) ∧ ∀ x : Nat, x < 8 → (v.toNat.testBit x = true ↔ ∃ t, Q t ∧ code t = (x : Int))
theorem BT_cg {code : Nat → Int} {Q P : Nat → Prop} {v : Int} (h : BT code Q v) (h1 : ∀ t, Q t ↔ P t) : BT code P v :=
  ⟨h.1, fun x hx => ⟨fun g => let ⟨t, a, b⟩ := (h.2 x hx).mp g; ⟨t, (h1 t).mp a, b⟩, fun ⟨t, a, b⟩ => (h.2 x hx).mpr ⟨t, (h1 t).mpr a, b⟩⟩⟩
theorem BT_0 {code : Nat → Int} {Q : Nat → Prop} (h : ∀ t, ¬ Q t) : BT code Q 0 := by
  refine ⟨by omega, fun x _ => ⟨fun g => ?_, fun ⟨t, a, _⟩ => absurd a (h t)⟩⟩
  rw [show (0 : Int).toNat = 0 from rfl, Nat.zero_testBit] at g
  cases g
theorem BT_or {code : Nat → Int} {Q P : Nat → Prop} {v w : Int} (h : BT code Q v) (k : BT code P w) : BT code (fun t => Q t ∨ P t) (i_or v w) := by
  obtain ⟨⟨h0, h1⟩, h2⟩ := h
  obtain ⟨⟨k0, k1⟩, k2⟩ := k
  have e := i_or_N (a := v.toNat) (b := w.toNat) (by omega) (by omega)
  rw [show ((v.toNat : Nat) : Int) = v by omega, show ((w.toNat : Nat) : Int) = w by omega] at e
  refine ⟨i_or_256 h0 h1 k0 k1, fun x hx => ?_⟩
  rw [e, Int.toNat_natCast, Nat.testBit_or, Bool.or_eq_true, h2 x hx, k2 x hx]
  constructor
  · rintro (⟨t, a, b⟩ | ⟨t, a, b⟩)
    · exact ⟨t, Or.inl a, b⟩
    · exact ⟨t, Or.inr a, b⟩
  · rintro ⟨t, a | a, b⟩
    · exact Or.inl ⟨t, a, b⟩
    · exact Or.inr ⟨t, a, b⟩
theorem shl_tb {c : Int} (h0 : 0 ≤ c) (h1 : c < 8) : (0 ≤ i_shl 1 c ∧ i_shl 1 c < 256) ∧ ∀ x : Nat, x < 8 → ((i_shl 1 c).toNat.testBit x = true ↔ c = (x : Int)) := by
  have h : ∀ c : Fin 8, (0 ≤ i_shl 1 ((c.val : Nat) : Int) ∧ i_shl 1 ((c.val : Nat) : Int) < 256) ∧ ∀ x : Fin 8, ((i_shl 1 ((c.val : Nat) : Int)).toNat.testBit x.val = true ↔ c = x) := by decide +kernel
  have h2 := h ⟨c.toNat, by omega⟩
  rw [show (((⟨c.toNat, by omega⟩ : Fin 8).val : Nat) : Int) = c by show ((c.toNat : Nat) : Int) = c; omega] at h2
  refine ⟨h2.1, fun x hx => ?_⟩
  rw [h2.2 ⟨x, hx⟩, Fin.ext_iff]
  show c.toNat = x ↔ _
  omega
theorem BT_1 {code : Nat → Int} {u : Nat} (h0 : 0 ≤ code u) (h1 : code u < 8) : BT code (fun t => t = u) (i_shl 1 (code u)) := by
  have h := shl_tb h0 h1
  refine ⟨h.1, fun x hx => ?_⟩
  rw [h.2 x hx]
  constructor
  · intro e
    exact ⟨u, rfl, e⟩
  · rintro ⟨t, rfl, e⟩
    exact e
theorem pc_2 {v : Int} (h0 : 0 ≤ v) (h1 : v < 256) : 1 < bc v ↔ ∃ x y : Nat, x < 8 ∧ y < 8 ∧ ¬ x = y ∧ v.toNat.testBit x = true ∧ v.toNat.testBit y = true := by
  have h : ∀ n : Fin 256, (1 < bc ((n.val : Nat) : Int) ↔ ∃ x y : Fin 8, ¬ x = y ∧ n.val.testBit x.val = true ∧ n.val.testBit y.val = true) := by decide +kernel
  have h2 := h ⟨v.toNat, by omega⟩
  rw [show (((⟨v.toNat, by omega⟩ : Fin 256).val : Nat) : Int) = v by show ((v.toNat : Nat) : Int) = v; omega] at h2
  rw [h2]
  constructor
  · rintro ⟨x, y, a, b, c⟩
    exact ⟨x.val, y.val, x.isLt, y.isLt, fun e => a (Fin.ext e), b, c⟩
  · rintro ⟨x, y, hx, hy, a, b, c⟩
    exact ⟨⟨x, hx⟩, ⟨y, hy⟩, fun e => a (Fin.ext_iff.mp e), b, c⟩
/-- two NEWS among them -/
theorem BT_2 {code : Nat → Int} {Q : Nat → Prop} {v : Int} (h : BT code Q v) (hr : ∀ t, Q t → 0 ≤ code t ∧ code t < 8) : 1 < bc v ↔ ∃ s t, Q s ∧ Q t ∧ ¬ code s = code t := by
  rw [pc_2 h.1.1 h.1.2]
  constructor
  · rintro ⟨x, y, hx, hy, a, b, c⟩
    obtain ⟨s, s1, s2⟩ := (h.2 x hx).mp b
    obtain ⟨t, t1, t2⟩ := (h.2 y hy).mp c
    exact ⟨s, t, s1, t1, by omega⟩
  · rintro ⟨s, t, hs, ht, a⟩
    have hs2 := hr s hs
    have ht2 := hr t ht
    exact ⟨(code s).toNat, (code t).toNat, by omega, by omega, by omega, (h.2 _ (by omega)).mpr ⟨s, hs, by omega⟩, (h.2 _ (by omega)).mpr ⟨t, ht, by omega⟩⟩
/-- REACHED and READ with all that is seen -/
def SN (code : Nat → Int) (g a N : Int) (t : Nat) : Prop := RR7 code g N t ∧ a.toNat &&& t = a.toNat
def FDt (code : Nat → Int) (g a N v : Int) : Prop := (0 ≤ v ∧ v ≤ 9) ∧ (v ≤ 8 → ∃ s t, SN code g a N s ∧ SN code g a N t ∧ ¬ code s = code t ∧ pcn (s ^^^ a.toNat) ≤ v ∧ pcn (t ^^^ a.toNat) ≤ v) ∧ (∀ s t, SN code g a N s → SN code g a N t → ¬ code s = code t → v ≤ max (pcn (s ^^^ a.toNat)) (pcn (t ^^^ a.toNat)))
/-- SAFE by what is seen below q -/
def SFq (code : Nat → Int) (g N q v : Int) : Prop := v ≤ 8 ∧ (∀ s t, UN code g N s t → ((s &&& t : Nat) : Int) < q → v + 1 ≤ DD s t) ∧ (v = 8 ∨ ∃ s t, UN code g N s t ∧ DD s t ≤ v + 1)
theorem SFq_0 {code : Nat → Int} {g N : Int} : SFq code g N 0 8 := ⟨by omega, fun s t _ h => absurd h (by omega), Or.inl rfl⟩
theorem SFq_s {code : Nat → Int} {g N q v w : Int} (h : SFq code g N q v) (k : FDt code g q N w) (hq : 0 ≤ q) : SFq code g N (q + 1) (min v (w - 1)) := by
  obtain ⟨h1, h2, h3⟩ := h
  obtain ⟨k1, k2, k3⟩ := k
  refine ⟨by omega, fun s t hu hlt => ?_, ?_⟩
  · by_cases g1 : ((s &&& t : Nat) : Int) < q
    · have := h2 s t hu g1
      omega
    · have e : q.toNat = s &&& t := by omega
      have a1 : (s &&& t) &&& s = s &&& t := by
        rw [Nat.and_comm s t, Nat.and_assoc, Nat.and_self]
      have a2 : (s &&& t) &&& t = s &&& t := by rw [Nat.and_assoc, Nat.and_self]
      have := k3 s t ⟨hu.1, by rw [e]; exact a1⟩ ⟨hu.2.1, by rw [e]; exact a2⟩ hu.2.2
      rw [e] at this
      have e2 : DD s t = max (pcn (s ^^^ (s &&& t))) (pcn (t ^^^ (s &&& t))) := by
        unfold DD df
        rw [Nat.and_comm t s]
      omega
  · by_cases g1 : v ≤ w - 1
    · rw [show min v (w - 1) = v by omega]
      exact h3
    · right
      obtain ⟨s, t, s1, t1, n1, p1, p2⟩ := k2 (by omega)
      refine ⟨s, t, ⟨s1.1, t1.1, n1⟩, ?_⟩
      have d1 := df_le s1.2 t1.2
      have d2 := df_le t1.2 s1.2
      unfold DD
      omega
theorem SFq_e {code : Nat → Int} {g N v : Int} (h : SFq code g N N v) : SFE code g N v := by
  obtain ⟨h1, h2, h3⟩ := h
  refine ⟨h1, fun s t hu => h2 s t hu ?_, h3⟩
  have h4 : s &&& t ≤ s := Nat.and_le_left
  have h5 := hu.1.1
  omega
