/-! A small typed world over the kit's: ints and longs are whole numbers, cells are numbered from the start of the law on. -/
abbrev aV : Type := Int ⊕ Int ⊕ Option Nat ⊕ Nat
abbrev kI (x : Int) : aV := Sum.inl x
abbrev kL (x : Int) : aV := Sum.inr (Sum.inl x)
abbrev kR (r : Option Nat) : aV := Sum.inr (Sum.inr (Sum.inl r))
abbrev kS (n : Nat) : aV := Sum.inr (Sum.inr (Sum.inr n))
abbrev aI1 : Type := Nat → Nat → Int
abbrev aR1 : Type := Nat → Nat → Option Nat
abbrev aS1 : Type := List (Nat × Nat)
/-- where the cells begin; classes' numbers, slots; array classes; String constants -/
abbrev aEn : Type := Nat × (Nat → ClassId) × (Nat → Nat → Nat) × (Nat → ClassId) × (Nat → Nat) × (Nat → Nat)
def w32 (x : Int) : Int := (Int32.ofInt x).toInt
def w64 (x : Int) : Int := (Int64.ofInt x).toInt
def aC (E : aEn) : aV → Value
  | .inl x => .int (Int32.ofInt x)
  | .inr (.inl x) => .long (Int64.ofInt x)
  | .inr (.inr (.inl none)) => .null
  | .inr (.inr (.inl (some k))) => .ref (E.1 + k)
  | .inr (.inr (.inr s)) => .ref (E.2.2.2.2.1 s)
theorem aC_I (E : aEn) (x : Int) : aC E (kI x) = .int (Int32.ofInt x) := rfl
theorem aC_L (E : aEn) (x : Int) : aC E (kL x) = .long (Int64.ofInt x) := rfl
theorem aC_R (E : aEn) (k : Nat) : aC E (kR (some k)) = .ref (E.1 + k) := rfl
theorem aC_rf (E : aEn) (r : Option Nat) : aC E (kR r) = va_rf (r.map (E.1 + ·)) := by cases r <;> rfl
/-- classes: how many fields, of which types -/
def aN : Nat → Nat := fun ci => match ci with
  | 0 => 2 | 1 => 12 | 2 => 6 | 3 => 8 | 4 => 13 | 5 => 2 | 6 => 3 | 7 => 12 | 8 => 2 | 9 => 2 | 10 => 17 | _ => 42
def aTy : Nat → Nat → FieldType := fun ci => match ci with
  | 0 => tyX0 | 1 => tyX1 | 2 => tyX2 | 3 => tyX3 | 4 => tyX4 | 5 => tyX5 | 6 => tyX6 | 7 => tyX7 | 8 => tyX8 | 9 => tyX9 | 10 => tyX10 | _ => tyX11
/-- what a field holds -/
def aFv (E : aEn) (Ir Jr : Nat → Int) (Rr : Nat → Option Nat) (ty : FieldType) (j : Nat) : Value := match ty with
  | .long => .long (Int64.ofInt (Jr j))
  | .object _ => va_rf ((Rr j).map (E.1 + ·))
  | .array _ => va_rf ((Rr j).map (E.1 + ·))
  | _ => .int (Int32.ofInt (Ir j))
def aFs (E : aEn) (Ir Jr : Nat → Int) (Rr : Nat → Option Nat) (ci : Nat) : List Value := (List.range (aN ci)).map (fun j => aFv E Ir Jr Rr (aTy ci j) j)
/-- a cell by its shape: 0 int[], 1 long[], 2 byte[], 3 boolean[], 4 Law[], 5 Coast[], 6 + c an object of class c -/
def aE (E : aEn) (Ir Jr : Nat → Int) (Rr : Nat → Option Nat) (sh : Nat × Nat) : va_E := match sh.1 with
  | 0 => .inl (E.2.2.2.1 0, sh.2, .inl (fun j => Int32.ofInt (Ir j)))
  | 1 => .inl (E.2.2.2.1 1, sh.2, .inr (.inl (fun j => Int64.ofInt (Jr j))))
  | 2 => .inl (E.2.2.2.1 2, sh.2, .inl (fun j => Int32.ofInt (Ir j)))
  | 3 => .inl (E.2.2.2.1 3, sh.2, .inl (fun j => Int32.ofInt (Ir j)))
  | 4 => .inl (E.2.2.2.1 4, sh.2, .inr (.inr (.inr (.inr (fun j => (Rr j).map (E.1 + ·))))))
  | 5 => .inl (E.2.2.2.1 5, sh.2, .inr (.inr (.inr (.inr (fun j => (Rr j).map (E.1 + ·))))))
  | c + 6 => .inr (c, aFs E Ir Jr Rr c)
def aW (E : aEn) (I J : aI1) (R : aR1) (S : aS1) : va_W := (List.range S.length).map (fun k => (E.1 + k, aE E (I k) (J k) (R k) (S.getD k (0, 0))))
def aTys (E : aEn) : List (ClassId × FieldType) := [(E.2.2.2.1 0, .int), (E.2.2.2.1 1, .long), (E.2.2.2.1 2, .byte), (E.2.2.2.1 3, .boolean), (E.2.2.2.1 4, .object "LitCoast$Law"), (E.2.2.2.1 5, .object "LitCoast$Coast")]
/-- a change of one place -/
def up1 {α : Type} (f : Nat → α) (j : Nat) (v : α) : Nat → α := fun b => if b = j then v else f b
def up2 {α : Type} (F : Nat → Nat → α) (k j : Nat) (v : α) : Nat → Nat → α := fun a => if a = k then up1 (F k) j v else F a
/-- a change of a whole row -/
def upR {α : Type} (F : Nat → Nat → α) (k : Nat) (f : Nat → α) : Nat → Nat → α := fun a => if a = k then f else F a
theorem up1_s {α : Type} (f : Nat → α) (j : Nat) (v : α) : up1 f j v j = v := if_pos rfl
theorem up1_n {α : Type} (f : Nat → α) {j b : Nat} (v : α) (h : b ≠ j) : up1 f j v b = f b := if_neg h
theorem up2_row {α : Type} (F : Nat → Nat → α) (k j : Nat) (v : α) : up2 F k j v k = up1 (F k) j v := if_pos rfl
theorem up2_off {α : Type} (F : Nat → Nat → α) {k a : Nat} (j : Nat) (v : α) (h : a ≠ k) : up2 F k j v a = F a := if_neg h
theorem up2_s {α : Type} (F : Nat → Nat → α) (k j : Nat) (v : α) : up2 F k j v k j = v := by rw [up2_row, up1_s]
theorem up2_n {α : Type} (F : Nat → Nat → α) {k a j b : Nat} (v : α) (h : a ≠ k ∨ b ≠ j) : up2 F k j v a b = F a b := by
  by_cases ha : a = k
  · subst ha
    rw [up2_row, up1_n _ _ (h.resolve_left (fun q => q rfl))]
  · rw [up2_off _ _ _ ha]
theorem upR_s {α : Type} (F : Nat → Nat → α) (k : Nat) (f : Nat → α) : upR F k f k = f := if_pos rfl
theorem upR_n {α : Type} (F : Nat → Nat → α) {k a : Nat} (f : Nat → α) (h : a ≠ k) : upR F k f a = F a := if_neg h
theorem aW_len (E : aEn) (I J : aI1) (R : aR1) (S : aS1) : (aW E I J R S).length = S.length := by simp [aW]
theorem aW_at (E : aEn) (I J : aI1) (R : aR1) {S : aS1} {k : Nat} {sh : Nat × Nat} (h : S[k]? = some sh) : (aW E I J R S)[k]? = some (E.1 + k, aE E (I k) (J k) (R k) sh) := by
  have hk : k < S.length := (List.getElem?_eq_some_iff.mp h).1
  have hg : S[k] = sh := (List.getElem?_eq_some_iff.mp h).2
  simp [aW, hk, hg]
theorem aW_of {E : aEn} {I J : aI1} {R : aR1} {S : aS1} {k : Nat} {q : Nat × va_E} (h : (aW E I J R S)[k]? = some q) : ∃ sh, S[k]? = some sh ∧ q = (E.1 + k, aE E (I k) (J k) (R k) sh) := by
  have hk : k < S.length := by rw [← aW_len E I J R S]; exact (List.getElem?_eq_some_iff.mp h).1
  have hs : S[k]? = some S[k] := List.getElem?_eq_getElem hk
  refine ⟨S[k], hs, ?_⟩
  rw [aW_at E I J R hs] at h
  exact (Option.some.inj h).symm
theorem aW_D (E : aEn) (I J : aI1) (R : aR1) (S : aS1) : va_D (fun q => E.1 ≤ q) (aW E I J R S) := by
  refine ⟨fun i j p q hi hj hpq => ?_, fun k q hk => ?_⟩
  · obtain ⟨_, -, rfl⟩ := aW_of hi
    obtain ⟨_, -, rfl⟩ := aW_of hj
    have : E.1 + i = E.1 + j := hpq
    omega
  · obtain ⟨_, -, rfl⟩ := aW_of hk
    exact Nat.le_add_right _ _
/-- one cell's rows change -/
theorem aW_set (E : aEn) {I J I' J' : aI1} {R R' : aR1} {S : aS1} {k : Nat} {sh : Nat × Nat} (hs : S[k]? = some sh) (hI : ∀ a, a ≠ k → I' a = I a) (hJ : ∀ a, a ≠ k → J' a = J a) (hR : ∀ a, a ≠ k → R' a = R a) :
    (aW E I J R S).set k (E.1 + k, aE E (I' k) (J' k) (R' k) sh) = aW E I' J' R' S := by
  apply List.ext_getElem?
  intro i
  have hk : k < S.length := (List.getElem?_eq_some_iff.mp hs).1
  by_cases hi : i = k
  · subst hi
    rw [List.getElem?_set_self (by rw [aW_len]; exact hk), aW_at E I' J' R' hs]
  · rw [List.getElem?_set_ne (Ne.symm hi)]
    by_cases hl : i < S.length
    · have h1 : S[i]? = some S[i] := List.getElem?_eq_getElem hl
      rw [aW_at E I J R h1, aW_at E I' J' R' h1, hI i hi, hJ i hi, hR i hi]
    · rw [List.getElem?_eq_none (by rw [aW_len]; omega), List.getElem?_eq_none (by rw [aW_len]; omega)]
theorem aW_setP {E : aEn} {D : va_G} {cl : List vw_C} {I J I' J' : aI1} {R R' : aR1} {S : aS1} {k : Nat} {sh : Nat × Nat} {H H1 : Heap} (hP : va_P D cl (aW E I J R S) H) (hs : S[k]? = some sh) (hI : ∀ a, a ≠ k → I' a = I a) (hJ : ∀ a, a ≠ k → J' a = J a) (hR : ∀ a, a ≠ k → R' a = R a)
    (he : va_at D cl (E.1 + k, aE E (I' k) (J' k) (R' k) sh) H1) (oq : ∀ q : Nat, q ≠ E.1 + k → H1[q]? = H[q]?) : va_P D cl (aW E I' J' R' S) H1 := by
  rw [← aW_set E hs hI hJ hR]
  exact hP.set (aW_D E I J R S) (aW_at E I J R hs) he oq
/-- one cell more -/
theorem aW_push (E : aEn) {I J I' J' : aI1} {R R' : aR1} {S : aS1} {sh : Nat × Nat} (hI : ∀ a, a ≠ S.length → I' a = I a) (hJ : ∀ a, a ≠ S.length → J' a = J a) (hR : ∀ a, a ≠ S.length → R' a = R a) :
    aW E I J R S ++ [(E.1 + S.length, aE E (I' S.length) (J' S.length) (R' S.length) sh)] = aW E I' J' R' (S ++ [sh]) := by
  apply List.ext_getElem?
  intro i
  by_cases hl : i < S.length
  · have h1 : S[i]? = some S[i] := List.getElem?_eq_getElem hl
    have h2 : (S ++ [sh])[i]? = some S[i] := by rw [List.getElem?_append_left hl]; exact h1
    rw [List.getElem?_append_left (by rw [aW_len]; exact hl), aW_at E I J R h1, aW_at E I' J' R' h2, hI i (by omega), hJ i (by omega), hR i (by omega)]
  · by_cases he : i = S.length
    · subst he
      have h2 : (S ++ [sh])[S.length]? = some sh := by simp
      rw [List.getElem?_append_right (by rw [aW_len]; exact Nat.le_refl _), aW_len, Nat.sub_self, aW_at E I' J' R' h2]
      rfl
    · rw [List.getElem?_eq_none (by simp [aW_len]; omega), List.getElem?_eq_none (by simp [aW_len]; omega)]
/-! numbers -/
theorem w32_bmod (x : Int) : w32 x = x.bmod 4294967296 := by simp [w32, Int32.toInt_ofInt]
theorem w32_id {x : Int} (h1 : -2147483648 ≤ x) (h2 : x < 2147483648) : w32 x = x := by
  rw [w32_bmod, Int.bmod_eq_of_le (by omega) (by omega)]
theorem w32_r (x : Int) : -2147483648 ≤ w32 x ∧ w32 x < 2147483648 := by
  have h1 := Int.le_bmod (x := x) (m := 4294967296) (by decide)
  have h2 := Int.bmod_lt (x := x) (m := 4294967296) (by decide)
  rw [w32_bmod]
  omega
theorem w64_bmod (x : Int) : w64 x = x.bmod 18446744073709551616 := by simp [w64, Int64.toInt_ofInt]
theorem w64_id {x : Int} (h1 : -9223372036854775808 ≤ x) (h2 : x < 9223372036854775808) : w64 x = x := by
  rw [w64_bmod, Int.bmod_eq_of_le (by omega) (by omega)]
theorem w64_r (x : Int) : -9223372036854775808 ≤ w64 x ∧ w64 x < 9223372036854775808 := by
  have h1 := Int.le_bmod (x := x) (m := 18446744073709551616) (by decide)
  have h2 := Int.bmod_lt (x := x) (m := 18446744073709551616) (by decide)
  rw [w64_bmod]
  omega
theorem n_lt (a b : Int) : Int32.ofInt a < Int32.ofInt b ↔ w32 a < w32 b := Int32.lt_iff_toInt_lt
theorem n_le (a b : Int) : Int32.ofInt a ≤ Int32.ofInt b ↔ w32 a ≤ w32 b := Int32.le_iff_toInt_le
theorem n_eq (a b : Int) : Int32.ofInt a = Int32.ofInt b ↔ w32 a = w32 b := Int32.toInt_inj.symm
theorem n_lt0 (a : Int) : Int32.ofInt a < 0 ↔ w32 a < 0 := Int32.lt_iff_toInt_lt
theorem n_le0 (a : Int) : Int32.ofInt a ≤ 0 ↔ w32 a ≤ 0 := Int32.le_iff_toInt_le
theorem n_0lt (a : Int) : 0 < Int32.ofInt a ↔ 0 < w32 a := Int32.lt_iff_toInt_lt
theorem n_0le (a : Int) : 0 ≤ Int32.ofInt a ↔ 0 ≤ w32 a := Int32.le_iff_toInt_le
theorem n_eq0 (a : Int) : Int32.ofInt a = 0 ↔ w32 a = 0 := Int32.toInt_inj.symm
theorem n_of (x : Int32) : Int32.ofInt x.toInt = x := Int32.ofInt_toInt x
theorem n_of64 (x : Int64) : Int64.ofInt x.toInt = x := Int64.ofInt_toInt x
theorem n_lt64 (a b : Int) : Int64.ofInt a < Int64.ofInt b ↔ w64 a < w64 b := Int64.lt_iff_toInt_lt
theorem n_eq64 (a b : Int) : Int64.ofInt a = Int64.ofInt b ↔ w64 a = w64 b := Int64.toInt_inj.symm
theorem n_eq064 (a : Int) : Int64.ofInt a = 0 ↔ w64 a = 0 := Int64.toInt_inj.symm
theorem n_in {x : Int} {n : Nat} (h0 : 0 ≤ x) (h1 : x < n) (hn : n < 2147483648) : vp_in (Int32.ofInt x) n ∧ (Int32.ofInt x).toNatClampNeg = x.toNat := by
  have e : (Int32.ofInt x).toInt = x := w32_id (by omega) (by omega)
  refine ⟨vp_in_iff.mpr ⟨by rw [e]; exact h0, by rw [e]; exact h1⟩, ?_⟩
  show (Int32.ofInt x).toInt.toNat = x.toNat
  rw [e]
/-! the machine's own words on numbers -/
def i_and (a b : Int) : Int := (Int32.ofInt a &&& Int32.ofInt b).toInt
def i_or (a b : Int) : Int := (Int32.ofInt a ||| Int32.ofInt b).toInt
def i_xor (a b : Int) : Int := (Int32.ofInt a ^^^ Int32.ofInt b).toInt
def i_shl (a b : Int) : Int := (Int32.ofInt a <<< (Int32.ofInt b &&& 31)).toInt
def i_shr (a b : Int) : Int := (Int32.ofInt a >>> (Int32.ofInt b &&& 31)).toInt
def i_ushr (a b : Int) : Int := ((Int32.ofInt a).toUInt32 >>> ((Int32.ofInt b).toUInt32 &&& Int32.toUInt32 31)).toInt32.toInt
def i_div (a b : Int) : Int := (Int32.ofInt a / Int32.ofInt b).toInt
def i_rem (a b : Int) : Int := (Int32.ofInt a - Int32.ofInt a / Int32.ofInt b * Int32.ofInt b).toInt
def l_div (a b : Int) : Int := (Int64.ofInt a / Int64.ofInt b).toInt
def l_rem (a b : Int) : Int := (Int64.ofInt a - Int64.ofInt a / Int64.ofInt b * Int64.ofInt b).toInt
def l_cmp (a b : Int) : Int := if w64 a < w64 b then -1 else if w64 a = w64 b then 0 else 1
def i_b (a : Int) : Int := (Int32.ofInt a).toInt8.toInt32.toInt
def i_c (a : Int) : Int := ((Int32.ofInt a).toUInt32 % 65536).toInt32.toInt
