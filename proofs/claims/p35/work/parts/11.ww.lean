def aTb : List Cond := lw_tbl.filter goodWord
def strTab : List (Nat × Nat × String) := [(0, 154, "reads"), (1, 160, "if"), (2, 162, "or"), (3, 164, "and"), (4, 166, "not"), (5, 171, "state"), (6, 173, "lit"), (7, 175, "sum"), (8, 177, "mix"), (9, 179, "first"), (10, 181, "last"), (11, 183, "lamps"), (12, 185, "news")]
def strLen : List Nat := [5, 2, 2, 3, 3, 5, 3, 3, 3, 5, 4, 5, 4]
def strByt : List (List Int32) := [[114, 101, 97, 100, 115], [105, 102], [111, 114], [97, 110, 100], [110, 111, 116], [115, 116, 97, 116, 101], [108, 105, 116], [115, 117, 109], [109, 105, 120], [102, 105, 114, 115, 116], [108, 97, 115, 116], [108, 97, 109, 112, 115], [110, 101, 119, 115]]
def nestTab : List (Nat × String) := [(22, "LitCoast$Tape"), (38, "LitCoast$Asker"), (70, "LitCoast$CodeSearch")]
def aNst (U : State) : Prop := va_AO "LitCoast$Law" U ∧ va_AO "LitCoast$Coast" U ∧ (∀ q ∈ nestTab, va_Nw (.methodLinkNest "LitCoast" q.1 ⟨q.2, "<init>", "()V"⟩ "LitCoast") U) ∧ va_Nw (.castable "[I" "java/lang/Cloneable") U
/-- what stands in the heap from before: the String constants; and words that aren't in aTb -/
def aStr (E : aEn) (U : State) : Prop := (∀ q ∈ strTab, vk_R "LitCoast$LawReader" q.2.1 q.2.2 (E.2.2.2.2.1 q.1) U) ∧ vk_S 13 strLen strByt E.2.2.2.2.1 (fun i => E.2.2.2.2.1 (100 + i)) (fun q => E.1 ≤ q) U U.heap ∧ va_Z "java/lang/String" "COMPACT_STRINGS" "Z" (.int 1) (fun q => E.1 ≤ q) U U.heap ∧ (va_Z "jdk/internal/util/Preconditions" "SIOOBE_FORMATTER" "Ljava/util/function/BiFunction;" .null (fun q => E.1 ≤ q) U U.heap ∨ va_Z "jdk/internal/util/Preconditions" "SIOOBE_FORMATTER" "Ljava/util/function/BiFunction;" (.ref (E.2.2.2.2.1 200)) (fun q => E.1 ≤ q) U U.heap) ∧ aNst U
/-- locals: by place, those that are known -/
def aL (E : aEn) (ls : Array Slot) (nL : Nat) (lv : List (Option aV)) : Prop := ls.size = nL ∧ lv_wf ls ∧ ∀ (i : Nat) (v : aV), lv[i]? = some (some v) → ls[i]? = some (.val (aC E v))
abbrev aX : Type := Program × Launch × Env × Room × State × MethodId × Array Value × List Frame × Method × Code × (State → Prop) × aEn
def WW (X : aX) (pc : Nat) (lv : List (Option aV)) (st : List aV) (I J : aI1) (R : aR1) (S : aS1) (uc us : Nat) : Prop := match X with
  | (p, l, e, Rm, s, m, args, below, meth, c, Q, E) => ∀ (H : Heap) (locs : List Loc) (ls : Array Slot), va_P (E.2.1, E.2.2.1) vwCl (aW E I J R S) H → va_S (fun q => E.1 ≤ q) s.heap H locs → H.size = E.1 + S.length → aL E ls c.maxLocals lv → W p l e Rm s m args below meth c H locs uc us Q (F0 m pc ls (st.map (aC E)))
def aK (l0 : Launch) (X : aX) (cc : ByteArray) (nL : Nat) (own : String) (rt : Option FieldType) (d mc ms : Nat) : Prop := match X with
  | (p, l, e, Rm, s, m, args, below, meth, c, Q, E) => l = l0 ∧ p.tables.exec = Jvm.exec ∧ c.code = cc ∧ meth.sig.returnType = rt ∧ c.maxLocals = nL ∧ s.vm.findClass own = some m.cls ∧ (∀ w ∈ aTb, w.before args s = true) ∧ meth.locks = false ∧ va_K (E.2.1, E.2.2.1) vwCl (aTys E) s ∧ E.1 ≤ s.heap.size ∧ (d ≤ Rm.frames ∧ 64 * d ≤ Rm.locals ∧ Rm.cells = mc ∧ Rm.slots = ms) ∧ aStr E s
/-- a method's end -/
def aQ (E : aEn) (post : Option aV → aI1 → aI1 → aR1 → aS1 → Prop) : Array Value → State → Outcome → State → Prop := fun _ st oc t => (∃ (r : Option aV) (I J : aI1) (R : aR1) (S : aS1), oc = .returned (r.map (aC E)) ∧ post r I J R S ∧ va_P (E.2.1, E.2.2.1) vwCl (aW E I J R S) t.heap ∧ t.heap.size = E.1 + S.length) ∧ va_F (fun q => E.1 ≤ q) st t
def aT (X : aX) (post : Option aV → aI1 → aI1 → aR1 → aS1 → Prop) (mc ms : Nat) : Prop := match X with
  | (p, l, e, Rm, s, m, args, below, meth, c, Q, E) => Q = MQ below (aQ E post) args s mc ms (fun q => E.1 ≤ q)
def aIn (X : aX) : Prop := match X with
  | (p, l, e, Rm, s, m, args, below, meth, c, Q, E) => meth.name = "<init>"
def aAs (E : aEn) (lv : List (Option aV)) : List (Nat × Value) := (List.range lv.length).filterMap (fun i => (lv.getD i none).map (fun v => (i, aC E v)))
theorem aAs_mem {E : aEn} {lv : List (Option aV)} {q : Nat × Value} : q ∈ aAs E lv ↔ ∃ v, lv[q.1]? = some (some v) ∧ q.2 = aC E v := by
  unfold aAs
  rw [List.mem_filterMap]
  constructor
  · rintro ⟨i, hi, h⟩
    obtain ⟨v, hv, rfl⟩ := Option.map_eq_some_iff.mp h
    refine ⟨v, ?_, rfl⟩
    rw [List.getD_eq_getElem?_getD] at hv
    have hl : i < lv.length := List.mem_range.mp hi
    rw [List.getElem?_eq_getElem hl] at hv ⊢
    exact congrArg some hv
  · rintro ⟨v, hv, h2⟩
    have hl : q.1 < lv.length := (List.getElem?_eq_some_iff.mp hv).1
    refine ⟨q.1, List.mem_range.mpr hl, ?_⟩
    rw [List.getD_eq_getElem?_getD, hv]
    obtain ⟨a, b⟩ := q
    simp only at h2
    subst h2
    rfl
theorem aL_has {E : aEn} {ls : Array Slot} {nL : Nat} {lv : List (Option aV)} (h : aL E ls nL lv) : lv_has ls nL (aAs E lv) := by
  refine ⟨h.1, h.2.1, fun q hq => ?_⟩
  obtain ⟨v, h1, h2⟩ := aAs_mem.mp hq
  rw [h2]
  exact h.2.2 _ _ h1
def aLong : Option (Option aV) → Bool
  | some (some (.inr (.inl _))) => true
  | _ => false
def aOk1 (lv : List (Option aV)) (i : Nat) : Bool := match i with
  | 0 => true
  | j + 1 => !aLong lv[j]?
theorem aC_cat (E : aEn) (v : aV) : (aC E v).category = 2 ↔ aLong (some (some v)) = true := by
  rcases v with x | x | x | x
  · simp [aC, aLong, Value.category]
  · simp [aC, aLong, Value.category]
  · cases x <;> simp [aC, aLong, Value.category]
  · simp [aC, aLong, Value.category]
theorem aL_put1 {E : aEn} {ls' : Array Slot} {nL : Nat} {lv : List (Option aV)} {i : Nat} {v : aV} (hok : aOk1 lv i = true)
    (h : lv_has ls' nL ((i, aC E v) :: (aAs E lv).filter (fun q => !(q.1 == i) && !(q.1 + 1 == i && q.2.category == 2)))) : aL E ls' nL (lv.set i (some v)) := by
  refine ⟨h.1, h.2.1, fun j w hj => ?_⟩
  by_cases hji : j = i
  · subst hji
    have hl : j < lv.length := by
      have := (List.getElem?_eq_some_iff.mp hj).1
      simpa using this
    rw [List.getElem?_set_self hl] at hj
    cases hj
    exact h.2.2 (j, aC E v) List.mem_cons_self
  · rw [List.getElem?_set_ne (Ne.symm hji)] at hj
    refine h.2.2 (j, aC E w) (List.mem_cons_of_mem _ (List.mem_filter.mpr ⟨aAs_mem.mpr ⟨w, hj, rfl⟩, ?_⟩))
    by_cases hj1 : j + 1 = i
    · subst hj1
      have hn : ¬ (aC E w).category = 2 := by
        rw [aC_cat]
        intro hc
        simp only [aOk1, hj] at hok
        rw [hc] at hok
        cases hok
      simp [hn]
    · simp [hji, hj1]
theorem aL_put2 {E : aEn} {ls' : Array Slot} {nL : Nat} {lv : List (Option aV)} {i : Nat} {v : aV} (hok : aOk1 lv i = true)
    (h : lv_has ls' nL ((i, aC E v) :: (aAs E lv).filter (fun q => !(q.1 == i) && (!(q.1 == i + 1) && !(q.1 + 1 == i && q.2.category == 2))))) : aL E ls' nL ((lv.set i (some v)).set (i + 1) none) := by
  refine ⟨h.1, h.2.1, fun j w hj => ?_⟩
  by_cases hj2 : j = i + 1
  · subst hj2
    by_cases hl : i + 1 < lv.length
    · rw [List.getElem?_set_self (by simpa using hl)] at hj
      cases hj
    · rw [List.getElem?_eq_none (by simp; omega)] at hj
      cases hj
  · rw [List.getElem?_set_ne (Ne.symm hj2)] at hj
    by_cases hji : j = i
    · subst hji
      have hl : j < lv.length := by
        have := (List.getElem?_eq_some_iff.mp hj).1
        simpa using this
      rw [List.getElem?_set_self hl] at hj
      cases hj
      exact h.2.2 (j, aC E v) List.mem_cons_self
    · rw [List.getElem?_set_ne (Ne.symm hji)] at hj
      refine h.2.2 (j, aC E w) (List.mem_cons_of_mem _ (List.mem_filter.mpr ⟨aAs_mem.mpr ⟨w, hj, rfl⟩, ?_⟩))
      by_cases hj1 : j + 1 = i
      · subst hj1
        have hn : ¬ (aC E w).category = 2 := by
          rw [aC_cat]
          intro hc
          simp only [aOk1, hj] at hok
          rw [hc] at hok
          cases hok
        simp [hn, hj2]
      · simp [hji, hj1, hj2]
/-- fewer known locals -/
def aLe : List (Option aV) → List (Option aV) → Prop
  | [], _ => True
  | none :: a, [] => aLe a []
  | none :: a, _ :: b => aLe a b
  | some v :: a, w :: b => w = some v ∧ aLe a b
  | some _ :: _, [] => False
theorem aLe_at : ∀ (a b : List (Option aV)), aLe a b → ∀ (i : Nat) (v : aV), a[i]? = some (some v) → b[i]? = some (some v)
  | [], _, _, i, v, h => by simp at h
  | none :: a, [], hh, i, v, h => by
    cases i with
    | zero => simp at h
    | succ i => exact absurd (aLe_at a [] hh i v (by simpa using h)) (by simp)
  | none :: a, _ :: b, hh, i, v, h => by
    cases i with
    | zero => simp at h
    | succ i =>
      rw [List.getElem?_cons_succ] at h ⊢
      exact aLe_at a b hh i v h
  | some u :: a, w :: b, hh, i, v, h => by
    cases i with
    | zero =>
      rw [List.getElem?_cons_zero] at h ⊢
      cases h
      exact congrArg some hh.1
    | succ i =>
      rw [List.getElem?_cons_succ] at h ⊢
      exact aLe_at a b hh.2 i v h
  | some _ :: _, [], hh, _, _, _ => hh.elim
section WWR
variable {l0 : Launch} {X : aX} {cc : ByteArray} {nL : Nat} {own : String} {rt : Option FieldType} {d mc ms : Nat} {pc : Nat} {lv : List (Option aV)} {st : List aV} {I J : aI1} {R : aR1} {S : aS1} {uc us : Nat}
theorem ww_sub (lv' : List (Option aV)) (h : aLe lv' lv) (k : WW X pc lv' st I J R S uc us) : WW X pc lv st I J R S uc us := by
  obtain ⟨p, l, e, Rm, s, m, args, below, meth, c, Q, E⟩ := X
  intro H locs ls hP hS hz hl
  exact k H locs ls hP hS hz ⟨hl.1, hl.2.1, fun i v hv => hl.2.2 i v (aLe_at _ _ h i v hv)⟩
theorem ww_iconst (hX : aK l0 X cc nL own rt d mc ms) {n x : Int} (hd : decode cc pc = .ok (.iconst n, 1)) (hv : n = x) (k : WW X (pc + 1) lv (kI x :: st) I J R S uc us) : WW X pc lv (st) I J R S uc us := by
  obtain ⟨p, l, e, Rm, s, m, args, below, meth, c, Q, E⟩ := X
  obtain ⟨hl0, hx, hb, hr, hml, hown, hts, hlocks, hK, hz0, hR, hStr⟩ := hX
  intro H locs ls hP hS hz hl
  exact lv_iconst (v := Int32.ofInt x) hx hb hd (by rw [hv]) (k H locs ls hP hS hz hl)
theorem ww_bipush (hX : aK l0 X cc nL own rt d mc ms) {n x : Int} (hd : decode cc pc = .ok (.bipush n, 2)) (hv : (Int8.ofInt n).toInt32 = Int32.ofInt x) (k : WW X (pc + 2) lv (kI x :: st) I J R S uc us) : WW X pc lv (st) I J R S uc us := by
  obtain ⟨p, l, e, Rm, s, m, args, below, meth, c, Q, E⟩ := X
  obtain ⟨hl0, hx, hb, hr, hml, hown, hts, hlocks, hK, hz0, hR, hStr⟩ := hX
  intro H locs ls hP hS hz hl
  exact lv_bipush (v := Int32.ofInt x) hx hb hd hv (k H locs ls hP hS hz hl)
theorem ww_sipush (hX : aK l0 X cc nL own rt d mc ms) {n x : Int} (hd : decode cc pc = .ok (.sipush n, 3)) (hv : (Int16.ofInt n).toInt32 = Int32.ofInt x) (k : WW X (pc + 3) lv (kI x :: st) I J R S uc us) : WW X pc lv (st) I J R S uc us := by
  obtain ⟨p, l, e, Rm, s, m, args, below, meth, c, Q, E⟩ := X
  obtain ⟨hl0, hx, hb, hr, hml, hown, hts, hlocks, hK, hz0, hR, hStr⟩ := hX
  intro H locs ls hP hS hz hl
  exact lv_sipush (v := Int32.ofInt x) hx hb hd hv (k H locs ls hP hS hz hl)
theorem ww_lconst (hX : aK l0 X cc nL own rt d mc ms) {n : Fin 2} {x : Int} (hd : decode cc pc = .ok (.lconst n, 1)) (hv : Int64.ofNat (n : Nat) = Int64.ofInt x) (k : WW X (pc + 1) lv (kL x :: st) I J R S uc us) : WW X pc lv (st) I J R S uc us := by
  obtain ⟨p, l, e, Rm, s, m, args, below, meth, c, Q, E⟩ := X
  obtain ⟨hl0, hx, hb, hr, hml, hown, hts, hlocks, hK, hz0, hR, hStr⟩ := hX
  intro H locs ls hP hS hz hl
  exact lv_lconst (v := Int64.ofInt x) hx hb hd hv (k H locs ls hP hS hz hl)
theorem ww_ldc (hX : aK l0 X cc nL own rt d mc ms) {n : Nat} {x : Int} (hd : decode cc pc = .ok (.ldc n, 2)) (hv : Cond.constant own n (Int32.ofInt x) ∈ aTb) (k : WW X (pc + 2) lv (kI x :: st) I J R S uc us) : WW X pc lv (st) I J R S uc us := by
  obtain ⟨p, l, e, Rm, s, m, args, below, meth, c, Q, E⟩ := X
  obtain ⟨hl0, hx, hb, hr, hml, hown, hts, hlocks, hK, hz0, hR, hStr⟩ := hX
  intro H locs ls hP hS hz hl
  exact lv_ldc (v := Int32.ofInt x) hx hb hown (hts _ hv) hd (k H locs ls hP hS hz hl)
theorem ww_ldcw (hX : aK l0 X cc nL own rt d mc ms) {n : Nat} {x : Int} (hd : decode cc pc = .ok (.ldc_w n, 3)) (hv : Cond.constant own n (Int32.ofInt x) ∈ aTb) (k : WW X (pc + 3) lv (kI x :: st) I J R S uc us) : WW X pc lv (st) I J R S uc us := by
  obtain ⟨p, l, e, Rm, s, m, args, below, meth, c, Q, E⟩ := X
  obtain ⟨hl0, hx, hb, hr, hml, hown, hts, hlocks, hK, hz0, hR, hStr⟩ := hX
  intro H locs ls hP hS hz hl
  exact lv_ldcw (v := Int32.ofInt x) hx hb hown (hts _ hv) hd (k H locs ls hP hS hz hl)
theorem ww_ldc2 (hX : aK l0 X cc nL own rt d mc ms) {n : Nat} {x : Int} (hd : decode cc pc = .ok (.ldc2_w n, 3)) (hv : Cond.constantLong own n (Int64.ofInt x) ∈ aTb) (k : WW X (pc + 3) lv (kL x :: st) I J R S uc us) : WW X pc lv (st) I J R S uc us := by
  obtain ⟨p, l, e, Rm, s, m, args, below, meth, c, Q, E⟩ := X
  obtain ⟨hl0, hx, hb, hr, hml, hown, hts, hlocks, hK, hz0, hR, hStr⟩ := hX
  intro H locs ls hP hS hz hl
  exact lv_ldc2 (v := Int64.ofInt x) hx hb hown (hts _ hv) hd (k H locs ls hP hS hz hl)
theorem ww_null (hX : aK l0 X cc nL own rt d mc ms) (hd : decode cc pc = .ok (.aconst_null, 1)) (k : WW X (pc + 1) lv (kR none :: st) I J R S uc us) : WW X pc lv (st) I J R S uc us := by
  obtain ⟨p, l, e, Rm, s, m, args, below, meth, c, Q, E⟩ := X
  obtain ⟨hl0, hx, hb, hr, hml, hown, hts, hlocks, hK, hz0, hR, hStr⟩ := hX
  intro H locs ls hP hS hz hl
  exact lv_null hx hb hd (k H locs ls hP hS hz hl)
theorem ww_iload_n (hX : aK l0 X cc nL own rt d mc ms) {n : Fin 4} {x : Int} (hd : decode cc pc = .ok (.iload_n n, 1)) (hv : lv[(n : Nat)]? = some (some (kI x))) (k : WW X (pc + 1) lv (kI x :: st) I J R S uc us) : WW X pc lv (st) I J R S uc us := by
  obtain ⟨p, l, e, Rm, s, m, args, below, meth, c, Q, E⟩ := X
  obtain ⟨hl0, hx, hb, hr, hml, hown, hts, hlocks, hK, hz0, hR, hStr⟩ := hX
  intro H locs ls hP hS hz hl
  exact lv_iload_n hx hb hd rfl (hl.2.2 _ _ hv) (k H locs ls hP hS hz hl)
theorem ww_iload (hX : aK l0 X cc nL own rt d mc ms) {n : Nat} {x : Int} (hd : decode cc pc = .ok (.iload n, 2)) (hv : lv[n]? = some (some (kI x))) (k : WW X (pc + 2) lv (kI x :: st) I J R S uc us) : WW X pc lv (st) I J R S uc us := by
  obtain ⟨p, l, e, Rm, s, m, args, below, meth, c, Q, E⟩ := X
  obtain ⟨hl0, hx, hb, hr, hml, hown, hts, hlocks, hK, hz0, hR, hStr⟩ := hX
  intro H locs ls hP hS hz hl
  exact lv_iload hx hb hd (hl.2.2 _ _ hv) (k H locs ls hP hS hz hl)
theorem ww_lload_n (hX : aK l0 X cc nL own rt d mc ms) {n : Fin 4} {x : Int} (hd : decode cc pc = .ok (.lload_n n, 1)) (hv : lv[(n : Nat)]? = some (some (kL x))) (k : WW X (pc + 1) lv (kL x :: st) I J R S uc us) : WW X pc lv (st) I J R S uc us := by
  obtain ⟨p, l, e, Rm, s, m, args, below, meth, c, Q, E⟩ := X
  obtain ⟨hl0, hx, hb, hr, hml, hown, hts, hlocks, hK, hz0, hR, hStr⟩ := hX
  intro H locs ls hP hS hz hl
  exact lv_lload_n hx hb hd rfl (hl.2.2 _ _ hv) (k H locs ls hP hS hz hl)
theorem ww_lload (hX : aK l0 X cc nL own rt d mc ms) {n : Nat} {x : Int} (hd : decode cc pc = .ok (.lload n, 2)) (hv : lv[n]? = some (some (kL x))) (k : WW X (pc + 2) lv (kL x :: st) I J R S uc us) : WW X pc lv (st) I J R S uc us := by
  obtain ⟨p, l, e, Rm, s, m, args, below, meth, c, Q, E⟩ := X
  obtain ⟨hl0, hx, hb, hr, hml, hown, hts, hlocks, hK, hz0, hR, hStr⟩ := hX
  intro H locs ls hP hS hz hl
  exact lv_lload hx hb hd (hl.2.2 _ _ hv) (k H locs ls hP hS hz hl)
theorem ww_aload_n (hX : aK l0 X cc nL own rt d mc ms) {n : Fin 4} {x : Nat} (hd : decode cc pc = .ok (.aload_n n, 1)) (hv : lv[(n : Nat)]? = some (some (kR (some x)))) (k : WW X (pc + 1) lv (kR (some x) :: st) I J R S uc us) : WW X pc lv (st) I J R S uc us := by
  obtain ⟨p, l, e, Rm, s, m, args, below, meth, c, Q, E⟩ := X
  obtain ⟨hl0, hx, hb, hr, hml, hown, hts, hlocks, hK, hz0, hR, hStr⟩ := hX
  intro H locs ls hP hS hz hl
  exact lv_aload_n hx hb hd rfl (hl.2.2 _ _ hv) (k H locs ls hP hS hz hl)
theorem ww_aload (hX : aK l0 X cc nL own rt d mc ms) {n : Nat} {x : Nat} (hd : decode cc pc = .ok (.aload n, 2)) (hv : lv[n]? = some (some (kR (some x)))) (k : WW X (pc + 2) lv (kR (some x) :: st) I J R S uc us) : WW X pc lv (st) I J R S uc us := by
  obtain ⟨p, l, e, Rm, s, m, args, below, meth, c, Q, E⟩ := X
  obtain ⟨hl0, hx, hb, hr, hml, hown, hts, hlocks, hK, hz0, hR, hStr⟩ := hX
  intro H locs ls hP hS hz hl
  exact lv_aload hx hb hd (hl.2.2 _ _ hv) (k H locs ls hP hS hz hl)
theorem ww_aload_nN (hX : aK l0 X cc nL own rt d mc ms) {n : Fin 4} (hd : decode cc pc = .ok (.aload_n n, 1)) (hv : lv[(n : Nat)]? = some (some (kR none))) (k : WW X (pc + 1) lv (kR none :: st) I J R S uc us) : WW X pc lv (st) I J R S uc us := by
  obtain ⟨p, l, e, Rm, s, m, args, below, meth, c, Q, E⟩ := X
  obtain ⟨hl0, hx, hb, hr, hml, hown, hts, hlocks, hK, hz0, hR, hStr⟩ := hX
  intro H locs ls hP hS hz hl
  exact lv_aload_nN hx hb hd rfl (hl.2.2 _ _ hv) (k H locs ls hP hS hz hl)
theorem ww_aload_nS (hX : aK l0 X cc nL own rt d mc ms) {n : Fin 4} {x : Nat} (hd : decode cc pc = .ok (.aload_n n, 1)) (hv : lv[(n : Nat)]? = some (some (kS x))) (k : WW X (pc + 1) lv (kS x :: st) I J R S uc us) : WW X pc lv (st) I J R S uc us := by
  obtain ⟨p, l, e, Rm, s, m, args, below, meth, c, Q, E⟩ := X
  obtain ⟨hl0, hx, hb, hr, hml, hown, hts, hlocks, hK, hz0, hR, hStr⟩ := hX
  intro H locs ls hP hS hz hl
  exact lv_aload_n hx hb hd rfl (hl.2.2 _ _ hv) (k H locs ls hP hS hz hl)
theorem ww_istore_n (hX : aK l0 X cc nL own rt d mc ms) {n : Fin 4} {x : Int} {lv' : List (Option aV)} (hd : decode cc pc = .ok (.istore_n n, 1)) (hn : (n : Nat) < nL) (hok : aOk1 lv (n : Nat) = true) (he : lv.set (n : Nat) (some (kI x)) = lv') (k : WW X (pc + 1) lv' st I J R S uc us) : WW X pc lv (kI x :: st) I J R S uc us := by
  obtain ⟨p, l, e, Rm, s, m, args, below, meth, c, Q, E⟩ := X
  obtain ⟨hl0, hx, hb, hr, hml, hown, hts, hlocks, hK, hz0, hR, hStr⟩ := hX
  intro H locs ls hP hS hz hl
  subst he
  exact lv_istore_n hx hb hd rfl (aL_has hl) (by rw [hml]; exact hn) rfl (fun ls' h' => k H locs ls' hP hS hz (aL_put1 hok h'))
theorem ww_istore (hX : aK l0 X cc nL own rt d mc ms) {n : Nat} {x : Int} {lv' : List (Option aV)} (hd : decode cc pc = .ok (.istore n, 2)) (hn : n < nL) (hok : aOk1 lv n = true) (he : lv.set n (some (kI x)) = lv') (k : WW X (pc + 2) lv' st I J R S uc us) : WW X pc lv (kI x :: st) I J R S uc us := by
  obtain ⟨p, l, e, Rm, s, m, args, below, meth, c, Q, E⟩ := X
  obtain ⟨hl0, hx, hb, hr, hml, hown, hts, hlocks, hK, hz0, hR, hStr⟩ := hX
  intro H locs ls hP hS hz hl
  subst he
  exact lv_istore hx hb hd (aL_has hl) (by rw [hml]; exact hn) rfl (fun ls' h' => k H locs ls' hP hS hz (aL_put1 hok h'))
theorem ww_lstore_n (hX : aK l0 X cc nL own rt d mc ms) {n : Fin 4} {x : Int} {lv' : List (Option aV)} (hd : decode cc pc = .ok (.lstore_n n, 1)) (hn : (n : Nat) + 1 < nL) (hok : aOk1 lv (n : Nat) = true) (he : (lv.set (n : Nat) (some (kL x))).set ((n : Nat) + 1) none = lv') (k : WW X (pc + 1) lv' st I J R S uc us) : WW X pc lv (kL x :: st) I J R S uc us := by
  obtain ⟨p, l, e, Rm, s, m, args, below, meth, c, Q, E⟩ := X
  obtain ⟨hl0, hx, hb, hr, hml, hown, hts, hlocks, hK, hz0, hR, hStr⟩ := hX
  intro H locs ls hP hS hz hl
  subst he
  exact lv_lstore_n hx hb hd rfl (aL_has hl) (by rw [hml]; exact hn) rfl (fun ls' h' => k H locs ls' hP hS hz (aL_put2 hok h'))
theorem ww_lstore (hX : aK l0 X cc nL own rt d mc ms) {n : Nat} {x : Int} {lv' : List (Option aV)} (hd : decode cc pc = .ok (.lstore n, 2)) (hn : n + 1 < nL) (hok : aOk1 lv n = true) (he : (lv.set n (some (kL x))).set (n + 1) none = lv') (k : WW X (pc + 2) lv' st I J R S uc us) : WW X pc lv (kL x :: st) I J R S uc us := by
  obtain ⟨p, l, e, Rm, s, m, args, below, meth, c, Q, E⟩ := X
  obtain ⟨hl0, hx, hb, hr, hml, hown, hts, hlocks, hK, hz0, hR, hStr⟩ := hX
  intro H locs ls hP hS hz hl
  subst he
  exact lv_lstore hx hb hd (aL_has hl) (by rw [hml]; exact hn) rfl (fun ls' h' => k H locs ls' hP hS hz (aL_put2 hok h'))
theorem ww_astore_n (hX : aK l0 X cc nL own rt d mc ms) {n : Fin 4} {x : Nat} {lv' : List (Option aV)} (hd : decode cc pc = .ok (.astore_n n, 1)) (hn : (n : Nat) < nL) (hok : aOk1 lv (n : Nat) = true) (he : lv.set (n : Nat) (some (kR (some x))) = lv') (k : WW X (pc + 1) lv' st I J R S uc us) : WW X pc lv (kR (some x) :: st) I J R S uc us := by
  obtain ⟨p, l, e, Rm, s, m, args, below, meth, c, Q, E⟩ := X
  obtain ⟨hl0, hx, hb, hr, hml, hown, hts, hlocks, hK, hz0, hR, hStr⟩ := hX
  intro H locs ls hP hS hz hl
  subst he
  exact lv_astore_n hx hb hd rfl (aL_has hl) (by rw [hml]; exact hn) rfl (fun ls' h' => k H locs ls' hP hS hz (aL_put1 hok h'))
theorem ww_astore_nN (hX : aK l0 X cc nL own rt d mc ms) {n : Fin 4} {lv' : List (Option aV)} (hd : decode cc pc = .ok (.astore_n n, 1)) (hn : (n : Nat) < nL) (hok : aOk1 lv (n : Nat) = true) (he : lv.set (n : Nat) (some (kR none)) = lv') (k : WW X (pc + 1) lv' st I J R S uc us) : WW X pc lv (kR none :: st) I J R S uc us := by
  obtain ⟨p, l, e, Rm, s, m, args, below, meth, c, Q, E⟩ := X
  obtain ⟨hl0, hx, hb, hr, hml, hown, hts, hlocks, hK, hz0, hR, hStr⟩ := hX
  intro H locs ls hP hS hz hl
  subst he
  exact lv_astore_nN hx hb hd rfl (aL_has hl) (by rw [hml]; exact hn) rfl (fun ls' h' => k H locs ls' hP hS hz (aL_put1 hok h'))
theorem ww_iinc (hX : aK l0 X cc nL own rt d mc ms) {n : Nat} {b x : Int} {lv' : List (Option aV)} (hd : decode cc pc = .ok (.iinc n b, 3)) (hv : lv[n]? = some (some (kI x))) (hn : n < nL) (hok : aOk1 lv n = true) (he : lv.set n (some (kI (x + b))) = lv') (k : WW X (pc + 3) lv' st I J R S uc us) : WW X pc lv st I J R S uc us := by
  obtain ⟨p, l, e, Rm, s, m, args, below, meth, c, Q, E⟩ := X
  obtain ⟨hl0, hx, hb, hr, hml, hown, hts, hlocks, hK, hz0, hR, hStr⟩ := hX
  intro H locs ls hP hS hz hl
  subst he
  obtain ⟨i, hi⟩ := List.getElem?_of_mem ((aAs_mem (E := E) (q := (n, Value.int (Int32.ofInt x)))).mpr ⟨kI x, hv, rfl⟩)
  exact lv_iinc (v := Int32.ofInt (x + b)) hx hb hd (aL_has hl) hi (by rw [Int32.ofInt_add]) (by rw [hml]; exact hn) rfl (fun ls' h' => k H locs ls' hP hS hz (aL_put1 (v := kI (x + b)) hok h'))
theorem ww_iadd (hX : aK l0 X cc nL own rt d mc ms) {a b : Int} (hd : decode cc pc = .ok (.iadd, 1)) (k : WW X (pc + 1) lv (kI (a + b) :: st) I J R S uc us) : WW X pc lv (kI b :: kI a :: st) I J R S uc us := by
  obtain ⟨p, l, e, Rm, s, m, args, below, meth, c, Q, E⟩ := X
  obtain ⟨hl0, hx, hb, hr, hml, hown, hts, hlocks, hK, hz0, hR, hStr⟩ := hX
  intro H locs ls hP hS hz hl
  refine lv_iadd hx hb hd ?_
  have k := k H locs ls hP hS hz hl
  simp only [List.map_cons, aC_I, Int32.ofInt_add] at k
  exact k
theorem ww_isub (hX : aK l0 X cc nL own rt d mc ms) {a b : Int} (hd : decode cc pc = .ok (.isub, 1)) (k : WW X (pc + 1) lv (kI (a - b) :: st) I J R S uc us) : WW X pc lv (kI b :: kI a :: st) I J R S uc us := by
  obtain ⟨p, l, e, Rm, s, m, args, below, meth, c, Q, E⟩ := X
  obtain ⟨hl0, hx, hb, hr, hml, hown, hts, hlocks, hK, hz0, hR, hStr⟩ := hX
  intro H locs ls hP hS hz hl
  refine lv_isub hx hb hd ?_
  have k := k H locs ls hP hS hz hl
  simp only [List.map_cons, aC_I, Int32.ofInt_sub] at k
  exact k
theorem ww_imul (hX : aK l0 X cc nL own rt d mc ms) {a b : Int} (hd : decode cc pc = .ok (.imul, 1)) (k : WW X (pc + 1) lv (kI (a * b) :: st) I J R S uc us) : WW X pc lv (kI b :: kI a :: st) I J R S uc us := by
  obtain ⟨p, l, e, Rm, s, m, args, below, meth, c, Q, E⟩ := X
  obtain ⟨hl0, hx, hb, hr, hml, hown, hts, hlocks, hK, hz0, hR, hStr⟩ := hX
  intro H locs ls hP hS hz hl
  refine lv_imul hx hb hd ?_
  have k := k H locs ls hP hS hz hl
  simp only [List.map_cons, aC_I, Int32.ofInt_mul] at k
  exact k
theorem ww_ladd (hX : aK l0 X cc nL own rt d mc ms) {a b : Int} (hd : decode cc pc = .ok (.ladd, 1)) (k : WW X (pc + 1) lv (kL (a + b) :: st) I J R S uc us) : WW X pc lv (kL b :: kL a :: st) I J R S uc us := by
  obtain ⟨p, l, e, Rm, s, m, args, below, meth, c, Q, E⟩ := X
  obtain ⟨hl0, hx, hb, hr, hml, hown, hts, hlocks, hK, hz0, hR, hStr⟩ := hX
  intro H locs ls hP hS hz hl
  refine lv_ladd hx hb hd ?_
  have k := k H locs ls hP hS hz hl
  simp only [List.map_cons, aC_L, Int64.ofInt_add] at k
  exact k
theorem ww_lsub (hX : aK l0 X cc nL own rt d mc ms) {a b : Int} (hd : decode cc pc = .ok (.lsub, 1)) (k : WW X (pc + 1) lv (kL (a - b) :: st) I J R S uc us) : WW X pc lv (kL b :: kL a :: st) I J R S uc us := by
  obtain ⟨p, l, e, Rm, s, m, args, below, meth, c, Q, E⟩ := X
  obtain ⟨hl0, hx, hb, hr, hml, hown, hts, hlocks, hK, hz0, hR, hStr⟩ := hX
  intro H locs ls hP hS hz hl
  refine lv_lsub hx hb hd ?_
  have k := k H locs ls hP hS hz hl
  simp only [List.map_cons, aC_L, Int64.ofInt_sub] at k
  exact k
theorem ww_lmul (hX : aK l0 X cc nL own rt d mc ms) {a b : Int} (hd : decode cc pc = .ok (.lmul, 1)) (k : WW X (pc + 1) lv (kL (a * b) :: st) I J R S uc us) : WW X pc lv (kL b :: kL a :: st) I J R S uc us := by
  obtain ⟨p, l, e, Rm, s, m, args, below, meth, c, Q, E⟩ := X
  obtain ⟨hl0, hx, hb, hr, hml, hown, hts, hlocks, hK, hz0, hR, hStr⟩ := hX
  intro H locs ls hP hS hz hl
  refine lv_lmul hx hb hd ?_
  have k := k H locs ls hP hS hz hl
  simp only [List.map_cons, aC_L, Int64.ofInt_mul] at k
  exact k
theorem ww_ineg (hX : aK l0 X cc nL own rt d mc ms) {a : Int} (hd : decode cc pc = .ok (.ineg, 1)) (k : WW X (pc + 1) lv (kI (-a) :: st) I J R S uc us) : WW X pc lv (kI a :: st) I J R S uc us := by
  obtain ⟨p, l, e, Rm, s, m, args, below, meth, c, Q, E⟩ := X
  obtain ⟨hl0, hx, hb, hr, hml, hown, hts, hlocks, hK, hz0, hR, hStr⟩ := hX
  intro H locs ls hP hS hz hl
  refine lv_ineg hx hb hd ?_
  have k := k H locs ls hP hS hz hl
  simp only [List.map_cons, aC_I, Int32.ofInt_neg] at k
  exact k
theorem ww_iand (hX : aK l0 X cc nL own rt d mc ms) {a b : Int} (hd : decode cc pc = .ok (.iand, 1)) (k : WW X (pc + 1) lv (kI (i_and a b) :: st) I J R S uc us) : WW X pc lv (kI b :: kI a :: st) I J R S uc us := by
  obtain ⟨p, l, e, Rm, s, m, args, below, meth, c, Q, E⟩ := X
  obtain ⟨hl0, hx, hb, hr, hml, hown, hts, hlocks, hK, hz0, hR, hStr⟩ := hX
  intro H locs ls hP hS hz hl
  refine lv_iand hx hb hd ?_
  have k := k H locs ls hP hS hz hl
  simp only [List.map_cons, aC_I, i_and, n_of] at k
  exact k
theorem ww_ior (hX : aK l0 X cc nL own rt d mc ms) {a b : Int} (hd : decode cc pc = .ok (.ior, 1)) (k : WW X (pc + 1) lv (kI (i_or a b) :: st) I J R S uc us) : WW X pc lv (kI b :: kI a :: st) I J R S uc us := by
  obtain ⟨p, l, e, Rm, s, m, args, below, meth, c, Q, E⟩ := X
  obtain ⟨hl0, hx, hb, hr, hml, hown, hts, hlocks, hK, hz0, hR, hStr⟩ := hX
  intro H locs ls hP hS hz hl
  refine lv_ior hx hb hd ?_
  have k := k H locs ls hP hS hz hl
  simp only [List.map_cons, aC_I, i_or, n_of] at k
  exact k
theorem ww_ixor (hX : aK l0 X cc nL own rt d mc ms) {a b : Int} (hd : decode cc pc = .ok (.ixor, 1)) (k : WW X (pc + 1) lv (kI (i_xor a b) :: st) I J R S uc us) : WW X pc lv (kI b :: kI a :: st) I J R S uc us := by
  obtain ⟨p, l, e, Rm, s, m, args, below, meth, c, Q, E⟩ := X
  obtain ⟨hl0, hx, hb, hr, hml, hown, hts, hlocks, hK, hz0, hR, hStr⟩ := hX
  intro H locs ls hP hS hz hl
  refine lv_ixor hx hb hd ?_
  have k := k H locs ls hP hS hz hl
  simp only [List.map_cons, aC_I, i_xor, n_of] at k
  exact k
theorem ww_ishl (hX : aK l0 X cc nL own rt d mc ms) {a b : Int} (hd : decode cc pc = .ok (.ishl, 1)) (k : WW X (pc + 1) lv (kI (i_shl a b) :: st) I J R S uc us) : WW X pc lv (kI b :: kI a :: st) I J R S uc us := by
  obtain ⟨p, l, e, Rm, s, m, args, below, meth, c, Q, E⟩ := X
  obtain ⟨hl0, hx, hb, hr, hml, hown, hts, hlocks, hK, hz0, hR, hStr⟩ := hX
  intro H locs ls hP hS hz hl
  refine lv_ishl hx hb hd ?_
  have k := k H locs ls hP hS hz hl
  simp only [List.map_cons, aC_I, i_shl, n_of] at k
  exact k
theorem ww_ishr (hX : aK l0 X cc nL own rt d mc ms) {a b : Int} (hd : decode cc pc = .ok (.ishr, 1)) (k : WW X (pc + 1) lv (kI (i_shr a b) :: st) I J R S uc us) : WW X pc lv (kI b :: kI a :: st) I J R S uc us := by
  obtain ⟨p, l, e, Rm, s, m, args, below, meth, c, Q, E⟩ := X
  obtain ⟨hl0, hx, hb, hr, hml, hown, hts, hlocks, hK, hz0, hR, hStr⟩ := hX
  intro H locs ls hP hS hz hl
  refine lv_ishr hx hb hd ?_
  have k := k H locs ls hP hS hz hl
  simp only [List.map_cons, aC_I, i_shr, n_of] at k
  exact k
theorem ww_iushr (hX : aK l0 X cc nL own rt d mc ms) {a b : Int} (hd : decode cc pc = .ok (.iushr, 1)) (k : WW X (pc + 1) lv (kI (i_ushr a b) :: st) I J R S uc us) : WW X pc lv (kI b :: kI a :: st) I J R S uc us := by
  obtain ⟨p, l, e, Rm, s, m, args, below, meth, c, Q, E⟩ := X
  obtain ⟨hl0, hx, hb, hr, hml, hown, hts, hlocks, hK, hz0, hR, hStr⟩ := hX
  intro H locs ls hP hS hz hl
  exact lv_iushr hx hb hd (by rw [i_ushr, n_of]) (k H locs ls hP hS hz hl)
theorem ww_idiv (hX : aK l0 X cc nL own rt d mc ms) {a b : Int} (hd : decode cc pc = .ok (.idiv, 1)) (h0 : ¬ w32 b = 0) (k : WW X (pc + 1) lv (kI (i_div a b) :: st) I J R S uc us) : WW X pc lv (kI b :: kI a :: st) I J R S uc us := by
  obtain ⟨p, l, e, Rm, s, m, args, below, meth, c, Q, E⟩ := X
  obtain ⟨hl0, hx, hb, hr, hml, hown, hts, hlocks, hK, hz0, hR, hStr⟩ := hX
  intro H locs ls hP hS hz hl
  refine lv_idiv hx hb hd (fun h => h0 ((n_eq0 b).mp h)) ?_
  have k := k H locs ls hP hS hz hl
  simp only [List.map_cons, aC_I, i_div, n_of] at k
  exact k
theorem ww_irem (hX : aK l0 X cc nL own rt d mc ms) {a b : Int} (hd : decode cc pc = .ok (.irem, 1)) (h0 : ¬ w32 b = 0) (k : WW X (pc + 1) lv (kI (i_rem a b) :: st) I J R S uc us) : WW X pc lv (kI b :: kI a :: st) I J R S uc us := by
  obtain ⟨p, l, e, Rm, s, m, args, below, meth, c, Q, E⟩ := X
  obtain ⟨hl0, hx, hb, hr, hml, hown, hts, hlocks, hK, hz0, hR, hStr⟩ := hX
  intro H locs ls hP hS hz hl
  refine lv_irem hx hb hd (fun h => h0 ((n_eq0 b).mp h)) ?_
  have k := k H locs ls hP hS hz hl
  simp only [List.map_cons, aC_I, i_rem, n_of] at k
  exact k
theorem ww_ldiv (hX : aK l0 X cc nL own rt d mc ms) {a b : Int} (hd : decode cc pc = .ok (.ldiv, 1)) (h0 : ¬ w64 b = 0) (k : WW X (pc + 1) lv (kL (l_div a b) :: st) I J R S uc us) : WW X pc lv (kL b :: kL a :: st) I J R S uc us := by
  obtain ⟨p, l, e, Rm, s, m, args, below, meth, c, Q, E⟩ := X
  obtain ⟨hl0, hx, hb, hr, hml, hown, hts, hlocks, hK, hz0, hR, hStr⟩ := hX
  intro H locs ls hP hS hz hl
  refine lv_ldiv hx hb hd (fun h => h0 ((n_eq064 b).mp h)) ?_
  have k := k H locs ls hP hS hz hl
  simp only [List.map_cons, aC_L, l_div, n_of64] at k
  exact k
theorem ww_lrem (hX : aK l0 X cc nL own rt d mc ms) {a b : Int} (hd : decode cc pc = .ok (.lrem, 1)) (h0 : ¬ w64 b = 0) (k : WW X (pc + 1) lv (kL (l_rem a b) :: st) I J R S uc us) : WW X pc lv (kL b :: kL a :: st) I J R S uc us := by
  obtain ⟨p, l, e, Rm, s, m, args, below, meth, c, Q, E⟩ := X
  obtain ⟨hl0, hx, hb, hr, hml, hown, hts, hlocks, hK, hz0, hR, hStr⟩ := hX
  intro H locs ls hP hS hz hl
  refine lv_lrem hx hb hd (fun h => h0 ((n_eq064 b).mp h)) ?_
  have k := k H locs ls hP hS hz hl
  simp only [List.map_cons, aC_L, l_rem, n_of64] at k
  exact k
theorem ww_i2l (hX : aK l0 X cc nL own rt d mc ms) {a : Int} (hd : decode cc pc = .ok (.i2l, 1)) (k : WW X (pc + 1) lv (kL (w32 a) :: st) I J R S uc us) : WW X pc lv (kI a :: st) I J R S uc us := by
  obtain ⟨p, l, e, Rm, s, m, args, below, meth, c, Q, E⟩ := X
  obtain ⟨hl0, hx, hb, hr, hml, hown, hts, hlocks, hK, hz0, hR, hStr⟩ := hX
  intro H locs ls hP hS hz hl
  exact lv_i2l (v := Int64.ofInt (w32 a)) hx hb hd rfl (k H locs ls hP hS hz hl)
theorem ww_l2i (hX : aK l0 X cc nL own rt d mc ms) {a : Int} (hd : decode cc pc = .ok (.l2i, 1)) (k : WW X (pc + 1) lv (kI a :: st) I J R S uc us) : WW X pc lv (kL a :: st) I J R S uc us := by
  obtain ⟨p, l, e, Rm, s, m, args, below, meth, c, Q, E⟩ := X
  obtain ⟨hl0, hx, hb, hr, hml, hown, hts, hlocks, hK, hz0, hR, hStr⟩ := hX
  intro H locs ls hP hS hz hl
  exact lv_l2i (v := Int32.ofInt a) hx hb hd (by simp) (k H locs ls hP hS hz hl)
theorem ww_i2b (hX : aK l0 X cc nL own rt d mc ms) {a : Int} (hd : decode cc pc = .ok (.i2b, 1)) (k : WW X (pc + 1) lv (kI (i_b a) :: st) I J R S uc us) : WW X pc lv (kI a :: st) I J R S uc us := by
  obtain ⟨p, l, e, Rm, s, m, args, below, meth, c, Q, E⟩ := X
  obtain ⟨hl0, hx, hb, hr, hml, hown, hts, hlocks, hK, hz0, hR, hStr⟩ := hX
  intro H locs ls hP hS hz hl
  exact lv_i2b hx hb hd (by rw [i_b, n_of]) (k H locs ls hP hS hz hl)
theorem ww_lcmp (hX : aK l0 X cc nL own rt d mc ms) {a b : Int} (hd : decode cc pc = .ok (.lcmp, 1)) (k : WW X (pc + 1) lv (kI (l_cmp a b) :: st) I J R S uc us) : WW X pc lv (kL b :: kL a :: st) I J R S uc us := by
  obtain ⟨p, l, e, Rm, s, m, args, below, meth, c, Q, E⟩ := X
  obtain ⟨hl0, hx, hb, hr, hml, hown, hts, hlocks, hK, hz0, hR, hStr⟩ := hX
  intro H locs ls hP hS hz hl
  refine W.lcmp hx hb hd ?_
  have k := k H locs ls hP hS hz hl
  have e : Int32.ofInt (l_cmp a b) = lg_cmp (Int64.ofInt a) (Int64.ofInt b) := by
    unfold l_cmp lg_cmp
    by_cases h1 : w64 a < w64 b
    · rw [if_pos h1, if_neg (fun h => by have := (n_lt64 b a).mp h; omega), if_neg (fun h => by have := (n_eq64 a b).mp h; omega)]
      rfl
    · by_cases h2 : w64 a = w64 b
      · rw [if_neg h1, if_pos h2, if_neg (fun h => by have := (n_lt64 b a).mp h; omega), if_pos ((n_eq64 a b).mpr h2)]
        rfl
      · rw [if_neg h1, if_neg h2, if_pos ((n_lt64 b a).mpr (by omega))]
        rfl
  simp only [List.map_cons, aC_I, e] at k
  exact k
theorem ww_dupR (hX : aK l0 X cc nL own rt d mc ms) {a : Nat} (hd : decode cc pc = .ok (.dup, 1)) (k : WW X (pc + 1) lv (kR (some a) :: kR (some a) :: st) I J R S uc us) : WW X pc lv (kR (some a) :: st) I J R S uc us := by
  obtain ⟨p, l, e, Rm, s, m, args, below, meth, c, Q, E⟩ := X
  obtain ⟨hl0, hx, hb, hr, hml, hown, hts, hlocks, hK, hz0, hR, hStr⟩ := hX
  intro H locs ls hP hS hz hl
  exact lv_dup hx hb hd rfl (k H locs ls hP hS hz hl)
theorem ww_popI (hX : aK l0 X cc nL own rt d mc ms) {a : Int} (hd : decode cc pc = .ok (.pop, 1)) (k : WW X (pc + 1) lv (st) I J R S uc us) : WW X pc lv (kI a :: st) I J R S uc us := by
  obtain ⟨p, l, e, Rm, s, m, args, below, meth, c, Q, E⟩ := X
  obtain ⟨hl0, hx, hb, hr, hml, hown, hts, hlocks, hK, hz0, hR, hStr⟩ := hX
  intro H locs ls hP hS hz hl
  exact lv_pop hx hb hd rfl (k H locs ls hP hS hz hl)
theorem ww_pop2 (hX : aK l0 X cc nL own rt d mc ms) {a : Int} (hd : decode cc pc = .ok (.pop2, 1)) (k : WW X (pc + 1) lv (st) I J R S uc us) : WW X pc lv (kL a :: st) I J R S uc us := by
  obtain ⟨p, l, e, Rm, s, m, args, below, meth, c, Q, E⟩ := X
  obtain ⟨hl0, hx, hb, hr, hml, hown, hts, hlocks, hK, hz0, hR, hStr⟩ := hX
  intro H locs ls hP hS hz hl
  exact lv_pop2_2 hx hb hd rfl (k H locs ls hP hS hz hl)
theorem ww_dup2 (hX : aK l0 X cc nL own rt d mc ms) {a : Int} {b : Nat} (hd : decode cc pc = .ok (.dup2, 1)) (k : WW X (pc + 1) lv (kI a :: kR (some b) :: kI a :: kR (some b) :: st) I J R S uc us) : WW X pc lv (kI a :: kR (some b) :: st) I J R S uc us := by
  obtain ⟨p, l, e, Rm, s, m, args, below, meth, c, Q, E⟩ := X
  obtain ⟨hl0, hx, hb, hr, hml, hown, hts, hlocks, hK, hz0, hR, hStr⟩ := hX
  intro H locs ls hP hS hz hl
  exact lv_dup2_11 hx hb hd rfl rfl (k H locs ls hP hS hz hl)
theorem ww_if_eq (hX : aK l0 X cc nL own rt d mc ms) {a : Int} {off : Int} {tgt : Nat} (hd : decode cc pc = .ok (.ifCond .eq off, 3)) (ht : (pc : Int) + off = (tgt : Int)) (kt : w32 a = 0 → WW X tgt lv st I J R S uc us) (kf : ¬ w32 a = 0 → WW X (pc + 3) lv st I J R S uc us) : WW X pc lv (kI a :: st) I J R S uc us := by
  obtain ⟨p, l, e, Rm, s, m, args, below, meth, c, Q, E⟩ := X
  obtain ⟨hl0, hx, hb, hr, hml, hown, hts, hlocks, hK, hz0, hR, hStr⟩ := hX
  intro H locs ls hP hS hz hl
  exact lv_if_eq hx hb hd ht (fun h => kt ((n_eq0 a).mp h) H locs ls hP hS hz hl) (fun h => kf (fun q => h ((n_eq0 a).mpr q)) H locs ls hP hS hz hl)
theorem ww_icmp_eq (hX : aK l0 X cc nL own rt d mc ms) {a b : Int} {off : Int} {tgt : Nat} (hd : decode cc pc = .ok (.if_icmp .eq off, 3)) (ht : (pc : Int) + off = (tgt : Int)) (kt : w32 a = w32 b → WW X tgt lv st I J R S uc us) (kf : ¬ w32 a = w32 b → WW X (pc + 3) lv st I J R S uc us) : WW X pc lv (kI b :: kI a :: st) I J R S uc us := by
  obtain ⟨p, l, e, Rm, s, m, args, below, meth, c, Q, E⟩ := X
  obtain ⟨hl0, hx, hb, hr, hml, hown, hts, hlocks, hK, hz0, hR, hStr⟩ := hX
  intro H locs ls hP hS hz hl
  exact lv_icmp_eq hx hb hd ht (fun h => kt ((n_eq a b).mp h) H locs ls hP hS hz hl) (fun h => kf (fun q => h ((n_eq a b).mpr q)) H locs ls hP hS hz hl)
theorem ww_if_ne (hX : aK l0 X cc nL own rt d mc ms) {a : Int} {off : Int} {tgt : Nat} (hd : decode cc pc = .ok (.ifCond .ne off, 3)) (ht : (pc : Int) + off = (tgt : Int)) (kt : ¬ w32 a = 0 → WW X tgt lv st I J R S uc us) (kf : w32 a = 0 → WW X (pc + 3) lv st I J R S uc us) : WW X pc lv (kI a :: st) I J R S uc us := by
  obtain ⟨p, l, e, Rm, s, m, args, below, meth, c, Q, E⟩ := X
  obtain ⟨hl0, hx, hb, hr, hml, hown, hts, hlocks, hK, hz0, hR, hStr⟩ := hX
  intro H locs ls hP hS hz hl
  exact lv_if_ne hx hb hd ht (fun h => kt (fun q => h ((n_eq0 a).mpr q)) H locs ls hP hS hz hl) (fun h => kf ((n_eq0 a).mp h) H locs ls hP hS hz hl)
theorem ww_icmp_ne (hX : aK l0 X cc nL own rt d mc ms) {a b : Int} {off : Int} {tgt : Nat} (hd : decode cc pc = .ok (.if_icmp .ne off, 3)) (ht : (pc : Int) + off = (tgt : Int)) (kt : ¬ w32 a = w32 b → WW X tgt lv st I J R S uc us) (kf : w32 a = w32 b → WW X (pc + 3) lv st I J R S uc us) : WW X pc lv (kI b :: kI a :: st) I J R S uc us := by
  obtain ⟨p, l, e, Rm, s, m, args, below, meth, c, Q, E⟩ := X
  obtain ⟨hl0, hx, hb, hr, hml, hown, hts, hlocks, hK, hz0, hR, hStr⟩ := hX
  intro H locs ls hP hS hz hl
  exact lv_icmp_ne hx hb hd ht (fun h => kt (fun q => h ((n_eq a b).mpr q)) H locs ls hP hS hz hl) (fun h => kf ((n_eq a b).mp h) H locs ls hP hS hz hl)
theorem ww_if_lt (hX : aK l0 X cc nL own rt d mc ms) {a : Int} {off : Int} {tgt : Nat} (hd : decode cc pc = .ok (.ifCond .lt off, 3)) (ht : (pc : Int) + off = (tgt : Int)) (kt : w32 a < 0 → WW X tgt lv st I J R S uc us) (kf : 0 ≤ w32 a → WW X (pc + 3) lv st I J R S uc us) : WW X pc lv (kI a :: st) I J R S uc us := by
  obtain ⟨p, l, e, Rm, s, m, args, below, meth, c, Q, E⟩ := X
  obtain ⟨hl0, hx, hb, hr, hml, hown, hts, hlocks, hK, hz0, hR, hStr⟩ := hX
  intro H locs ls hP hS hz hl
  exact lv_if_lt hx hb hd ht (fun h => kt ((n_lt0 a).mp h) H locs ls hP hS hz hl) (fun h => kf (Int.not_lt.mp (fun q => h ((n_lt0 a).mpr q))) H locs ls hP hS hz hl)
theorem ww_icmp_lt (hX : aK l0 X cc nL own rt d mc ms) {a b : Int} {off : Int} {tgt : Nat} (hd : decode cc pc = .ok (.if_icmp .lt off, 3)) (ht : (pc : Int) + off = (tgt : Int)) (kt : w32 a < w32 b → WW X tgt lv st I J R S uc us) (kf : w32 b ≤ w32 a → WW X (pc + 3) lv st I J R S uc us) : WW X pc lv (kI b :: kI a :: st) I J R S uc us := by
  obtain ⟨p, l, e, Rm, s, m, args, below, meth, c, Q, E⟩ := X
  obtain ⟨hl0, hx, hb, hr, hml, hown, hts, hlocks, hK, hz0, hR, hStr⟩ := hX
  intro H locs ls hP hS hz hl
  exact lv_icmp_lt hx hb hd ht (fun h => kt ((n_lt a b).mp h) H locs ls hP hS hz hl) (fun h => kf (Int.not_lt.mp (fun q => h ((n_lt a b).mpr q))) H locs ls hP hS hz hl)
theorem ww_if_ge (hX : aK l0 X cc nL own rt d mc ms) {a : Int} {off : Int} {tgt : Nat} (hd : decode cc pc = .ok (.ifCond .ge off, 3)) (ht : (pc : Int) + off = (tgt : Int)) (kt : 0 ≤ w32 a → WW X tgt lv st I J R S uc us) (kf : w32 a < 0 → WW X (pc + 3) lv st I J R S uc us) : WW X pc lv (kI a :: st) I J R S uc us := by
  obtain ⟨p, l, e, Rm, s, m, args, below, meth, c, Q, E⟩ := X
  obtain ⟨hl0, hx, hb, hr, hml, hown, hts, hlocks, hK, hz0, hR, hStr⟩ := hX
  intro H locs ls hP hS hz hl
  exact lv_if_ge hx hb hd ht (fun h => kt ((n_0le a).mp h) H locs ls hP hS hz hl) (fun h => kf (Int.not_le.mp (fun q => h ((n_0le a).mpr q))) H locs ls hP hS hz hl)
theorem ww_icmp_ge (hX : aK l0 X cc nL own rt d mc ms) {a b : Int} {off : Int} {tgt : Nat} (hd : decode cc pc = .ok (.if_icmp .ge off, 3)) (ht : (pc : Int) + off = (tgt : Int)) (kt : w32 b ≤ w32 a → WW X tgt lv st I J R S uc us) (kf : w32 a < w32 b → WW X (pc + 3) lv st I J R S uc us) : WW X pc lv (kI b :: kI a :: st) I J R S uc us := by
  obtain ⟨p, l, e, Rm, s, m, args, below, meth, c, Q, E⟩ := X
  obtain ⟨hl0, hx, hb, hr, hml, hown, hts, hlocks, hK, hz0, hR, hStr⟩ := hX
  intro H locs ls hP hS hz hl
  exact lv_icmp_ge hx hb hd ht (fun h => kt ((n_le b a).mp h) H locs ls hP hS hz hl) (fun h => kf (Int.not_le.mp (fun q => h ((n_le b a).mpr q))) H locs ls hP hS hz hl)
theorem ww_if_gt (hX : aK l0 X cc nL own rt d mc ms) {a : Int} {off : Int} {tgt : Nat} (hd : decode cc pc = .ok (.ifCond .gt off, 3)) (ht : (pc : Int) + off = (tgt : Int)) (kt : 0 < w32 a → WW X tgt lv st I J R S uc us) (kf : w32 a ≤ 0 → WW X (pc + 3) lv st I J R S uc us) : WW X pc lv (kI a :: st) I J R S uc us := by
  obtain ⟨p, l, e, Rm, s, m, args, below, meth, c, Q, E⟩ := X
  obtain ⟨hl0, hx, hb, hr, hml, hown, hts, hlocks, hK, hz0, hR, hStr⟩ := hX
  intro H locs ls hP hS hz hl
  exact lv_if_gt hx hb hd ht (fun h => kt ((n_0lt a).mp h) H locs ls hP hS hz hl) (fun h => kf (Int.not_lt.mp (fun q => h ((n_0lt a).mpr q))) H locs ls hP hS hz hl)
theorem ww_icmp_gt (hX : aK l0 X cc nL own rt d mc ms) {a b : Int} {off : Int} {tgt : Nat} (hd : decode cc pc = .ok (.if_icmp .gt off, 3)) (ht : (pc : Int) + off = (tgt : Int)) (kt : w32 b < w32 a → WW X tgt lv st I J R S uc us) (kf : w32 a ≤ w32 b → WW X (pc + 3) lv st I J R S uc us) : WW X pc lv (kI b :: kI a :: st) I J R S uc us := by
  obtain ⟨p, l, e, Rm, s, m, args, below, meth, c, Q, E⟩ := X
  obtain ⟨hl0, hx, hb, hr, hml, hown, hts, hlocks, hK, hz0, hR, hStr⟩ := hX
  intro H locs ls hP hS hz hl
  exact lv_icmp_gt hx hb hd ht (fun h => kt ((n_lt b a).mp h) H locs ls hP hS hz hl) (fun h => kf (Int.not_lt.mp (fun q => h ((n_lt b a).mpr q))) H locs ls hP hS hz hl)
theorem ww_if_le (hX : aK l0 X cc nL own rt d mc ms) {a : Int} {off : Int} {tgt : Nat} (hd : decode cc pc = .ok (.ifCond .le off, 3)) (ht : (pc : Int) + off = (tgt : Int)) (kt : w32 a ≤ 0 → WW X tgt lv st I J R S uc us) (kf : 0 < w32 a → WW X (pc + 3) lv st I J R S uc us) : WW X pc lv (kI a :: st) I J R S uc us := by
  obtain ⟨p, l, e, Rm, s, m, args, below, meth, c, Q, E⟩ := X
  obtain ⟨hl0, hx, hb, hr, hml, hown, hts, hlocks, hK, hz0, hR, hStr⟩ := hX
  intro H locs ls hP hS hz hl
  exact lv_if_le hx hb hd ht (fun h => kt ((n_le0 a).mp h) H locs ls hP hS hz hl) (fun h => kf (Int.not_le.mp (fun q => h ((n_le0 a).mpr q))) H locs ls hP hS hz hl)
theorem ww_icmp_le (hX : aK l0 X cc nL own rt d mc ms) {a b : Int} {off : Int} {tgt : Nat} (hd : decode cc pc = .ok (.if_icmp .le off, 3)) (ht : (pc : Int) + off = (tgt : Int)) (kt : w32 a ≤ w32 b → WW X tgt lv st I J R S uc us) (kf : w32 b < w32 a → WW X (pc + 3) lv st I J R S uc us) : WW X pc lv (kI b :: kI a :: st) I J R S uc us := by
  obtain ⟨p, l, e, Rm, s, m, args, below, meth, c, Q, E⟩ := X
  obtain ⟨hl0, hx, hb, hr, hml, hown, hts, hlocks, hK, hz0, hR, hStr⟩ := hX
  intro H locs ls hP hS hz hl
  exact lv_icmp_le hx hb hd ht (fun h => kt ((n_le a b).mp h) H locs ls hP hS hz hl) (fun h => kf (Int.not_le.mp (fun q => h ((n_le a b).mpr q))) H locs ls hP hS hz hl)
theorem ww_goto (hX : aK l0 X cc nL own rt d mc ms) {off : Int} {tgt : Nat} (hd : decode cc pc = .ok (.goto off, 3)) (ht : (pc : Int) + off = (tgt : Int)) (k : WW X tgt lv st I J R S uc us) : WW X pc lv st I J R S uc us := by
  obtain ⟨p, l, e, Rm, s, m, args, below, meth, c, Q, E⟩ := X
  obtain ⟨hl0, hx, hb, hr, hml, hown, hts, hlocks, hK, hz0, hR, hStr⟩ := hX
  intro H locs ls hP hS hz hl
  exact lv_goto hx hb hd ht (k H locs ls hP hS hz hl)
theorem ww_ifnonnullS (hX : aK l0 X cc nL own rt d mc ms) {x : Nat} {off : Int} {tgt : Nat} (hd : decode cc pc = .ok (.ifnonnull off, 3)) (ht : (pc : Int) + off = (tgt : Int)) (k : WW X tgt lv st I J R S uc us) : WW X pc lv (kR (some x) :: st) I J R S uc us := by
  obtain ⟨p, l, e, Rm, s, m, args, below, meth, c, Q, E⟩ := X
  obtain ⟨hl0, hx, hb, hr, hml, hown, hts, hlocks, hK, hz0, hR, hStr⟩ := hX
  intro H locs ls hP hS hz hl
  exact lv_ifnonnull hx hb hd ht (k H locs ls hP hS hz hl)
theorem ww_ifnonnullN (hX : aK l0 X cc nL own rt d mc ms) {off : Int} (hd : decode cc pc = .ok (.ifnonnull off, 3)) (k : WW X (pc + 3) lv st I J R S uc us) : WW X pc lv (kR none :: st) I J R S uc us := by
  obtain ⟨p, l, e, Rm, s, m, args, below, meth, c, Q, E⟩ := X
  obtain ⟨hl0, hx, hb, hr, hml, hown, hts, hlocks, hK, hz0, hR, hStr⟩ := hX
  intro H locs ls hP hS hz hl
  exact lv_ifnonnullN hx hb hd (k H locs ls hP hS hz hl)
theorem ww_table (hX : aK l0 X cc nL own rt d mc ms) {dflt lo hi : Int} {offs : Array Int} {len : Nat} {a : Int} (hd : decode cc pc = .ok (.tableswitch dflt lo hi offs, len)) (tgd : Nat) (htd : (pc : Int) + dflt = (tgd : Int)) (kd : w32 a < lo ∨ hi < w32 a → WW X tgd lv st I J R S uc us) (kk : ∀ i : Nat, (i : Int) ≤ hi - lo → w32 a = lo + i → ∃ off tgt, offs[i]? = some off ∧ (pc : Int) + off = ((tgt : Nat) : Int) ∧ WW X tgt lv st I J R S uc us) : WW X pc lv (kI a :: st) I J R S uc us := by
  obtain ⟨p, l, e, Rm, s, m, args, below, meth, c, Q, E⟩ := X
  obtain ⟨hl0, hx, hb, hr, hml, hown, hts, hlocks, hK, hz0, hR, hStr⟩ := hX
  intro H locs ls hP hS hz hl
  by_cases h : w32 a < lo ∨ hi < w32 a
  · exact lv_tableOut hx hb hd h htd (kd h H locs ls hP hS hz hl)
  · have h1 : ¬ w32 a < lo := fun q => h (Or.inl q)
    have h2 : ¬ hi < w32 a := fun q => h (Or.inr q)
    obtain ⟨off, tgt, e1, e2, e3⟩ := kk (w32 a - lo).toNat (by omega) (by omega)
    exact lv_tableIn hx hb hd h1 h2 e1 e2 (e3 H locs ls hP hS hz hl)
theorem ww_lookup (hX : aK l0 X cc nL own rt d mc ms) {dflt : Int} {ps : Array (Int × Int)} {len : Nat} {a : Int} (hd : decode cc pc = .ok (.lookupswitch dflt ps, len)) (hp : (ps.toList.zip (ps.toList.drop 1)).all (fun (a, next) => a.1 < next.1) = true) (kk : ∃ off tgt, Op.lookupswitch.offset ps.toList dflt (w32 a) = off ∧ (pc : Int) + off = ((tgt : Nat) : Int) ∧ WW X tgt lv st I J R S uc us) : WW X pc lv (kI a :: st) I J R S uc us := by
  obtain ⟨p, l, e, Rm, s, m, args, below, meth, c, Q, E⟩ := X
  obtain ⟨hl0, hx, hb, hr, hml, hown, hts, hlocks, hK, hz0, hR, hStr⟩ := hX
  intro H locs ls hP hS hz hl
  obtain ⟨off, tgt, e1, e2, e3⟩ := kk
  exact lv_lookup hx hb hd hp e1 e2 (e3 H locs ls hP hS hz hl)
end WWR
