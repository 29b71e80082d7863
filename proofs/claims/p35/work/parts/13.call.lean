section WRR
variable {l0 : Launch} {X : aX} {cc : ByteArray} {nL : Nat} {own : String} {rt : Option FieldType} {d mc ms : Nat} {pc : Nat} {lv : List (Option aV)} {st : List aV} {I J : aI1} {R : aR1} {S : aS1} {uc us : Nat} {post : Option aV → aI1 → aI1 → aR1 → aS1 → Prop} {rt9 : FieldType}

theorem ww_iret (hX : aK l0 X cc nL own (some .int) d mc ms) (hT : aT X post mc ms) {x : Int} (hc : uc ≤ mc) (hs : us ≤ ms) (hd : decode cc pc = .ok (.ireturn, 1)) (hp : post (some (kI x)) I J R S) : WW X pc lv ([kI x]) I J R S uc us := by
  obtain ⟨p, l, e, Rm, s, m, args, below, meth, c, Q, E⟩ := X
  obtain ⟨hl0, hx, hb, hr, hml, hown, hts, hlocks, hK, hz0, hR, hStr⟩ := hX
  have hQ : Q = MQ below (aQ E post) args s mc ms (fun q => E.1 ≤ q) := hT
  subst hQ
  intro H locs ls hP hS hz hl
  refine W.widen hc hs ?_
  exact W.iret (v := Int32.ofInt x) hx hb hr (fun t ht hW => ⟨⟨some (kI x), I, J, R, S, rfl, hp, by rw [ht]; exact hP, by rw [ht]; exact hz⟩, hS.F ht⟩) hS.2.2 hd hlocks
theorem ww_zret (hX : aK l0 X cc nL own (some .boolean) d mc ms) (hT : aT X post mc ms) {x : Int} (hc : uc ≤ mc) (hs : us ≤ ms) (hd : decode cc pc = .ok (.ireturn, 1)) (h01 : x = 0 ∨ x = 1) (hp : post (some (kI x)) I J R S) : WW X pc lv ([kI x]) I J R S uc us := by
  obtain ⟨p, l, e, Rm, s, m, args, below, meth, c, Q, E⟩ := X
  obtain ⟨hl0, hx, hb, hr, hml, hown, hts, hlocks, hK, hz0, hR, hStr⟩ := hX
  have hQ : Q = MQ below (aQ E post) args s mc ms (fun q => E.1 ≤ q) := hT
  subst hQ
  intro H locs ls hP hS hz hl
  refine W.widen hc hs ?_
  exact W.zret (v := Int32.ofInt x) hx hb hr (by rcases h01 with rfl | rfl <;> rfl) (fun t ht hW => ⟨⟨some (kI x), I, J, R, S, rfl, hp, by rw [ht]; exact hP, by rw [ht]; exact hz⟩, hS.F ht⟩) hS.2.2 hd hlocks
theorem ww_lret (hX : aK l0 X cc nL own (some .long) d mc ms) (hT : aT X post mc ms) {x : Int} (hc : uc ≤ mc) (hs : us ≤ ms) (hd : decode cc pc = .ok (.lreturn, 1)) (hp : post (some (kL x)) I J R S) : WW X pc lv ([kL x]) I J R S uc us := by
  obtain ⟨p, l, e, Rm, s, m, args, below, meth, c, Q, E⟩ := X
  obtain ⟨hl0, hx, hb, hr, hml, hown, hts, hlocks, hK, hz0, hR, hStr⟩ := hX
  have hQ : Q = MQ below (aQ E post) args s mc ms (fun q => E.1 ≤ q) := hT
  subst hQ
  intro H locs ls hP hS hz hl
  refine W.widen hc hs ?_
  exact W.lret (v := Int64.ofInt x) hx hb hr (fun t ht hW => ⟨⟨some (kL x), I, J, R, S, rfl, hp, by rw [ht]; exact hP, by rw [ht]; exact hz⟩, hS.F ht⟩) hS.2.2 hd hlocks
theorem ww_vret (hX : aK l0 X cc nL own none d mc ms) (hT : aT X post mc ms) (hc : uc ≤ mc) (hs : us ≤ ms) (hd : decode cc pc = .ok (.return_, 1)) (hp : post (none) I J R S) : WW X pc lv ([]) I J R S uc us := by
  obtain ⟨p, l, e, Rm, s, m, args, below, meth, c, Q, E⟩ := X
  obtain ⟨hl0, hx, hb, hr, hml, hown, hts, hlocks, hK, hz0, hR, hStr⟩ := hX
  have hQ : Q = MQ below (aQ E post) args s mc ms (fun q => E.1 ≤ q) := hT
  subst hQ
  intro H locs ls hP hS hz hl
  refine W.widen hc hs ?_
  exact W.vret hx hb hr (fun t ht hW => ⟨⟨none, I, J, R, S, rfl, hp, by rw [ht]; exact hP, by rw [ht]; exact hz⟩, hS.F ht⟩) hS.2.2 hd hlocks
theorem ww_aret (hX : aK l0 X cc nL own (some rt9) d mc ms) (hT : aT X post mc ms) {x : Option Nat} (hrt : (∃ n, rt9 = .object n) ∨ ∃ t, rt9 = .array t) (hc : uc ≤ mc) (hs : us ≤ ms) (hd : decode cc pc = .ok (.areturn, 1)) (hp : post (some (kR x)) I J R S) : WW X pc lv ([kR x]) I J R S uc us := by
  obtain ⟨p, l, e, Rm, s, m, args, below, meth, c, Q, E⟩ := X
  obtain ⟨hl0, hx, hb, hr, hml, hown, hts, hlocks, hK, hz0, hR, hStr⟩ := hX
  have hQ : Q = MQ below (aQ E post) args s mc ms (fun q => E.1 ≤ q) := hT
  subst hQ
  intro H locs ls hP hS hz hl
  refine W.widen hc hs ?_
  exact W.aret (v := aC E (kR x)) hx hb hr hrt (by cases x with | none => exact Or.inl rfl | some k => exact Or.inr ⟨_, rfl⟩) (fun t ht hW => ⟨⟨some (kR x), I, J, R, S, rfl, hp, by rw [ht]; exact hP, by rw [ht]; exact hz⟩, hS.F ht⟩) hS.2.2 hd hlocks
end WRR
/-! contracts -/
def aWs (y : MethodName) (cc : ByteArray) (maxL : Nat) (rt : Option FieldType) : List Cond := .code y cc maxL rt :: aTb
def aRm (d mc ms : Nat) : Room := { frames := d, cells := mc, slots := ms, locals := 64 * d }
def aPre (E : aEn) (I J : aI1) (R : aR1) (S : aS1) (U : State) : Prop := va_P (E.2.1, E.2.2.1) vwCl (aW E I J R S) U.heap ∧ U.heap.size = E.1 + S.length ∧ va_K (E.2.1, E.2.2.1) vwCl (aTys E) U ∧ aStr E U
abbrev aM : Type := MethodName × ByteArray × Nat × Option FieldType
def CT (l0 : Launch) (d mc ms : Nat) (M : aM) (av : List aV) (I J : aI1) (R : aR1) (S : aS1) (post : Option aV → aI1 → aI1 → aR1 → aS1 → Prop) : Prop := ∀ E : aEn, Met l0 M.1 (aWs M.1 M.2.1 M.2.2.1 M.2.2.2) (aRm d mc ms) (va_Pc (av.map (aC E)) (aPre E I J R S)) (aQ E post) mc ms (fun q => E.1 ≤ q)
theorem aStr_blind {E : aEn} {U : State} {g : JFrame} {mk : MethodId} {a : Array Value} (h : aStr E U) : aStr E (U.calling g mk a) :=
  ⟨fun q hq => (h.1 q hq).same rfl, h.2.1.moved (u := U) (U := U.calling g mk a) (Vm.Alike.refl U.vm), h.2.2.1.moved (u := U) (U := U.calling g mk a) (Vm.Alike.refl U.vm), h.2.2.2.1.imp (fun z => z.moved (u := U) (U := U.calling g mk a) (Vm.Alike.refl U.vm)) (fun z => z.moved (u := U) (U := U.calling g mk a) (Vm.Alike.refl U.vm)), h.2.2.2.2.1.moved (u := U) (U := U.calling g mk a) (Vm.Alike.refl U.vm), h.2.2.2.2.2.1.moved (u := U) (U := U.calling g mk a) (Vm.Alike.refl U.vm), fun q hq => (h.2.2.2.2.2.2.1 q hq).same rfl rfl, h.2.2.2.2.2.2.2.same rfl rfl⟩
theorem aStr_to {E : aEn} {s U : State} {H : Heap} {locs : List Loc} (h : aStr E s) (hW : s.WarmedH U.vm) (hS : va_S (fun q => E.1 ≤ q) s.heap H locs) (hU : U.heap = H) : aStr E U := by
  subst hU
  exact ⟨fun q hq => (h.1 q hq).warm hW, (h.2.1.kept (H1 := U.heap) (fun a h1 h2 => hS.2.1 a h1 h2)).moved hW.alike, (h.2.2.1.kept (H1 := U.heap) (fun a h1 h2 => hS.2.1 a h1 h2)).moved hW.alike, h.2.2.2.1.imp (fun z => (z.kept (H1 := U.heap) (fun a h1 h2 => hS.2.1 a h1 h2)).moved hW.alike) (fun z => (z.kept (H1 := U.heap) (fun a h1 h2 => hS.2.1 a h1 h2)).moved hW.alike), h.2.2.2.2.1.moved hW.alike, h.2.2.2.2.2.1.moved hW.alike, fun q hq => (h.2.2.2.2.2.2.1 q hq).warmM hW, h.2.2.2.2.2.2.2.warmC hW⟩
theorem aPre_blind {E : aEn} {I J : aI1} {R : aR1} {S : aS1} {av : List Value} : FrameBlind (va_Pc av (aPre E I J R S)) := fun a U g mk q => by
  obtain ⟨q0, qP, qz, qK, qS⟩ := q
  exact ⟨q0, qP, qz, va_K.moved (u := U) (U := U.calling g mk a) (Vm.Alike.refl U.vm) qK, aStr_blind qS⟩
theorem aTb_good : GoodIn aTb aTb := fun w hw => ⟨hw, good_of_word (List.mem_filter.mp hw).2⟩
theorem aTb_ws {y : MethodName} {cc : ByteArray} {maxL : Nat} {rt : Option FieldType} (h : Cond.code y cc maxL rt ∈ aTb) : GoodIn aTb (aWs y cc maxL rt) := fun w hw => by
  rcases List.mem_cons.mp hw with rfl | hw
  · exact aTb_good _ h
  · exact aTb_good _ hw
/-- the locals with which a method begins -/
def aEnt : List aV → List (Option aV)
  | [] => []
  | .inl x :: vs => some (.inl x) :: aEnt vs
  | .inr (.inl x) :: vs => some (.inr (.inl x)) :: none :: aEnt vs
  | .inr (.inr x) :: vs => some (.inr (.inr x)) :: aEnt vs
theorem aEnt_at (E : aEn) : ∀ (av : List aV) (b i : Nat) (v : aV), (aEnt av)[i]? = some (some v) → (b + i, aC E v) ∈ lv_args b (av.map (aC E))
  | [], b, i, v, h => by simp [aEnt] at h
  | .inl x :: vs, b, i, v, h => by
    cases i with
    | zero =>
      simp only [aEnt, List.getElem?_cons_zero] at h
      cases h
      exact List.mem_cons_self
    | succ i =>
      simp only [aEnt, List.getElem?_cons_succ] at h
      have := aEnt_at E vs (b + 1) i v h
      rw [show b + (i + 1) = b + 1 + i by omega]
      exact List.mem_cons_of_mem _ this
  | .inr (.inl x) :: vs, b, i, v, h => by
    cases i with
    | zero =>
      simp only [aEnt, List.getElem?_cons_zero] at h
      cases h
      exact List.mem_cons_self
    | succ i =>
      cases i with
      | zero => simp [aEnt] at h
      | succ i =>
        simp only [aEnt, List.getElem?_cons_succ] at h
        have := aEnt_at E vs (b + 2) i v h
        rw [show b + (i + 1 + 1) = b + 2 + i by omega]
        exact List.mem_cons_of_mem _ this
  | .inr (.inr x) :: vs, b, i, v, h => by
    have hc : ¬ (aC E (.inr (.inr x))).category = 2 := by rw [aC_cat]; simp [aLong]
    cases i with
    | zero =>
      simp only [aEnt, List.getElem?_cons_zero] at h
      cases h
      exact List.mem_cons_self
    | succ i =>
      simp only [aEnt, List.getElem?_cons_succ] at h
      have := aEnt_at E vs (b + 1) i v h
      rw [show b + (i + 1) = b + 1 + i by omega]
      refine List.mem_cons_of_mem _ ?_
      rw [if_neg hc]
      exact this
theorem lg_sl_cons (v : Value) (vs : List Value) : lg_sl (v :: vs) = (if v.category = 2 then [.val v, .second] else [.val v]) ++ lg_sl vs := List.flatMap_cons ..
theorem aEnt_len (E : aEn) : ∀ av : List aV, (lg_sl (av.map (aC E))).length = (aEnt av).length
  | [] => rfl
  | .inl x :: vs => by
    rw [List.map_cons, lg_sl_cons, List.length_append, aEnt_len E vs, if_neg (by rw [aC_cat]; simp [aLong])]
    simp [aEnt]
    omega
  | .inr (.inl x) :: vs => by
    rw [List.map_cons, lg_sl_cons, List.length_append, aEnt_len E vs, if_pos (by rw [aC_cat]; rfl)]
    simp [aEnt]
    omega
  | .inr (.inr x) :: vs => by
    rw [List.map_cons, lg_sl_cons, List.length_append, aEnt_len E vs, if_neg (by rw [aC_cat]; simp [aLong])]
    simp [aEnt]
    omega
def aEntN (av : List aV) (n : Nat) : List (Option aV) := aEnt av ++ List.replicate (n - (aEnt av).length) none
theorem ct_in {l0 : Launch} {d mc ms : Nat} {M : aM} {av : List aV} {I J : aI1} {R : aR1} {S : aS1} {post : Option aV → aI1 → aI1 → aR1 → aS1 → Prop} (hy : plainName M.1.cls = true) (hn : (aEnt av).length ≤ M.2.2.1)
    (k : ∀ X : aX, aK l0 X M.2.1 M.2.2.1 M.1.cls M.2.2.2 d mc ms → aT X post mc ms → (M.1.name = "<init>" → aIn X) → WW X 0 (aEntN av M.2.2.1) [] I J R S 0 0) : CT l0 d mc ms M av I J R S post := by
  intro E
  refine Met.ofW (cc := M.2.1) (maxL := M.2.2.1) (ret := M.2.2.2) hy rfl ?_
  intro p e s m args below meth c s₁ B hml hv
  obtain ⟨rfl, hP, hz, hK, hStr⟩ := hv
  have hts := atoms_spec (ws := aWs M.1 M.2.1 M.2.2.1 M.2.2.2) B.pre
  have hown : s.vm.findClass M.1.cls = some m.cls := findClass_of_methodNamed B.named
  have hnm : meth.name = M.1.name := (name_of_methodNamed B.named B.method).1
  have hl := lv_entry (av.map (aC E)) (n := M.2.2.1) (by rw [aEnt_len]; exact hn)
  rw [lg_entry_eq]
  generalize (lg_sl (av.map (aC E)) ++ List.replicate (M.2.2.1 - (lg_sl (av.map (aC E))).length) Slot.unset).toArray = ls at hl ⊢
  refine k (p, l0, e, aRm d mc ms, s, m, (av.map (aC E)).toArray, below, meth, c, MQ below (aQ E post) (av.map (aC E)).toArray s mc ms (fun q => E.1 ≤ q), E) ⟨rfl, B.exec, B.bytes, B.returns, hml, hown, fun w hw => hts w (List.mem_cons_of_mem _ hw), B.notSynchronized, hK, by omega, ⟨Nat.le_refl _, Nat.le_refl _, rfl, rfl⟩, hStr⟩ rfl (fun h => hnm.trans h) s.heap [] ls hP va_S.rf hz ?_
  refine ⟨by rw [hml]; exact hl.1, hl.2.1, fun i v hv => ?_⟩
  by_cases hi : i < (aEnt av).length
  · rw [aEntN, List.getElem?_append_left hi] at hv
    have := aEnt_at E av 0 i v hv
    rw [Nat.zero_add] at this
    exact hl.2.2 _ this
  · rw [aEntN, List.getElem?_append_right (by omega)] at hv
    have := List.mem_of_getElem? hv
    rw [List.mem_replicate] at this
    cases this.2
/-! calls -/
section WCR
variable {l0 : Launch} {X : aX} {cc : ByteArray} {nL : Nat} {own : String} {rt : Option FieldType} {d mc ms : Nat} {pc : Nat} {lv : List (Option aV)} {st : List aV} {I J : aI1} {R : aR1} {S : aS1} {uc us : Nat} {post : Option aV → aI1 → aI1 → aR1 → aS1 → Prop}
theorem ww_back {p : Program} {l : Launch} {e : Env} {Rm : Room} {s : State} {m : MethodId} {args : Array Value} {below : List Frame} {meth : Method} {c : Code} {Q : State → Prop} {E : aEn} {H : Heap} {locs : List Loc} {ls : Array Slot} {st0 : List Value} {a : Array Value} {mc' ms' : Nat}
    (hr : va_Run p l e Rm s m args below meth c H locs uc us mc' ms' (F0 m pc ls st0) (st.map (aC E)) (aQ E post a) (fun q => E.1 ≤ q)) (hS : va_S (fun q => E.1 ≤ q) s.heap H locs) (hl : aL E ls c.maxLocals lv)
    (kk : ∀ r I' J' R' S', post r I' J' R' S' → WW (p, l, e, Rm, s, m, args, below, meth, c, Q, E) (pc + 3) lv (r.toList ++ st) I' J' R' S' (uc + mc') (us + ms')) : W p l e Rm s m args below meth c H locs uc us Q (F0 m pc ls st0) := by
  intro T hT X
  obtain ⟨v, st₀, t, T', L, h0, X', hL, e1, e2, ⟨⟨r, I', J', R', S', hv, hp, hP', hz'⟩, hz, hk⟩, stp⟩ := hr T hT X
  cases hv
  rw [h0] at hz hk
  obtain ⟨t2, a1, b1⟩ := kk r I' J' R' S' hp T'.heap (locs ++ L) ls (by rw [e1]; exact hP') ⟨Nat.le_trans hS.1 (by rw [e1]; exact hz), fun q h1 h2 => by rw [e1, hk q (Nat.lt_of_lt_of_le h1 hS.1) h2]; exact hS.2.1 q h1 h2, fun q hq => by
      rcases List.mem_append.mp hq with h | h
      · exact hS.2.2 q h
      · exact hL q h⟩ (by rw [e1]; exact hz') hl T' rfl X'
  have e9 : ((r.toList ++ st).map (aC E)) = (r.map (aC E)).toList ++ st.map (aC E) := by cases r <;> rfl
  rw [e9] at a1
  exact ⟨t2, stp t2 a1, b1⟩
def aCat (st : List aV) : Nat := (st.map (fun v => if aLong (some (some v)) then 2 else 1)).sum
theorem aCat_eq (E : aEn) : ∀ st : List aV, ((st.map (aC E)).map fun v => v.category).sum = aCat st
  | [] => rfl
  | v :: st => by
    have h := aCat_eq E st
    have h1 : (aC E v).category = if aLong (some (some v)) then 2 else 1 := by
      by_cases hv : aLong (some (some v)) = true
      · rw [if_pos hv]; exact (aC_cat E v).mpr hv
      · rw [if_neg hv]
        rcases lv_cat (aC E v) with q | q
        · exact q
        · exact absurd ((aC_cat E v).mp q) hv
    simp only [aCat, List.map_cons, List.sum_cons] at h ⊢
    rw [h1, h]
/-- a call of a virtual method, of a static one, of a constructor (and of a nest mate's), as the tables have it: n arguments -/
def aSb (own : String) (idx : Nat) (M : aM) (n : Nat) : Prop := Cond.code M.1 M.2.1 M.2.2.1 M.2.2.2 ∈ aTb ∧ Cond.methodLink own idx M.1 ∈ aTb ∧ Cond.initialized M.1.cls ∈ aTb ∧ (M.1.cls ≠ "java/lang/invoke/MethodHandle" ∧ M.1.cls ≠ "java/lang/invoke/VarHandle" ∧ (parseMethodDescriptor M.1.desc).map (fun d => d.parameters.length) = some n) ∧ M.2.2.1 ≤ 45
def aSV (own : String) (idx : Nat) (M : aM) (n : Nat) (ci : Nat) : Prop := aSb own idx M n ∧ Cond.instanceMethod M.1 ∈ aTb ∧ Cond.selects M.1.cls M.1 M.1 ∈ aTb ∧ ∃ T N, vwCl[ci]? = some (M.1.cls, T, N)
def aSS (own : String) (idx : Nat) (M : aM) (n : Nat) : Prop := aSb own idx M n ∧ Cond.static M.1 ∈ aTb
def aSI (own : String) (idx : Nat) (M : aM) (n : Nat) : Prop := aSb own idx M n ∧ M.2.2.2 = none ∧ M.1.name = "<init>" ∧ Cond.instanceMethod M.1 ∈ aTb
def aSN (own : String) (idx : Nat) (M : aM) (n : Nat) : Prop := (Cond.code M.1 M.2.1 M.2.2.1 M.2.2.2 ∈ aTb ∧ (∃ q ∈ nestTab, own = "LitCoast" ∧ idx = q.1 ∧ M.1 = ⟨q.2, "<init>", "()V"⟩) ∧ Cond.initialized M.1.cls ∈ aTb ∧ (M.1.cls ≠ "java/lang/invoke/MethodHandle" ∧ M.1.cls ≠ "java/lang/invoke/VarHandle" ∧ (parseMethodDescriptor M.1.desc).map (fun d => d.parameters.length) = some n) ∧ M.2.2.1 ≤ 45) ∧ M.2.2.2 = none ∧ M.1.name = "<init>" ∧ Cond.instanceMethod M.1 ∈ aTb

theorem ww_callV (hX : aK l0 X cc nL own rt d mc ms) {idx ci b nb : Nat} {M : aM} {n d' mc' ms' : Nat} {av : List aV} (hsi : aSV own idx M n ci) (hbs : S[b]? = some (ci + 6, nb)) (hM : CT l0 d' mc' ms' M (kR (some b) :: av) I J R S post) (hav : av.length = n) (hd1 : d' + 1 ≤ d) (hc : uc + mc' ≤ mc) (hs : us + ms' ≤ ms) (hcat : aCat st ≤ 8) (hd : decode cc pc = .ok (.invokevirtual idx, 3)) (kk : ∀ r I' J' R' S', post r I' J' R' S' → WW X (pc + 3) lv (r.toList ++ st) I' J' R' S' (uc + mc') (us + ms')) : WW X pc lv (av.reverse ++ kR (some b) :: st) I J R S uc us := by
  obtain ⟨p, l, e, Rm, s, m, args, below, meth, c, Q, E⟩ := X
  obtain ⟨hl0, hx, hb, hr, hml, hown, hts, hlocks, hK, hz0, hR, hStr⟩ := hX
  intro H locs ls hP hS hz hl
  obtain ⟨⟨s1, s2, s3, s4, s5⟩, s6, s7, T, N, s8⟩ := hsi
  subst hl0
  have hlr : 8 + (M.2.2.1 + 11) + 64 * d' ≤ Rm.locals := by have := hR.2.1; omega
  have hfr : d' + 1 ≤ Rm.frames := by have := hR.1; omega
  rw [List.map_append, List.map_reverse, List.map_cons]
  exact ww_back (va_runV (As := av.map (aC E)) (rest := st.map (aC E)) (y := M.1) (ws := aWs M.1 M.2.1 M.2.2.1 M.2.2.2) ⟨hx, hb, hml, hown, hts⟩ (hM E)
    ⟨callB_of (bytes := M.2.1) (maxL := M.2.2.1) (ret := M.2.2.2) n hts (aTb_ws s1) rfl rfl rfl (hts _ s3) (hts _ s2) s4 ⟨hfr, hlr⟩, hts _ s6, hts _ s7⟩
    ⟨aPre_blind, va_recv hK hP s8 (aW_at E I J R hbs), (fun U hU hW => ⟨rfl, by rw [hU]; exact hP, by rw [hU]; exact hz, va_K.moved hW.alike hK, aStr_to hStr hW hS hU⟩)⟩ rfl (by simpa using hav) (by rw [← hml]; exact hl.1) rfl (lv_room (by rw [aCat_eq]; exact hcat)) hd ⟨by rw [hR.2.2.1]; exact hc, by rw [hR.2.2.2]; exact hs⟩) hS hl kk
theorem ww_callS (hX : aK l0 X cc nL own rt d mc ms) {idx : Nat} {M : aM} {n d' mc' ms' : Nat} {av : List aV} (hsi : aSS own idx M n) (hM : CT l0 d' mc' ms' M av I J R S post) (hav : av.length = n) (hd1 : d' + 1 ≤ d) (hc : uc + mc' ≤ mc) (hs : us + ms' ≤ ms) (hcat : aCat st ≤ 8) (hd : decode cc pc = .ok (.invokestatic idx, 3)) (kk : ∀ r I' J' R' S', post r I' J' R' S' → WW X (pc + 3) lv (r.toList ++ st) I' J' R' S' (uc + mc') (us + ms')) : WW X pc lv (av.reverse ++ st) I J R S uc us := by
  obtain ⟨p, l, e, Rm, s, m, args, below, meth, c, Q, E⟩ := X
  obtain ⟨hl0, hx, hb, hr, hml, hown, hts, hlocks, hK, hz0, hR, hStr⟩ := hX
  intro H locs ls hP hS hz hl
  obtain ⟨⟨s1, s2, s3, s4, s5⟩, s6⟩ := hsi
  subst hl0
  have hlr : 8 + (M.2.2.1 + 11) + 64 * d' ≤ Rm.locals := by have := hR.2.1; omega
  have hfr : d' + 1 ≤ Rm.frames := by have := hR.1; omega
  rw [List.map_append, List.map_reverse]
  exact ww_back (va_runS (As := av.map (aC E)) (rest := st.map (aC E)) (y := M.1) (ws := aWs M.1 M.2.1 M.2.2.1 M.2.2.2) ⟨hx, hb, hml, hown, hts⟩ (hM E)
    ⟨callB_of (bytes := M.2.1) (maxL := M.2.2.1) (ret := M.2.2.2) n hts (aTb_ws s1) rfl rfl rfl (hts _ s3) (hts _ s2) s4 ⟨hfr, hlr⟩, hts _ s6⟩
    ⟨aPre_blind, (fun U hU hW => ⟨rfl, by rw [hU]; exact hP, by rw [hU]; exact hz, va_K.moved hW.alike hK, aStr_to hStr hW hS hU⟩)⟩ rfl (by simpa using hav) (by rw [← hml]; exact hl.1) rfl (lv_room (by rw [aCat_eq]; exact hcat)) hd ⟨by rw [hR.2.2.1]; exact hc, by rw [hR.2.2.2]; exact hs⟩) hS hl kk
theorem ww_callI (hX : aK l0 X cc nL own rt d mc ms) {idx b : Nat} {M : aM} {n d' mc' ms' : Nat} {av : List aV} (hsi : aSI own idx M n) (hM : CT l0 d' mc' ms' M (kR (some b) :: av) I J R S post) (hav : av.length = n) (hd1 : d' + 1 ≤ d) (hc : uc + mc' ≤ mc) (hs : us + ms' ≤ ms) (hcat : aCat st ≤ 8) (hd : decode cc pc = .ok (.invokespecial idx, 3)) (kk : ∀ r I' J' R' S', post r I' J' R' S' → WW X (pc + 3) lv (r.toList ++ st) I' J' R' S' (uc + mc') (us + ms')) : WW X pc lv (av.reverse ++ kR (some b) :: st) I J R S uc us := by
  obtain ⟨p, l, e, Rm, s, m, args, below, meth, c, Q, E⟩ := X
  obtain ⟨hl0, hx, hb, hr, hml, hown, hts, hlocks, hK, hz0, hR, hStr⟩ := hX
  intro H locs ls hP hS hz hl
  obtain ⟨⟨s1, s2, s3, s4, s5⟩, s9, s6, s7⟩ := hsi
  subst hl0
  have hlr : 8 + (M.2.2.1 + 11) + 64 * d' ≤ Rm.locals := by have := hR.2.1; omega
  have hfr : d' + 1 ≤ Rm.frames := by have := hR.1; omega
  rw [List.map_append, List.map_reverse, List.map_cons]
  have hM := hM E
  rw [s9] at hM s1
  exact ww_back (va_runI (As := av.map (aC E)) (rest := st.map (aC E)) (y := M.1) (ws := aWs M.1 M.2.1 M.2.2.1 none) ⟨hx, hb, hml, hown, hts⟩ hM
    ⟨callB_of (bytes := M.2.1) (maxL := M.2.2.1) (ret := none) n hts (aTb_ws s1) rfl rfl rfl (hts _ s3) (hts _ s2) s4 ⟨hfr, hlr⟩, s6, hts _ s7⟩
    ⟨aPre_blind, (fun U hU hW => ⟨rfl, by rw [hU]; exact hP, by rw [hU]; exact hz, va_K.moved hW.alike hK, aStr_to hStr hW hS hU⟩)⟩ rfl (by simpa using hav) (by rw [← hml]; exact hl.1) rfl (lv_room (by rw [aCat_eq]; exact hcat)) hd ⟨by rw [hR.2.2.1]; exact hc, by rw [hR.2.2.2]; exact hs⟩) hS hl kk
theorem ww_callN (hX : aK l0 X cc nL own rt d mc ms) {idx b : Nat} {M : aM} {n d' mc' ms' : Nat} {av : List aV} (hsi : aSN own idx M n) (hM : CT l0 d' mc' ms' M (kR (some b) :: av) I J R S post) (hav : av.length = n) (hd1 : d' + 1 ≤ d) (hc : uc + mc' ≤ mc) (hs : us + ms' ≤ ms) (hcat : aCat st ≤ 8) (hd : decode cc pc = .ok (.invokespecial idx, 3)) (kk : ∀ r I' J' R' S', post r I' J' R' S' → WW X (pc + 3) lv (r.toList ++ st) I' J' R' S' (uc + mc') (us + ms')) : WW X pc lv (av.reverse ++ kR (some b) :: st) I J R S uc us := by
  obtain ⟨p, l, e, Rm, s, m, args, below, meth, c, Q, E⟩ := X
  obtain ⟨hl0, hx, hb, hr, hml, hown, hts, hlocks, hK, hz0, hR, hStr⟩ := hX
  intro H locs ls hP hS hz hl
  obtain ⟨⟨s1, ⟨q, q1, q2, q3, q4⟩, s3, s4, s5⟩, s9, s6, s7⟩ := hsi
  have s2 := hStr.2.2.2.2.2.2.1 q q1
  rw [← q2, ← q3, ← q4] at s2
  subst hl0
  have hlr : 8 + (M.2.2.1 + 11) + 64 * d' ≤ Rm.locals := by have := hR.2.1; omega
  have hfr : d' + 1 ≤ Rm.frames := by have := hR.1; omega
  rw [List.map_append, List.map_reverse, List.map_cons]
  have hM := hM E
  rw [s9] at hM s1
  exact ww_back (va_runIN (As := av.map (aC E)) (rest := st.map (aC E)) (y := M.1) (ws := aWs M.1 M.2.1 M.2.2.1 none) (host := own) ⟨hx, hb, hml, hown, hts⟩ hM
    ⟨⟨⟨rfl, rfl, hfr, hlr, pay_in hts (aTb_ws s1), List.mem_cons_self⟩, hts _ s1, hts _ s3, ⟨s4.1, s4.2.1⟩, fun sig h => by have h2 := s4.2.2; rw [h] at h2; exact (Option.some.inj h2).symm, va_Nw.use rfl s2⟩, s6, hts _ s7⟩
    ⟨aPre_blind, (fun U hU hW => ⟨rfl, by rw [hU]; exact hP, by rw [hU]; exact hz, va_K.moved hW.alike hK, aStr_to hStr hW hS hU⟩)⟩ rfl (by simpa using hav) (by rw [← hml]; exact hl.1) rfl (lv_room (by rw [aCat_eq]; exact hcat)) hd ⟨by rw [hR.2.2.1]; exact hc, by rw [hR.2.2.2]; exact hs⟩) hS hl kk
theorem ww_objInit (hX : aK l0 X cc nL own rt d mc ms) {idx b : Nat} (h1 : Cond.methodLink own idx objectInit ∈ aTb) (h2 : Cond.instanceMethod objectInit ∈ aTb) (h3 : Cond.code objectInit ⟨#[0xb1]⟩ 1 none ∈ aTb) (hd1 : 1 ≤ d) (hcat : aCat st ≤ 8) (hd : decode cc pc = .ok (.invokespecial idx, 3)) (k : WW X (pc + 3) lv st I J R S uc us) : WW X pc lv (kR (some b) :: st) I J R S uc us := by
  obtain ⟨p, l, e, Rm, s, m, args, below, meth, c, Q, E⟩ := X
  obtain ⟨hl0, hx, hb, hr, hml, hown, hts, hlocks, hK, hz0, hR, hStr⟩ := hX
  intro H locs ls hP hS hz hl
  refine W.objInit hx hb hown (hts _ h1) (hts _ h2) (hts _ h3) rfl hl.1 rfl hd (by have := hR.1; omega) ?_ (k H locs ls hP hS hz hl)
  have h9 := aCat_eq E st
  have h8 : 2 * (F0 m pc ls ((kR (some b) :: st).map (aC E))).monitorRoom + ((st.map (aC E)).map fun v => v.category).sum ≤ 8 := lv_room (by rw [h9]; exact hcat)
  have := hR.2.1
  omega
def i_max (a b : Int) : Int := if w32 a < w32 b then b else a
def i_min (a b : Int) : Int := if w32 b < w32 a then b else a
def l_max (a b : Int) : Int := if w64 b < w64 a then a else b
def l_min (a b : Int) : Int := if w64 b < w64 a then b else a

theorem ww_mmax (hX : aK l0 X cc nL own rt d mc ms) {idx : Nat} {a b : Int} (h1 : Cond.methodLink own idx Lib.Math.max.name ∈ aTb) (h2 : Cond.static Lib.Math.max.name ∈ aTb) (h3 : Cond.initialized "java/lang/Math" ∈ aTb) (h4 : Cond.code Lib.Math.max.name Lib.Math.max.code 2 (some .int) ∈ aTb) (hd1 : 1 ≤ d) (hc : uc ≤ mc) (hs : us ≤ ms) (hcat : aCat st ≤ 8) (hd : decode cc pc = .ok (.invokestatic idx, 3)) (k : WW X (pc + 3) lv (kI (i_max a b) :: st) I J R S uc us) : WW X pc lv (kI b :: kI a :: st) I J R S uc us := by
  obtain ⟨p, l, e, Rm, s, m, args, below, meth, c, Q, E⟩ := X
  obtain ⟨hl0, hx, hb, hr, hml, hown, hts, hlocks, hK, hz0, hR, hStr⟩ := hX
  intro H locs ls hP hS hz hl
  refine va_mmax hx hb hl.1.symm hown (hts _ h1) (hts _ h2) (hts _ h3) (hts _ h4) (by have := hR.1; omega) (by rw [aCat_eq]; have := hR.2.1; omega) (by rw [hR.2.2.1]; exact hc) (by rw [hR.2.2.2]; exact hs) hd ?_
  have k := k H locs ls hP hS hz hl
  unfold i_max at k
  by_cases h : w32 a < w32 b
  · rw [if_pos h] at k
    rw [if_pos ((n_lt a b).mpr h)]
    exact k
  · rw [if_neg h] at k
    rw [if_neg (fun q => h ((n_lt a b).mp q))]
    exact k
theorem ww_mmin (hX : aK l0 X cc nL own rt d mc ms) {idx : Nat} {a b : Int} (h1 : Cond.methodLink own idx Lib.Math.min.name ∈ aTb) (h2 : Cond.static Lib.Math.min.name ∈ aTb) (h3 : Cond.initialized "java/lang/Math" ∈ aTb) (h4 : Cond.code Lib.Math.min.name Lib.Math.min.code 2 (some .int) ∈ aTb) (hd1 : 1 ≤ d) (hc : uc ≤ mc) (hs : us ≤ ms) (hcat : aCat st ≤ 8) (hd : decode cc pc = .ok (.invokestatic idx, 3)) (k : WW X (pc + 3) lv (kI (i_min a b) :: st) I J R S uc us) : WW X pc lv (kI b :: kI a :: st) I J R S uc us := by
  obtain ⟨p, l, e, Rm, s, m, args, below, meth, c, Q, E⟩ := X
  obtain ⟨hl0, hx, hb, hr, hml, hown, hts, hlocks, hK, hz0, hR, hStr⟩ := hX
  intro H locs ls hP hS hz hl
  refine va_mmin hx hb hl.1.symm hown (hts _ h1) (hts _ h2) (hts _ h3) (hts _ h4) (by have := hR.1; omega) (by rw [aCat_eq]; have := hR.2.1; omega) (by rw [hR.2.2.1]; exact hc) (by rw [hR.2.2.2]; exact hs) hd ?_
  have k := k H locs ls hP hS hz hl
  unfold i_min at k
  by_cases h : w32 b < w32 a
  · rw [if_pos h] at k
    rw [if_pos ((n_lt b a).mpr h)]
    exact k
  · rw [if_neg h] at k
    rw [if_neg (fun q => h ((n_lt b a).mp q))]
    exact k
theorem ww_lmax (hX : aK l0 X cc nL own rt d mc ms) {idx : Nat} {a b : Int} (h1 : Cond.methodLink own idx Lib.MathLoose.max_long.x ∈ aTb) (h2 : Cond.static Lib.MathLoose.max_long.x ∈ aTb) (h3 : Cond.initialized "java/lang/Math" ∈ aTb) (h4 : Cond.code Lib.MathLoose.max_long.x Lib.MathLoose.max_long.code 4 (some .long) ∈ aTb) (hd1 : 1 ≤ d) (hc : uc ≤ mc) (hs : us ≤ ms) (hcat : aCat st ≤ 8) (hd : decode cc pc = .ok (.invokestatic idx, 3)) (k : WW X (pc + 3) lv (kL (l_max a b) :: st) I J R S uc us) : WW X pc lv (kL b :: kL a :: st) I J R S uc us := by
  obtain ⟨p, l, e, Rm, s, m, args, below, meth, c, Q, E⟩ := X
  obtain ⟨hl0, hx, hb, hr, hml, hown, hts, hlocks, hK, hz0, hR, hStr⟩ := hX
  intro H locs ls hP hS hz hl
  refine va_mmax_long hx hb hl.1.symm hown (hts _ h1) (hts _ h2) (hts _ h3) (hts _ h4) (by have := hR.1; omega) (by rw [aCat_eq]; have := hR.2.1; omega) (by rw [hR.2.2.1]; exact hc) (by rw [hR.2.2.2]; exact hs) hd ?_
  have k := k H locs ls hP hS hz hl
  unfold l_max at k
  by_cases h : w64 b < w64 a
  · rw [if_pos h] at k
    rw [if_pos ((n_lt64 b a).mpr h)]
    exact k
  · rw [if_neg h] at k
    rw [if_neg (fun q => h ((n_lt64 b a).mp q))]
    exact k
theorem ww_lmin (hX : aK l0 X cc nL own rt d mc ms) {idx : Nat} {a b : Int} (h1 : Cond.methodLink own idx Lib.MathLoose.min_long.x ∈ aTb) (h2 : Cond.static Lib.MathLoose.min_long.x ∈ aTb) (h3 : Cond.initialized "java/lang/Math" ∈ aTb) (h4 : Cond.code Lib.MathLoose.min_long.x Lib.MathLoose.min_long.code 4 (some .long) ∈ aTb) (hd1 : 1 ≤ d) (hc : uc ≤ mc) (hs : us ≤ ms) (hcat : aCat st ≤ 8) (hd : decode cc pc = .ok (.invokestatic idx, 3)) (k : WW X (pc + 3) lv (kL (l_min a b) :: st) I J R S uc us) : WW X pc lv (kL b :: kL a :: st) I J R S uc us := by
  obtain ⟨p, l, e, Rm, s, m, args, below, meth, c, Q, E⟩ := X
  obtain ⟨hl0, hx, hb, hr, hml, hown, hts, hlocks, hK, hz0, hR, hStr⟩ := hX
  intro H locs ls hP hS hz hl
  refine va_mmin_long hx hb hl.1.symm hown (hts _ h1) (hts _ h2) (hts _ h3) (hts _ h4) (by have := hR.1; omega) (by rw [aCat_eq]; have := hR.2.1; omega) (by rw [hR.2.2.1]; exact hc) (by rw [hR.2.2.2]; exact hs) hd ?_
  have k := k H locs ls hP hS hz hl
  unfold l_min at k
  by_cases h : w64 b < w64 a
  · rw [if_pos h] at k
    rw [if_pos ((n_lt64 b a).mpr h)]
    exact k
  · rw [if_neg h] at k
    rw [if_neg (fun q => h ((n_lt64 b a).mp q))]
    exact k
theorem ww_copy (hX : aK l0 X cc nL own rt d mc ms) {idx k0 k1 n0 n1 : Nat} {sp dp n : Int} (g1 : Cond.methodLink own idx arraycopyName ∈ aTb) (g2 : Cond.native arraycopyName ∈ aTb) (g3 : Cond.static arraycopyName ∈ aTb) (g4 : Cond.initialized "java/lang/System" ∈ aTb) (hs0 : S[k0]? = some (0, n0)) (hs1 : S[k1]? = some (0, n1)) (hn0 : n0 < 2147483648) (hn1 : n1 < 2147483648) (h1 : 0 ≤ sp) (h2 : 0 ≤ dp) (h3 : 0 ≤ n) (h4 : sp + n ≤ n0) (h5 : dp + n ≤ n1) (hd1 : 1 ≤ d) (hcat : aCat st ≤ 8) (hd : decode cc pc = .ok (.invokestatic idx, 3))
    (kk : WW X (pc + 3) lv st (upR I k1 (va_cpy (I k0) (I k1) sp.toNat dp.toNat n.toNat)) J R S uc us) : WW X pc lv (kI n :: kI dp :: kR (some k1) :: kI sp :: kR (some k0) :: st) I J R S uc us := by
  obtain ⟨p, l, e, Rm, s, m, args, below, meth, c, Q, E⟩ := X
  obtain ⟨hl0, hx, hb, hr, hml, hown, hts, hlocks, hK, hz0, hR, hStr⟩ := hX
  intro H locs ls hP hS hz hl
  have z : ∀ x : Int, 0 ≤ x → x < 2147483648 → ¬ Int32.ofInt x < 0 ∧ (Int32.ofInt x).toInt = x ∧ (Int32.ofInt x).toNatClampNeg = x.toNat := fun x a b => by
    have hw : (Int32.ofInt x).toInt = x := w32_id (by omega) (by omega)
    exact ⟨fun h => by have := (n_lt0 x).mp h; rw [show w32 x = x from hw] at this; omega, hw, show (Int32.ofInt x).toInt.toNat = _ by rw [hw]⟩
  obtain ⟨a1, b1, c1⟩ := z sp h1 (by omega)
  obtain ⟨a2, b2, c2⟩ := z dp h2 (by omega)
  obtain ⟨a3, b3, c3⟩ := z n h3 (by omega)
  intro T hT X
  have hc0 : H[E.1 + k0]? = some (vp_cell (E.2.2.2.1 0) (n0, .inl (fun j => Int32.ofInt (I k0 j)))) := hP k0 _ (aW_at E I J R hs0)
  have hc1 : H[E.1 + k1]? = some (vp_cell (E.2.2.2.1 0) (n1, .inl (fun j => Int32.ofInt (I k1 j)))) := hP k1 _ (aW_at E I J R hs1)
  obtain ⟨-, q0, hk0, cm0, hkk0⟩ := (hK.2 0 _ rfl).1 n0 (fun j => .int (Int32.ofInt (I k0 j)))
  obtain ⟨-, q1, hk1, cm1, hkk1⟩ := (hK.2 0 _ rfl).1 n1 (fun j => .int (Int32.ofInt (I k1 j)))
  obtain ⟨vm', X', step⟩ := X.arraycopy hx hown (hts _ g1) (hts _ g2) (hts _ g3) (hts _ g4) (src := E.1 + k0) (dst := E.1 + k1) (cs := vp_cell (E.2.2.2.1 0) (n0, .inl (fun j => Int32.ofInt (I k0 j)))) (cd := vp_cell (E.2.2.2.1 0) (n1, .inl (fun j => Int32.ofInt (I k1 j)))) (srcPos := Int32.ofInt sp) (destPos := Int32.ofInt dp) (n := Int32.ofInt n) (by rw [hT]; exact hc0) (by rw [hT]; exact hc1)
    (fun _ h => by cases h) (fun _ h => by cases h) (fun h => by cases h) (fun h => by cases h) hk0 hk1 hkk0 hkk1 (by simp [refKind]) a1 a2 a3
    (by rw [b1, b3]; show ¬ _ > ((arrV _ n0 _).slots.size : Int); rw [arrV_size]; omega)
    (by rw [b2, b3]; show ¬ _ > ((arrV _ n1 _).slots.size : Int); rw [arrV_size]; omega)
    (fun vm₁ _ i hi => by
      rw [c3] at hi
      have e9 : (vp_cell (E.2.2.2.1 0) (n0, .inl (fun j => Int32.ofInt (I k0 j)))).slots.getD ((Int32.ofInt sp).toNatClampNeg + i) .null = .int (Int32.ofInt (I k0 ((Int32.ofInt sp).toNatClampNeg + i))) := by
        show (arrV _ n0 (fun j => .int (Int32.ofInt (I k0 j)))).slots.getD _ _ = _
        rw [Array.getD_eq_getD_getElem?, arrV_read _ _ (by rw [c1]; omega)]
        rfl
      refine ⟨?_, ?_⟩
      · rw [e9]
        rfl
      · rw [e9]
        exact trivial)
    (g := F0 m pc ls ((kI n :: kI dp :: kR (some k1) :: kI sp :: kR (some k0) :: st).map (aC E))) rfl hl.1 (rest := st.map (aC E)) rfl (by rw [hb]; exact hd) (by have := hR.1; omega) (by show 2 * 0 + _ + _ ≤ _; rw [aCat_eq]; have := hR.2.1; simp [nativeFrameWords]; omega)
  have e1 : copied (vp_cell (E.2.2.2.1 0) (n0, .inl (fun j => Int32.ofInt (I k0 j)))) (vp_cell (E.2.2.2.1 0) (n1, .inl (fun j => Int32.ofInt (I k1 j)))) (Int32.ofInt sp) (Int32.ofInt dp) (Int32.ofInt n) = vp_cell (E.2.2.2.1 0) (n1, .inl (va_cpy (fun j => Int32.ofInt (I k0 j)) (fun j => Int32.ofInt (I k1 j)) sp.toNat dp.toNat n.toNat)) := by
    have := va_copied (fun z => Value.int z) (E.2.2.2.1 0) (E.2.2.2.1 0) (n0 := n0) (n1 := n1) (sp := sp.toNat) (dp := dp.toNat) (n := n.toNat) (fun j => Int32.ofInt (I k0 j)) (fun j => Int32.ofInt (I k1 j)) (by omega)
    first | exact this | (unfold copied at this ⊢; rw [c1, c2, c3]; exact this) | (simpa [copied, c1, c2, c3] using this)
  rw [e1] at X' step
  have hlt : E.1 + k1 < H.size := (Array.getElem?_eq_some_iff.mp hc1).1
  generalize hH1 : H.setIfInBounds (E.1 + k1) (vp_cell (E.2.2.2.1 0) (n1, .inl (va_cpy (fun j => Int32.ofInt (I k0 j)) (fun j => Int32.ofInt (I k1 j)) sp.toNat dp.toNat n.toNat))) = H1
  have oq : ∀ q : Nat, q ≠ E.1 + k1 → H1[q]? = H[q]? := fun q hq => by rw [← hH1]; simp [Array.getElem?_setIfInBounds, Ne.symm hq]
  have z1 : H1.size = H.size := by rw [← hH1]; simp
  obtain ⟨t, a4, b4⟩ := kk H1 _ ls (aW_setP hP hs1 (fun a h => upR_n _ _ h) (fun _ _ => rfl) (fun _ _ => rfl) (by
      show H1[E.1 + k1]? = some (vp_cell _ _)
      rw [← hH1, upR_s]
      simp only [Array.getElem?_setIfInBounds, hlt, if_true]
      congr 4
      funext q
      unfold va_cpy
      split <;> rfl) oq) ⟨by rw [z1]; exact hS.1, fun q g1 g2 => by rw [oq q (fun e => g2 (by rw [e]; exact Nat.le_add_right _ _))]; exact hS.2.1 q g1 g2, fun q hq => by
      rcases List.mem_append.mp hq with h | h
      · exact hS.2.2 q h
      · obtain ⟨z, -, hz⟩ := List.mem_map.mp h
        rw [← hz]
        exact Nat.le_add_right _ _⟩ (z1.trans hz) hl _ (by rw [← hH1, ← hT]; rfl) X'
  exact ⟨t, step t a4, b4⟩
end WCR
