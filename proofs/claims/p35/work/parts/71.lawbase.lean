/-! THE CLAIM OUT OF ONE WALK OF THE LAW'S BODY. Your part is whole_start (and what it stands on); all else here is the same for every law, but numbers. -/
def R_law : String := "LitCoastLaw"
def lw_P (b : Addr) (xs : List Int32) (args : Array Value) (s : State) : Prop := args = #[.ref b] ∧ s.IntsAt b xs ∧ xs.length ≤ 3072 ∧ (Jvm.Cond.and given_1 narrow_1).before args s = true
def lw_Q (_ : Array Value) (s : State) (o : Outcome) (t : State) : Prop := o = .returned (some (.int 1)) ∧ Framed s o t [] 600000 7302250
def lw_Z (below : List Frame) (a : Array Value) (s : State) : State → Prop := fun t => ∃ o, t.status = .running ∧ Ended t below o ∧ lw_Q a s o t
/-- the law's own end, with 1 on the stack, nothing written that was there before, its room as the claim has it -/
theorem lw_ret {p : Program} {l : Launch} {e : Env} {s : State} {m : MethodId} {below : List Frame} {meth : Method} {c : Code} {b : Nat} (hx : p.tables.exec = Jvm.exec) (hb : c.code = code) (hr : meth.sig.returnType = ret) (hlocks : meth.locks = false) {pc : Nat} {H : Heap} {ls : Array Slot} (hdg : decode code pc = .ok (.ireturn, 1)) : W p l e room_1 s m #[Value.ref b] below meth c H [] 600000 7302250 (lw_Z below #[Value.ref b] s) (F0 m pc ls [.int 1]) := by
  intro T hT X
  obtain ⟨fs, hret, hrun, hended, hW, hframe⟩ := X.leave (v := some (.int 1)) (hlocks := hlocks) (fun h => by rw [hr] at h; cases h)
  have hmeth' : T.vm.method? m = some meth := X.method'
  refine ⟨T.setFrames fs, ?_, .returned (some (.int 1)), hrun, hended, rfl, ⟨_, rfl⟩, hW, hframe⟩
  jvm_step X.here [X.here.top, hx, hb, hdg, hmeth', hr, ret, narrow_b1]
  (try refine ⟨rfl, ?_⟩); (try refine ⟨rfl, ?_⟩)
  first | (intro acts; rw [hret _ acts rfl rfl rfl]) | rw [hret _ _ rfl rfl rfl]
  exact Steps.refl _
/-- what holds at the law's entry: the machine, the code, the tables' words (any of lw_tbl by 'hts w (by decide +kernel)'), the script of L ints xs at the cell b, what the Statement gives of the start (any of its parts by flat_of_before) -/
def lw_At (p : Program) (s : State) (m : MethodId) (meth : Method) (c : Code) (b L : Nat) (xs : Nat → Int32) : Prop :=
  p.tables.exec = Jvm.exec ∧ c.code = code ∧ meth.sig.returnType = ret ∧ c.maxLocals = 4 ∧ s.vm.findClass R_law = some m.cls ∧ (∀ w ∈ lw_tbl, w.before #[Value.ref b] s = true) ∧ va_X b L xs s s.heap ∧ b < s.heap.size ∧ meth.locks = false ∧ (Jvm.Cond.and given_1 narrow_1).before #[Value.ref b] s = true
/-! the law's own frame: its script, its end -/
def aScr (X : aX) (L : Nat) (sc : Nat → Int) : Prop := match X with
  | (p, l, e, Rm, s, m, args, below, meth, c, Q, E) => ∃ xs : Nat → Int32, (∀ k, sc k = (xs k).toInt) ∧ va_X (E.2.2.2.2.1 300) L xs s s.heap ∧ E.2.2.2.2.1 300 < E.1
def aLz (X : aX) : Prop := match X with
  | (p, l, e, Rm, s, m, args, below, meth, c, Q, E) => Rm = room_1 ∧ E.1 = s.heap.size ∧ ∃ b : Nat, args = #[Value.ref b] ∧ Q = lw_Z below #[Value.ref b] s
theorem aScr_r {X : aX} {L : Nat} {sc : Nat → Int} (h : aScr X L sc) (k : Nat) : -2147483648 ≤ sc k ∧ sc k < 2147483648 := by
  obtain ⟨p, l, e, Rm, s, m, args, below, meth, c, Q, E⟩ := X
  obtain ⟨xs, h1, -⟩ := h
  have h2 := w32_r (xs k).toInt
  have h3 : w32 (xs k).toInt = (xs k).toInt := by unfold w32; rw [n_of]
  rw [h1 k, ← h3]
  exact h2
section LAWR
variable {l0 : Launch} {X : aX} {cc : ByteArray} {nL : Nat} {own : String} {rt : Option FieldType} {d mc ms : Nat} {pc : Nat} {lv : List (Option aV)} {st : List aV} {I J : aI1} {R : aR1} {S : aS1} {uc us : Nat}
theorem ww_slen (hX : aK l0 X cc nL own rt d mc ms) {L : Nat} {sc : Nat → Int} (hsc : aScr X L sc) (hd : decode cc pc = .ok (.arraylength, 1)) (k : WW X (pc + 1) lv (kI (L : Int) :: st) I J R S uc us) : WW X pc lv (kS 300 :: st) I J R S uc us := by
  obtain ⟨p, l, e, Rm, s, m, args, below, meth, c, Q, E⟩ := X
  obtain ⟨hl0, hx, hb, hr, hml, hown, hts, hlocks, hK, hz0, hR, hStr⟩ := hX
  obtain ⟨xs, h1, h2, h3⟩ := hsc
  intro H locs ls hP hS hz hl
  have h4 : E.2.2.2.2.1 300 < s.heap.size := Nat.lt_of_lt_of_le h3 hz0
  have h5 : ¬ (fun q : Nat => E.1 ≤ q) (E.2.2.2.2.1 300) := Nat.not_le.mpr h3
  exact va_slen hx hb h2 h4 h5 hS hd (k H locs ls hP hS hz hl)
theorem ww_sld (hX : aK l0 X cc nL own rt d mc ms) {L : Nat} {sc : Nat → Int} (hsc : aScr X L sc) {i : Int} (h0 : 0 ≤ i) (h1 : i < L) (hL : L < 2147483648) (hd : decode cc pc = .ok (.iaload, 1)) (k : WW X (pc + 1) lv (kI (sc i.toNat) :: st) I J R S uc us) : WW X pc lv (kI i :: kS 300 :: st) I J R S uc us := by
  obtain ⟨p, l, e, Rm, s, m, args, below, meth, c, Q, E⟩ := X
  obtain ⟨hl0, hx, hb, hr, hml, hown, hts, hlocks, hK, hz0, hR, hStr⟩ := hX
  obtain ⟨xs, g1, g2, g3⟩ := hsc
  intro H locs ls hP hS hz hl
  have h4 : E.2.2.2.2.1 300 < s.heap.size := Nat.lt_of_lt_of_le g3 hz0
  have h5 : ¬ (fun q : Nat => E.1 ≤ q) (E.2.2.2.2.1 300) := Nat.not_le.mpr g3
  have h6 := n_in h0 h1 hL
  refine va_sld hx hb g2 h4 h5 hS h6.1 hd ?_
  have h7 := k H locs ls hP hS hz hl
  rw [h6.2]
  rw [g1] at h7
  have h8 : aC E (kI (xs i.toNat).toInt) = .int (xs i.toNat) := by rw [aC_I, n_of]
  rw [List.map_cons, h8] at h7
  exact h7
theorem ww_lend (hX : aK l0 X code nL own ret d mc ms) (hZ : aLz X) (hc : uc ≤ 600000) (hs : us ≤ 7302250) (hd : decode code pc = .ok (.ireturn, 1)) : WW X pc lv [kI 1] I J R S uc us := by
  obtain ⟨p, l, e, Rm, s, m, args, below, meth, c, Q, E⟩ := X
  obtain ⟨hl0, hx, hb, hr, hml, hown, hts, hlocks, hK, hz0, hR, hStr⟩ := hX
  obtain ⟨rfl, hE, b, rfl, rfl⟩ := hZ
  intro H locs ls hP hS hz hl
  refine va_forget (fun q hq => by have h9 := hS.2.2 q hq; rw [← hE]; exact h9) ?_
  refine W.widen (k := 600000) (n := 7302250) hc hs ?_
  exact lw_ret hx hb hr hlocks hd
theorem vD0 (hX : aK l0 X cc nL own rt d mc ms) {idx ci b nb d' mc' ms' : Nat} {M : aM} {p : Int → aI1 → aI1 → aR1 → aS1 → Prop} (hsi : aSV own idx M 0 ci) (hbs : S[b]? = some (ci + 6, nb)) (hM : CT l0 d' mc' ms' M [kR (some b)] I J R S (dI p)) (hd1 : d' + 1 ≤ d) (hc : uc + mc' ≤ mc) (hs : us + ms' ≤ ms) (hcat : aCat st ≤ 8) (hd : decode cc pc = .ok (.invokevirtual idx, 3)) (kk : ∀ x I' J' R' S', p x I' J' R' S' → WW X (pc + 3) lv (kI x :: st) I' J' R' S' (uc + mc') (us + ms')) : WW X pc lv (kR (some b) :: st) I J R S uc us :=
  ww_callV (av := []) hX hsi hbs hM rfl hd1 hc hs hcat hd (fun r I' J' R' S' h => by obtain ⟨x, rfl, h⟩ := h; exact kk x I' J' R' S' h)
theorem vD1 (hX : aK l0 X cc nL own rt d mc ms) {idx ci b nb d' mc' ms' : Nat} {M : aM} {a1 : aV} {p : Int → aI1 → aI1 → aR1 → aS1 → Prop} (hsi : aSV own idx M 1 ci) (hbs : S[b]? = some (ci + 6, nb)) (hM : CT l0 d' mc' ms' M [kR (some b), a1] I J R S (dI p)) (hd1 : d' + 1 ≤ d) (hc : uc + mc' ≤ mc) (hs : us + ms' ≤ ms) (hcat : aCat st ≤ 8) (hd : decode cc pc = .ok (.invokevirtual idx, 3)) (kk : ∀ x I' J' R' S', p x I' J' R' S' → WW X (pc + 3) lv (kI x :: st) I' J' R' S' (uc + mc') (us + ms')) : WW X pc lv (a1 :: kR (some b) :: st) I J R S uc us :=
  ww_callV (av := [a1]) hX hsi hbs hM rfl hd1 hc hs hcat hd (fun r I' J' R' S' h => by obtain ⟨x, rfl, h⟩ := h; exact kk x I' J' R' S' h)
end LAWR
theorem RX_mid {I I' : aI1} (h : RX I) (e : ∀ k, 49 ≤ k → k < 73 → I' k = I k) : RX I' := by
  unfold RX at h ⊢
  rw [e 49 (by decide) (by decide), e 51 (by decide) (by decide), e 52 (by decide) (by decide), e 53 (by decide) (by decide), e 54 (by decide) (by decide), e 61 (by decide) (by decide)]
  exact h
theorem RX_low {I I' : aI1} (h : RX I) (hk : Kp 0 49 I I') : RX I' := RX_mid h (fun k h1 _ => hk k (by omega))
theorem CI_ref {I I' : aI1} {R : aR1} {S : aS1} (h : CI I R S) (hk : Kp 49 73 I I') : CI I' R S :=
  ⟨h.1, CX_lo h.2.1 (fun k h1 => hk k (by omega)), LawsOK_hi h.2.2.1 (fun _ _ => rfl) (fun k h1 _ => hk k (by omega)) (fun _ _ _ => rfl) SX_rf, fun i hi c hc => CoastOK_hi (h.2.2.2 i hi c hc) (fun k h1 _ => hk k (by omega)) (fun _ _ _ => rfl) SX_rf⟩
