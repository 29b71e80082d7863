section WCL
variable {l0 : Launch} {X : aX} {cc : ByteArray} {nL : Nat} {own : String} {rt : Option FieldType} {d mc ms : Nat} {pc : Nat} {lv : List (Option aV)} {st : List aV} {I J : aI1} {R : aR1} {S : aS1} {uc us : Nat}
theorem ww_clone (hX : aK l0 X cc nL own rt d mc ms) {idx k0 n0 : Nat} (g1 : Cond.methodLink own idx ⟨"[I", "clone", "()Ljava/lang/Object;"⟩ ∈ aTb) (hs0 : S[k0]? = some (0, n0)) (hd1 : 1 ≤ d) (hcat : aCat st ≤ 8) (hc1 : uc + 1 ≤ mc) (hs1 : us + n0 ≤ ms) (hd : decode cc pc = .ok (.invokevirtual idx, 3))
    (kk : WW X (pc + 3) lv (kR (some S.length) :: st) (upR I S.length (I k0)) J R (S ++ [(0, n0)]) (uc + 1) (us + n0)) : WW X pc lv (kR (some k0) :: st) I J R S uc us := by
  obtain ⟨p, l, e, Rm, s, m, args, below, meth, c, Q, E⟩ := X
  obtain ⟨hl0, hx, hb, hr, hml, hown, hts, hlocks, hK, hz0, hR, hStr⟩ := hX
  intro H locs ls hP hS hz hl
  have hcl : va_Nw (.castable "[I" "java/lang/Cloneable") s := hStr.2.2.2.2.2.2.2
  have hnm : s.vm.findClass "[I" = some (E.2.2.2.1 0) := (hK.2 0 _ rfl).2
  obtain ⟨c0, t0', f1, f2, f3⟩ := Cond.castable_spec (va_Nw.use (A := args) rfl hcl)
  cases hnm.symm.trans f1
  have hcell : H[E.1 + k0]? = some (vp_cell (E.2.2.2.1 0) (n0, .inl (fun j => Int32.ofInt (I k0 j)))) := hP k0 _ (aW_at E I J R hs0)
  intro T hT X
  obtain ⟨-, kA, hkA, comp, hkind⟩ := State.isArrayOf_alike X.warmed.alike ((hK.2 0 _ rfl).1 0 (fun _ => .null))
  obtain ⟨-, kS, hkS, compS, hkindS⟩ := (hK.2 0 _ rfl).1 0 (fun _ => .null)
  have hsz : (vp_cell (E.2.2.2.1 0) (n0, .inl (fun j => Int32.ofInt (I k0 j)))).slots.size = n0 := arrV_size _ _ _
  obtain ⟨vm', X', st'⟩ := X.cloneArray hx hown (hts _ g1) (hts _ tk_same) (hts _ tk_nat) (hts _ tk_inst) (hts _ tk_sel) (a := E.1 + k0) (cell := vp_cell (E.2.2.2.1 0) (n0, .inl (fun j => Int32.ofInt (I k0 j)))) (by rw [hT]; exact hcell) (fun k h => by cases h) (fun h => by cases h) hnm f2 f3
    (fun i v hv => by
      have hk' : T.vm.classes[E.2.2.2.1 0]? = some kA := hkA
      have h9 := va_fit (cA := E.2.2.2.1 0) (ty := .int) (F := fun j => .int (Int32.ofInt (I k0 j))) (n := n0) (fun _ _ => rfl) i v hv
      show T.fitsSlot (E.2.2.2.1 0) _ i v = true
      simpa [State.fitsSlot, State.slotType?, hk', hkind] using h9)
    (g := F0 m pc ls ((kR (some k0) :: st).map (aC E))) (rest := st.map (aC E)) rfl hl.1 rfl (by rw [hb]; exact hd) (by have := hR.1; omega) (by show 2 * 0 + _ + 14 ≤ _; rw [aCat_eq]; have := hR.2.1; omega) (by rw [hR.2.2.1]; exact hc1) (by rw [hsz, hR.2.2.2]; exact hs1) (hloader := Vm.clonesLoader_of_array hkS hkindS)
  rw [hsz] at X'
  generalize hH1 : H.push (vp_cell (E.2.2.2.1 0) (n0, .inl (fun j => Int32.ofInt (I k0 j)))) = H1
  have z1 : H1.size = H.size + 1 := by rw [← hH1, Array.size_push]
  have e1 : H1[H.size]? = some (vp_cell (E.2.2.2.1 0) (n0, .inl (fun j => Int32.ofInt (I k0 j)))) := by rw [← hH1, Array.getElem?_push_size]
  have o1 : ∀ q : Nat, q < H.size → H1[q]? = H[q]? := fun q hq => by rw [← hH1, Array.getElem?_push, if_neg (Nat.ne_of_lt hq)]
  have hk : ∀ (k : Nat) (y : Nat × va_E), (aW E I J R S)[k]? = some y → H1[y.1]? = H[y.1]? := fun k y hy => o1 y.1 ((hP k y hy).lt)
  have kk := kk H1 locs ls ?_ ⟨Nat.le_trans hS.1 (by omega), fun x h1 h2 => (o1 x (Nat.lt_of_lt_of_le h1 hS.1)).trans (hS.2.1 x h1 h2), hS.2.2⟩ (by rw [z1, hz, List.length_append]; rfl) hl
  · rw [List.map_cons, aC_R, ← hz] at kk
    obtain ⟨t, b1, b2⟩ := kk ((T.setVm vm').pushCell (vp_cell (E.2.2.2.1 0) (n0, .inl (fun j => Int32.ofInt (I k0 j))))) (by rw [← hH1, ← hT]; rfl) X'
    refine ⟨t, st' t ?_, b2⟩
    rw [hT]
    exact b1
  · rw [← aW_push E (fun a h => upR_n _ _ h) (fun _ _ => rfl) (fun _ _ => rfl)]
    refine (hP.kept hk).app (fun k x hx => ?_)
    have hz9 : k < 1 := (List.getElem?_eq_some_iff.mp hx).1
    rw [show k = 0 by omega] at hx
    cases hx
    rw [upR_s, ← hz]
    exact e1
theorem ww_clonez (hX : aK l0 X cc nL own rt d mc ms) {idx k0 n0 z : Nat} (hz : S.length = z) (g1 : Cond.methodLink own idx ⟨"[I", "clone", "()Ljava/lang/Object;"⟩ ∈ aTb) (hs0 : S[k0]? = some (0, n0)) (hd1 : 1 ≤ d) (hcat : aCat st ≤ 8) (hc1 : uc + 1 ≤ mc) (hs1 : us + n0 ≤ ms) (hd : decode cc pc = .ok (.invokevirtual idx, 3))
    (kk : WW X (pc + 3) lv (kR (some z) :: st) (upR I z (I k0)) J R (S ++ [(0, n0)]) (uc + 1) (us + n0)) : WW X pc lv (kR (some k0) :: st) I J R S uc us := by
  subst hz; exact ww_clone hX g1 hs0 hd1 hcat hc1 hs1 hd kk
theorem ww_castI (hX : aK l0 X cc nL own rt d mc ms) {idx k0 n0 : Nat} (g1 : Cond.classLink own idx "[I" ∈ aTb) (hs0 : S[k0]? = some (0, n0)) (hd : decode cc pc = .ok (.checkcast idx, 3))
    (kk : WW X (pc + 3) lv (kR (some k0) :: st) I J R S uc us) : WW X pc lv (kR (some k0) :: st) I J R S uc us := by
  obtain ⟨p, l, e, Rm, s, m, args, below, meth, c, Q, E⟩ := X
  obtain ⟨hl0, hx, hb, hr, hml, hown, hts, hlocks, hK, hz0, hR, hStr⟩ := hX
  intro H locs ls hP hS hz hl
  exact va_castA hx hb hown (hts _ g1) hP k0 (aW_at E I J R hs0) (hK.2 0 _ rfl).2 hd (kk H locs ls hP hS hz hl)
theorem ww_na_intz (hX : aK l0 X cc nL own rt d mc ms) {i : Int} {N z : Nat} (hz : S.length = z) (h1 : Cond.arrayClass .int ∈ aTb) (hi : i = (N : Int)) (hi1 : N ≤ 65536) (hc1 : uc + 1 ≤ mc) (hs1 : us + N ≤ ms) (hd : decode cc pc = .ok (.newarray .int, 2))
    (kk : WW X (pc + 2) lv (kR (some z) :: st) (upR I z (fun _ => 0)) J R (S ++ [(0, N)]) (uc + 1) (us + N)) : WW X pc lv (kI i :: st) I J R S uc us := by
  subst hz; exact ww_na_int hX h1 hi hi1 hc1 hs1 hd kk
theorem ww_na_longz (hX : aK l0 X cc nL own rt d mc ms) {i : Int} {N z : Nat} (hz : S.length = z) (h1 : Cond.arrayClass .long ∈ aTb) (hi : i = (N : Int)) (hi1 : N ≤ 65536) (hc1 : uc + 1 ≤ mc) (hs1 : us + N ≤ ms) (hd : decode cc pc = .ok (.newarray .long, 2))
    (kk : WW X (pc + 2) lv (kR (some z) :: st) I (upR J z (fun _ => 0)) R (S ++ [(1, N)]) (uc + 1) (us + N)) : WW X pc lv (kI i :: st) I J R S uc us := by
  subst hz; exact ww_na_long hX h1 hi hi1 hc1 hs1 hd kk
theorem ww_na_bytez (hX : aK l0 X cc nL own rt d mc ms) {i : Int} {N z : Nat} (hz : S.length = z) (h1 : Cond.arrayClass .byte ∈ aTb) (hi : i = (N : Int)) (hi1 : N ≤ 65536) (hc1 : uc + 1 ≤ mc) (hs1 : us + N ≤ ms) (hd : decode cc pc = .ok (.newarray .byte, 2))
    (kk : WW X (pc + 2) lv (kR (some z) :: st) (upR I z (fun _ => 0)) J R (S ++ [(2, N)]) (uc + 1) (us + N)) : WW X pc lv (kI i :: st) I J R S uc us := by
  subst hz; exact ww_na_byte hX h1 hi hi1 hc1 hs1 hd kk
theorem ww_na_boolz (hX : aK l0 X cc nL own rt d mc ms) {i : Int} {N z : Nat} (hz : S.length = z) (h1 : Cond.arrayClass .boolean ∈ aTb) (hi : i = (N : Int)) (hi1 : N ≤ 65536) (hc1 : uc + 1 ≤ mc) (hs1 : us + N ≤ ms) (hd : decode cc pc = .ok (.newarray .boolean, 2))
    (kk : WW X (pc + 2) lv (kR (some z) :: st) (upR I z (fun _ => 0)) J R (S ++ [(3, N)]) (uc + 1) (us + N)) : WW X pc lv (kI i :: st) I J R S uc us := by
  subst hz; exact ww_na_bool hX h1 hi hi1 hc1 hs1 hd kk
theorem ww_anewz (hX : aK l0 X cc nL own rt d mc ms) {idx t z : Nat} {i : Int} {N : Nat} {C : String} (hz : S.length = z) (ht : (t = 4 ∧ C = "LitCoast$Law") ∨ (t = 5 ∧ C = "LitCoast$Coast")) (h1 : Cond.classLink own idx C ∈ aTb) (hi : i = (N : Int)) (hi1 : N ≤ 65536) (hc1 : uc + 1 ≤ mc) (hs1 : us + N ≤ ms) (hd : decode cc pc = .ok (.anewarray idx, 3))
    (kk : WW X (pc + 3) lv (kR (some z) :: st) I J (upR R z (fun _ => none)) (S ++ [(t, N)]) (uc + 1) (us + N)) : WW X pc lv (kI i :: st) I J R S uc us := by
  subst hz; exact ww_anew hX ht h1 hi hi1 hc1 hs1 hd kk
theorem ww_newz (hX : aK l0 X cc nL own rt d mc ms) {idx ci z : Nat} {C : String} {T : u_T} (nf : Nat) (hz : S.length = z) (hc : aCl ci C T) (h1 : Cond.classLink own idx C ∈ aTb) (h2 : Cond.instantiable C nf ∈ aTb) (h3 : Cond.initialized C ∈ aTb) (hnf : aN ci = nf) (hc1 : uc + 1 ≤ mc) (hs1 : us + nf ≤ ms) (hd : decode cc pc = .ok (.new idx, 3))
    (kk : WW X (pc + 3) lv (kR (some z) :: st) (upR I z (fun _ => 0)) (upR J z (fun _ => 0)) (upR R z (fun _ => none)) (S ++ [(ci + 6, 0)]) (uc + 1) (us + nf)) : WW X pc lv st I J R S uc us := by
  subst hz; subst hnf; exact ww_new hX hc h1 h2 h3 hc1 hs1 hd kk
theorem lz {S : aS1} {z : Nat} {x : Nat × Nat} (h : S.length = z) : (S ++ [x]).length = z + 1 := by simp [h]
theorem sz_l {S : aS1} {k : Nat} {sh x : Nat × Nat} (h : S[k]? = some sh) : (S ++ [x])[k]? = some sh := by
  rw [List.getElem?_append_left (List.getElem?_eq_some_iff.mp h).1]; exact h
theorem sz_n {S : aS1} {z : Nat} {x : Nat × Nat} (h : S.length = z) : (S ++ [x])[z]? = some x := by subst h; simp
def fillR (F : aI1) (k n : Nat) (v : Int) : aI1 := upR F k (fun j => if j < n then v else F k j)
end WCL
