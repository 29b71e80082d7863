section
section WCL
variable {l0 : Launch} {X : aX} {cc : ByteArray} {nL : Nat} {own : String} {rt : Option FieldType} {d mc ms : Nat} {pc : Nat} {lv : List (Option aV)} {st : List aV} {I J : aI1} {R : aR1} {S : aS1} {uc us : Nat}
theorem ww_clone (hX : aK l0 X cc nL own rt d mc ms) {idx k0 n0 : Nat} (g1 : Cond.methodLink own idx ⟨"[I", "clone", "()Ljava/lang/Object;"⟩ ∈ aTb) (hs0 : S[k0]? = some (0, n0)) (hd1 : 1 ≤ d) (hcat : aCat st ≤ 8) (hc1 : uc + 1 ≤ mc) (hs1 : us + n0 ≤ ms) (hd : decode cc pc = .ok (.invokevirtual idx, 3))
    (kk : WW X (pc + 3) lv (kR (some S.length) :: st) (upR I S.length (I k0)) J R (S ++ [(0, n0)]) (uc + 1) (us + n0)) : WW X pc lv (kR (some k0) :: st) I J R S uc us := by
  obtain ⟨p, l, e, Rm, s, m, args, below, meth, c, Q, E⟩ := X
  obtain ⟨hl0, hx, hb, hr, hml, hown, hts, hlocks, hK, hz0, hR, hStr⟩ := hX
  intro H locs ls hP hS hz hl
  have hcl : va_Nw (.castable "[I" "java/lang/Cloneable") s := hStr.2.2.2.2.2.2.2
  have hnm : s.vm.findClass "[I" = some (E.2.2.2.1 0) := (hK.2 0 _ rfl).2
  obtain ⟨c0, t0', f1, f2, f3⟩ := Cond.castable_spec (va_Nw.use (A := args) rfl hcl)
  cases hnm.symm.trans f1
  have hcell : H[E.1 + k0]? = some (vp_cell (E.2.2.2.1 0) (n0, .inl (fun j => Int32.ofInt (I k0 j)))) := hP k0 _ (aW_at E I J R hs0)
  intro T hT X
  obtain ⟨-, kA, hkA, comp, hkind⟩ := State.isArrayOf_alike X.warmed.alike ((hK.2 0 _ rfl).1 0 (fun _ => .null))
  obtain ⟨-, kS, hkS, compS, hkindS⟩ := (hK.2 0 _ rfl).1 0 (fun _ => .null)
  have hsz : (vp_cell (E.2.2.2.1 0) (n0, .inl (fun j => Int32.ofInt (I k0 j)))).slots.size = n0 := arrV_size _ _ _
  obtain ⟨vm', X', st'⟩ := X.cloneArray hx hown (hts _ g1) (hts _ tk_same) (hts _ tk_nat) (hts _ tk_inst) (hts _ tk_sel) (a := E.1 + k0) (cell := vp_cell (E.2.2.2.1 0) (n0, .inl (fun j => Int32.ofInt (I k0 j)))) (by rw [hT]; exact hcell) (fun k h => by cases h) (fun h => by cases h) hnm f2 f3
    (fun i v hv => by
      have hk' : T.vm.classes[E.2.2.2.1 0]? = some kA := hkA
      have h9 := va_fit (cA := E.2.2.2.1 0) (ty := .int) (F := fun j => .int (Int32.ofInt (I k0 j))) (n := n0) (fun _ _ => rfl) i v hv
      show T.fitsSlot (E.2.2.2.1 0) _ i v = true
      simpa [State.fitsSlot, State.slotType?, hk', hkind] using h9)
    (g := F0 m pc ls ((kR (some k0) :: st).map (aC E))) (rest := st.map (aC E)) rfl hl.1 rfl (by rw [hb]; exact hd) (by have := hR.1; omega) (by show 2 * 0 + _ + 14 ≤ _; rw [aCat_eq]; have := hR.2.1; omega) (by rw [hR.2.2.1]; exact hc1) (by rw [hsz, hR.2.2.2]; exact hs1) (hloader := Vm.clonesLoader_of_array hkS hkindS)
  rw [hsz] at X'
  generalize hH1 : H.push (vp_cell (E.2.2.2.1 0) (n0, .inl (fun j => Int32.ofInt (I k0 j)))) = H1
  have z1 : H1.size = H.size + 1 := by rw [← hH1, Array.size_push]
  have e1 : H1[H.size]? = some (vp_cell (E.2.2.2.1 0) (n0, .inl (fun j => Int32.ofInt (I k0 j)))) := by rw [← hH1, Array.getElem?_push_size]
  have o1 : ∀ q : Nat, q < H.size → H1[q]? = H[q]? := fun q hq => by rw [← hH1, Array.getElem?_push, if_neg (Nat.ne_of_lt hq)]
  have hk : ∀ (k : Nat) (y : Nat × va_E), (aW E I J R S)[k]? = some y → H1[y.1]? = H[y.1]? := fun k y hy => o1 y.1 ((hP k y hy).lt)
  have kk := kk H1 locs ls ?_ ⟨Nat.le_trans hS.1 (by omega), fun x h1 h2 => (o1 x (Nat.lt_of_lt_of_le h1 hS.1)).trans (hS.2.1 x h1 h2), hS.2.2⟩ (by rw [z1, hz, List.length_append]; rfl) hl
  · rw [List.map_cons, aC_R, ← hz] at kk
    obtain ⟨t, b1, b2⟩ := kk ((T.setVm vm').pushCell (vp_cell (E.2.2.2.1 0) (n0, .inl (fun j => Int32.ofInt (I k0 j))))) (by rw [← hH1, ← hT]; rfl) X'
    refine ⟨t, st' t ?_, b2⟩
    rw [hT]
    exact b1
  · rw [← aW_push E (fun a h => upR_n _ _ h) (fun _ _ => rfl) (fun _ _ => rfl)]
    refine (hP.kept hk).app (fun k x hx => ?_)
    have hz9 : k < 1 := (List.getElem?_eq_some_iff.mp hx).1
    rw [show k = 0 by omega] at hx
    cases hx
    rw [upR_s, ← hz]
    exact e1
theorem ww_clonez (hX : aK l0 X cc nL own rt d mc ms) {idx k0 n0 z : Nat} (hz : S.length = z) (g1 : Cond.methodLink own idx ⟨"[I", "clone", "()Ljava/lang/Object;"⟩ ∈ aTb) (hs0 : S[k0]? = some (0, n0)) (hd1 : 1 ≤ d) (hcat : aCat st ≤ 8) (hc1 : uc + 1 ≤ mc) (hs1 : us + n0 ≤ ms) (hd : decode cc pc = .ok (.invokevirtual idx, 3))
    (kk : WW X (pc + 3) lv (kR (some z) :: st) (upR I z (I k0)) J R (S ++ [(0, n0)]) (uc + 1) (us + n0)) : WW X pc lv (kR (some k0) :: st) I J R S uc us := by
  subst hz; exact ww_clone hX g1 hs0 hd1 hcat hc1 hs1 hd kk
theorem ww_castI (hX : aK l0 X cc nL own rt d mc ms) {idx k0 n0 : Nat} (g1 : Cond.classLink own idx "[I" ∈ aTb) (hs0 : S[k0]? = some (0, n0)) (hd : decode cc pc = .ok (.checkcast idx, 3))
    (kk : WW X (pc + 3) lv (kR (some k0) :: st) I J R S uc us) : WW X pc lv (kR (some k0) :: st) I J R S uc us := by
  obtain ⟨p, l, e, Rm, s, m, args, below, meth, c, Q, E⟩ := X
  obtain ⟨hl0, hx, hb, hr, hml, hown, hts, hlocks, hK, hz0, hR, hStr⟩ := hX
  intro H locs ls hP hS hz hl
  exact va_castA hx hb hown (hts _ g1) hP k0 (aW_at E I J R hs0) (hK.2 0 _ rfl).2 hd (kk H locs ls hP hS hz hl)
theorem ww_na_intz (hX : aK l0 X cc nL own rt d mc ms) {i : Int} {N z : Nat} (hz : S.length = z) (h1 : Cond.arrayClass .int ∈ aTb) (hi : i = (N : Int)) (hi1 : N ≤ 65536) (hc1 : uc + 1 ≤ mc) (hs1 : us + N ≤ ms) (hd : decode cc pc = .ok (.newarray .int, 2))
    (kk : WW X (pc + 2) lv (kR (some z) :: st) (upR I z (fun _ => 0)) J R (S ++ [(0, N)]) (uc + 1) (us + N)) : WW X pc lv (kI i :: st) I J R S uc us := by
  subst hz; exact ww_na_int hX h1 hi hi1 hc1 hs1 hd kk
theorem ww_na_longz (hX : aK l0 X cc nL own rt d mc ms) {i : Int} {N z : Nat} (hz : S.length = z) (h1 : Cond.arrayClass .long ∈ aTb) (hi : i = (N : Int)) (hi1 : N ≤ 65536) (hc1 : uc + 1 ≤ mc) (hs1 : us + N ≤ ms) (hd : decode cc pc = .ok (.newarray .long, 2))
    (kk : WW X (pc + 2) lv (kR (some z) :: st) I (upR J z (fun _ => 0)) R (S ++ [(1, N)]) (uc + 1) (us + N)) : WW X pc lv (kI i :: st) I J R S uc us := by
  subst hz; exact ww_na_long hX h1 hi hi1 hc1 hs1 hd kk
theorem ww_na_bytez (hX : aK l0 X cc nL own rt d mc ms) {i : Int} {N z : Nat} (hz : S.length = z) (h1 : Cond.arrayClass .byte ∈ aTb) (hi : i = (N : Int)) (hi1 : N ≤ 65536) (hc1 : uc + 1 ≤ mc) (hs1 : us + N ≤ ms) (hd : decode cc pc = .ok (.newarray .byte, 2))
    (kk : WW X (pc + 2) lv (kR (some z) :: st) (upR I z (fun _ => 0)) J R (S ++ [(2, N)]) (uc + 1) (us + N)) : WW X pc lv (kI i :: st) I J R S uc us := by
  subst hz; exact ww_na_byte hX h1 hi hi1 hc1 hs1 hd kk
theorem ww_na_boolz (hX : aK l0 X cc nL own rt d mc ms) {i : Int} {N z : Nat} (hz : S.length = z) (h1 : Cond.arrayClass .boolean ∈ aTb) (hi : i = (N : Int)) (hi1 : N ≤ 65536) (hc1 : uc + 1 ≤ mc) (hs1 : us + N ≤ ms) (hd : decode cc pc = .ok (.newarray .boolean, 2))
    (kk : WW X (pc + 2) lv (kR (some z) :: st) (upR I z (fun _ => 0)) J R (S ++ [(3, N)]) (uc + 1) (us + N)) : WW X pc lv (kI i :: st) I J R S uc us := by
  subst hz; exact ww_na_bool hX h1 hi hi1 hc1 hs1 hd kk
theorem ww_anewz (hX : aK l0 X cc nL own rt d mc ms) {idx t z : Nat} {i : Int} {N : Nat} {C : String} (hz : S.length = z) (ht : (t = 4 ∧ C = "LitCoast$Law") ∨ (t = 5 ∧ C = "LitCoast$Coast")) (h1 : Cond.classLink own idx C ∈ aTb) (hi : i = (N : Int)) (hi1 : N ≤ 65536) (hc1 : uc + 1 ≤ mc) (hs1 : us + N ≤ ms) (hd : decode cc pc = .ok (.anewarray idx, 3))
    (kk : WW X (pc + 3) lv (kR (some z) :: st) I J (upR R z (fun _ => none)) (S ++ [(t, N)]) (uc + 1) (us + N)) : WW X pc lv (kI i :: st) I J R S uc us := by
  subst hz; exact ww_anew hX ht h1 hi hi1 hc1 hs1 hd kk
theorem ww_newz (hX : aK l0 X cc nL own rt d mc ms) {idx ci z : Nat} {C : String} {T : u_T} (nf : Nat) (hz : S.length = z) (hc : aCl ci C T) (h1 : Cond.classLink own idx C ∈ aTb) (h2 : Cond.instantiable C nf ∈ aTb) (h3 : Cond.initialized C ∈ aTb) (hnf : aN ci = nf) (hc1 : uc + 1 ≤ mc) (hs1 : us + nf ≤ ms) (hd : decode cc pc = .ok (.new idx, 3))
    (kk : WW X (pc + 3) lv (kR (some z) :: st) (upR I z (fun _ => 0)) (upR J z (fun _ => 0)) (upR R z (fun _ => none)) (S ++ [(ci + 6, 0)]) (uc + 1) (us + nf)) : WW X pc lv st I J R S uc us := by
  subst hz; subst hnf; exact ww_new hX hc h1 h2 h3 hc1 hs1 hd kk
theorem lz {S : aS1} {z : Nat} {x : Nat × Nat} (h : S.length = z) : (S ++ [x]).length = z + 1 := by simp [h]
theorem sz_l {S : aS1} {k : Nat} {sh x : Nat × Nat} (h : S[k]? = some sh) : (S ++ [x])[k]? = some sh := by
  rw [List.getElem?_append_left (List.getElem?_eq_some_iff.mp h).1]; exact h
theorem sz_n {S : aS1} {z : Nat} {x : Nat × Nat} (h : S.length = z) : (S ++ [x])[z]? = some x := by subst h; simp
def fillR (F : aI1) (k n : Nat) (v : Int) : aI1 := upR F k (fun j => if j < n then v else F k j)
end WCL
end
section
def nI_X1 (F : aI1) (o z : Nat) : aI1 := (fillR (fillR (up2 (up2 (upR (upR (upR (upR F z (fun _ => 0)) (z + 1) (fun _ => 0)) (z + 3) (fun _ => 0)) (z + 4) (fun _ => 0)) o 5 3) o 6 4) z 8 1) (z + 1) 256 (-1))
def nJ_X1 (F : aI1) (o z : Nat) : aI1 := F
def nR_X1 (F : aR1) (o z : Nat) : aR1 := (up2 (up2 (up2 (upR (up2 (up2 F o 0 (some z)) o 1 (some (z + 1))) (z + 2) (fun _ => none)) o 2 (some (z + 2))) o 3 (some (z + 3))) o 4 (some (z + 4)))
def nS_X1 (F : aS1) (o z : Nat) : aS1 := (((((F ++ [(0, 8)]) ++ [(0, 256)]) ++ [(4, 6)]) ++ [(0, 24)]) ++ [(0, 16)])
set_option maxHeartbeats 4000000 in
set_option maxRecDepth 20000 in
theorem c_X1_init (l0 : Launch) {Ia Ja : aI1} {Ra : aR1} {Sa : aS1} {o z : Nat} (hz : Sa.length = z) (ho : Sa[o]? = some (7, 0))  : CT l0 1 5 310 mX1_init [kR (some o)] Ia Ja Ra Sa (dV (fun I' J' R' S' => nI_X1 Ia o z = I' ∧ nJ_X1 Ja o z = J' ∧ nR_X1 Ra o z = R' ∧ nS_X1 Sa o z = S')) := by
  refine ct_in pn_X1 (Nat.le_of_ble_eq_true rfl) (fun X hX hT hIn => ?_)
  have hX : aK l0 X cX1_init 1 RX1 none 1 5 310 := hX
  change WW X 0 [some (kR (some o))] [] Ia Ja Ra Sa 0 0
  have hoz : o < z := by rw [← hz]; exact (List.getElem?_eq_some_iff.mp ho).1
  refine ww_aload_n hX (pc := 0) dX1_init_0 rfl ?_
  refine ww_objInit hX (pc := 1) tb_34 tb_27 tb_28 (by decide) (Nat.le_of_ble_eq_true rfl) dX1_init_1 ?_
  refine ww_aload_n hX (pc := 4) dX1_init_4 rfl ?_
  refine ww_bipush hX (pc := 5) (x := 8) dX1_init_5 (by decide) ?_
  refine ww_na_intz hX (pc := 7) (N := 8) (z := z) hz tb_103 rfl (by omega) (by omega) (by omega) dX1_init_7 ?_
  refine ww_putR hX (pc := 9) (fun _ => hIn rfl) gX1_9 (by decide) (sz_l ho) dX1_init_9 ?_
  refine ww_aload_n hX (pc := 12) dX1_init_12 rfl ?_
  refine ww_sipush hX (pc := 13) (x := 256) dX1_init_13 (by decide) ?_
  refine ww_na_intz hX (pc := 16) (N := 256) (z := (z + 1)) (lz hz) tb_103 rfl (by omega) (by omega) (by omega) dX1_init_16 ?_
  refine ww_putR hX (pc := 18) (fun _ => hIn rfl) gX1_15 (by decide) (sz_l (sz_l ho)) dX1_init_18 ?_
  refine ww_aload_n hX (pc := 21) dX1_init_21 rfl ?_
  refine ww_bipush hX (pc := 22) (x := 6) dX1_init_22 (by decide) ?_
  refine ww_anewz hX (pc := 24) (N := 6) (z := (z + 2)) (lz (lz hz)) (Or.inl ⟨rfl, rfl⟩) tb_35 rfl (by omega) (by omega) (by omega) dX1_init_24 ?_
  refine ww_putR hX (pc := 27) (fun _ => hIn rfl) gX1_20 (by decide) (sz_l (sz_l (sz_l ho))) dX1_init_27 ?_
  refine ww_aload_n hX (pc := 30) dX1_init_30 rfl ?_
  refine ww_bipush hX (pc := 31) (x := 24) dX1_init_31 (by decide) ?_
  refine ww_na_intz hX (pc := 33) (N := 24) (z := (z + 3)) (lz (lz (lz hz))) tb_103 rfl (by omega) (by omega) (by omega) dX1_init_33 ?_
  refine ww_putR hX (pc := 35) (fun _ => hIn rfl) gX1_24 (by decide) (sz_l (sz_l (sz_l (sz_l ho)))) dX1_init_35 ?_
  refine ww_aload_n hX (pc := 38) dX1_init_38 rfl ?_
  refine ww_bipush hX (pc := 39) (x := 16) dX1_init_39 (by decide) ?_
  refine ww_na_intz hX (pc := 41) (N := 16) (z := (z + 4)) (lz (lz (lz (lz hz)))) tb_103 rfl (by omega) (by omega) (by omega) dX1_init_41 ?_
  refine ww_putR hX (pc := 43) (fun _ => hIn rfl) gX1_27 (by decide) (sz_l (sz_l (sz_l (sz_l (sz_l ho))))) dX1_init_43 ?_
  refine ww_aload_n hX (pc := 46) dX1_init_46 rfl ?_
  refine ww_iconst hX (pc := 47) (x := 3) dX1_init_47 rfl ?_
  refine ww_putI hX (pc := 48) (fun h9 => absurd h9 (by decide)) gX1_30 rfl (sz_l (sz_l (sz_l (sz_l (sz_l ho))))) dX1_init_48 ?_
  refine ww_aload_n hX (pc := 51) dX1_init_51 rfl ?_
  refine ww_iconst hX (pc := 52) (x := 4) dX1_init_52 rfl ?_
  refine ww_putI hX (pc := 53) (fun h9 => absurd h9 (by decide)) gX1_34 rfl (sz_l (sz_l (sz_l (sz_l (sz_l ho))))) dX1_init_53 ?_
  refine ww_aload_n hX (pc := 56) dX1_init_56 rfl ?_
  refine ww_getR hX (pc := 57) fX1_9 (by decide) (sz_l (sz_l (sz_l (sz_l (sz_l ho))))) (by rw [up2_n _ _ (Or.inr (by decide)), up2_n _ _ (Or.inr (by decide)), up2_n _ _ (Or.inr (by decide)), upR_n _ _ (by omega), up2_n _ _ (Or.inr (by decide)), up2_s]) dX1_init_57 ?_
  refine ww_iconst hX (pc := 60) (x := 1) dX1_init_60 rfl ?_
  refine sV2 hX (pc := 61) sX1_37 (c_J7_fill_53178 l0 (sz_l (sz_l (sz_l (sz_l (sz_n hz))))) (by decide)) (by decide) (by omega) (by omega) (Nat.le_of_ble_eq_true rfl) dX1_init_61 (fun I_61 J_61 h_61 => ?_)
  obtain ⟨rfl, h_61⟩ := h_61
  subst h_61
  refine ww_aload_n hX (pc := 64) dX1_init_64 rfl ?_
  refine ww_getR hX (pc := 65) fX1_15 (by decide) (sz_l (sz_l (sz_l (sz_l (sz_l ho))))) (by rw [up2_n _ _ (Or.inr (by decide)), up2_n _ _ (Or.inr (by decide)), up2_n _ _ (Or.inr (by decide)), upR_n _ _ (by omega), up2_s]) dX1_init_65 ?_
  refine ww_iconst hX (pc := 68) (x := (-1)) dX1_init_68 rfl ?_
  refine sV2 hX (pc := 69) sX1_37 (c_J7_fill_53178 l0 (sz_l (sz_l (sz_l (sz_n (lz hz))))) (by decide)) (by decide) (by omega) (by omega) (Nat.le_of_ble_eq_true rfl) dX1_init_69 (fun I_69 J_69 h_69 => ?_)
  obtain ⟨rfl, h_69⟩ := h_69
  subst h_69
  exact ww_vret hX (pc := 72) hT (by omega) (by omega) dX1_init_72 ⟨rfl, rfl, rfl, rfl, rfl⟩
def nI_X9 (F : aI1) (o z : Nat) : aI1 := (upR F z (fun _ => 0))
def nJ_X9 (F : aI1) (o z : Nat) : aI1 := F
def nR_X9 (F : aR1) (o z : Nat) : aR1 := (up2 F o 0 (some z))
def nS_X9 (F : aS1) (o z : Nat) : aS1 := (F ++ [(0, 400)])
set_option maxHeartbeats 4000000 in
set_option maxRecDepth 20000 in
theorem c_X9_init (l0 : Launch) {Ia Ja : aI1} {Ra : aR1} {Sa : aS1} {o z : Nat} (hz : Sa.length = z) (ho : Sa[o]? = some (15, 0))  : CT l0 1 1 400 mX9_init [kR (some o)] Ia Ja Ra Sa (dV (fun I' J' R' S' => nI_X9 Ia o z = I' ∧ nJ_X9 Ja o z = J' ∧ nR_X9 Ra o z = R' ∧ nS_X9 Sa o z = S')) := by
  refine ct_in pn_X9 (Nat.le_of_ble_eq_true rfl) (fun X hX hT hIn => ?_)
  have hX : aK l0 X cX9_init 1 RX9 none 1 1 400 := hX
  change WW X 0 [some (kR (some o))] [] Ia Ja Ra Sa 0 0
  have hoz : o < z := by rw [← hz]; exact (List.getElem?_eq_some_iff.mp ho).1
  refine ww_aload_n hX (pc := 0) dX9_init_0 rfl ?_
  refine ww_objInit hX (pc := 1) tb_110 tb_27 tb_28 (by decide) (Nat.le_of_ble_eq_true rfl) dX9_init_1 ?_
  refine ww_aload_n hX (pc := 4) dX9_init_4 rfl ?_
  refine ww_sipush hX (pc := 5) (x := 400) dX9_init_5 (by decide) ?_
  refine ww_na_intz hX (pc := 8) (N := 400) (z := z) hz tb_103 rfl (by omega) (by omega) (by omega) dX9_init_8 ?_
  refine ww_putR hX (pc := 10) (fun _ => hIn rfl) gX9_9 (by decide) (sz_l ho) dX9_init_10 ?_
  exact ww_vret hX (pc := 13) hT (by omega) (by omega) dX9_init_13 ⟨rfl, rfl, rfl, rfl, rfl⟩
def nI_X5 (F : aI1) (o z N : Nat) : aI1 := (upR (upR F z (fun _ => 0)) (z + 1) (fun _ => 0))
def nJ_X5 (F : aI1) (o z N : Nat) : aI1 := F
def nR_X5 (F : aR1) (o z N : Nat) : aR1 := (up2 (up2 F o 1 (some z)) o 0 (some (z + 1)))
def nS_X5 (F : aS1) (o z N : Nat) : aS1 := ((F ++ [(0, 8)]) ++ [(0, N)])
set_option maxHeartbeats 4000000 in
set_option maxRecDepth 20000 in
theorem c_X5_init (l0 : Launch) {Ia Ja : aI1} {Ra : aR1} {Sa : aS1} {o z : Nat} (hz : Sa.length = z) (ho : Sa[o]? = some (11, 0)) {N : Nat} {n : Int} (hn : n = (N : Int)) (hN : N ≤ 65536)  : CT l0 1 2 (8 + N) mX5_init [kR (some o), kI n] Ia Ja Ra Sa (dV (fun I' J' R' S' => nI_X5 Ia o z N = I' ∧ nJ_X5 Ja o z N = J' ∧ nR_X5 Ra o z N = R' ∧ nS_X5 Sa o z N = S')) := by
  refine ct_in pn_X5 (Nat.le_of_ble_eq_true rfl) (fun X hX hT hIn => ?_)
  have hX : aK l0 X cX5_init 2 RX5 none 1 2 (8 + N) := hX
  change WW X 0 [some (kR (some o)), some (kI n)] [] Ia Ja Ra Sa 0 0
  have hoz : o < z := by rw [← hz]; exact (List.getElem?_eq_some_iff.mp ho).1
  refine ww_aload_n hX (pc := 0) dX5_init_0 rfl ?_
  refine ww_objInit hX (pc := 1) tb_189 tb_27 tb_28 (by decide) (Nat.le_of_ble_eq_true rfl) dX5_init_1 ?_
  refine ww_aload_n hX (pc := 4) dX5_init_4 rfl ?_
  refine ww_bipush hX (pc := 5) (x := 8) dX5_init_5 (by decide) ?_
  refine ww_na_intz hX (pc := 7) (N := 8) (z := z) hz tb_103 rfl (by omega) (by omega) (by omega) dX5_init_7 ?_
  refine ww_putR hX (pc := 9) (fun _ => hIn rfl) gX5_9 (by decide) (sz_l ho) dX5_init_9 ?_
  refine ww_aload_n hX (pc := 12) dX5_init_12 rfl ?_
  refine ww_iload_n hX (pc := 13) dX5_init_13 rfl ?_
  refine ww_na_intz hX (pc := 14) (N := N) (z := (z + 1)) (lz hz) tb_103 (by omega) (by omega) (by omega) (by omega) dX5_init_14 ?_
  refine ww_putR hX (pc := 16) (fun _ => hIn rfl) gX5_15 (by decide) (sz_l (sz_l ho)) dX5_init_16 ?_
  exact ww_vret hX (pc := 19) hT (by omega) (by omega) dX5_init_19 ⟨rfl, rfl, rfl, rfl, rfl⟩
def nI_X7 (F : aI1) (o z t : Nat) : aI1 := (upR (upR (upR (upR (up2 F o 0 (-1)) z (fun _ => 0)) (z + 1) (fun _ => 0)) (z + 2) (fun _ => 0)) (z + 3) (fun _ => 0))
def nJ_X7 (F : aI1) (o z t : Nat) : aI1 := F
def nR_X7 (F : aR1) (o z t : Nat) : aR1 := (up2 (up2 (up2 (up2 (up2 F o 2 (some z)) o 3 (some (z + 1))) o 4 (some (z + 2))) o 5 (some (z + 3))) o 1 (some t))
def nS_X7 (F : aS1) (o z t : Nat) : aS1 := ((((F ++ [(0, 401)]) ++ [(0, 401)]) ++ [(0, 400)]) ++ [(0, 25)])
set_option maxHeartbeats 4000000 in
set_option maxRecDepth 20000 in
theorem c_X7_init (l0 : Launch) {Ia Ja : aI1} {Ra : aR1} {Sa : aS1} {o z : Nat} (hz : Sa.length = z) (ho : Sa[o]? = some (13, 0)) {t : Nat}  : CT l0 1 4 1227 mX7_init [kR (some o), kR (some t)] Ia Ja Ra Sa (dV (fun I' J' R' S' => nI_X7 Ia o z t = I' ∧ nJ_X7 Ja o z t = J' ∧ nR_X7 Ra o z t = R' ∧ nS_X7 Sa o z t = S')) := by
  refine ct_in pn_X7 (Nat.le_of_ble_eq_true rfl) (fun X hX hT hIn => ?_)
  have hX : aK l0 X cX7_init 2 RX7 none 1 4 1227 := hX
  change WW X 0 [some (kR (some o)), some (kR (some t))] [] Ia Ja Ra Sa 0 0
  have hoz : o < z := by rw [← hz]; exact (List.getElem?_eq_some_iff.mp ho).1
  refine ww_aload_n hX (pc := 0) dX7_init_0 rfl ?_
  refine ww_objInit hX (pc := 1) tb_125 tb_27 tb_28 (by decide) (Nat.le_of_ble_eq_true rfl) dX7_init_1 ?_
  refine ww_aload_n hX (pc := 4) dX7_init_4 rfl ?_
  refine ww_iconst hX (pc := 5) (x := (-1)) dX7_init_5 rfl ?_
  refine ww_putI hX (pc := 6) (fun h9 => absurd h9 (by decide)) gX7_9 rfl ho dX7_init_6 ?_
  refine ww_aload_n hX (pc := 9) dX7_init_9 rfl ?_
  refine ww_sipush hX (pc := 10) (x := 401) dX7_init_10 (by decide) ?_
  refine ww_na_intz hX (pc := 13) (N := 401) (z := z) hz tb_103 rfl (by omega) (by omega) (by omega) dX7_init_13 ?_
  refine ww_putR hX (pc := 15) (fun _ => hIn rfl) gX7_15 (by decide) (sz_l ho) dX7_init_15 ?_
  refine ww_aload_n hX (pc := 18) dX7_init_18 rfl ?_
  refine ww_sipush hX (pc := 19) (x := 401) dX7_init_19 (by decide) ?_
  refine ww_na_intz hX (pc := 22) (N := 401) (z := (z + 1)) (lz hz) tb_103 rfl (by omega) (by omega) (by omega) dX7_init_22 ?_
  refine ww_putR hX (pc := 24) (fun _ => hIn rfl) gX7_19 (by decide) (sz_l (sz_l ho)) dX7_init_24 ?_
  refine ww_aload_n hX (pc := 27) dX7_init_27 rfl ?_
  refine ww_sipush hX (pc := 28) (x := 400) dX7_init_28 (by decide) ?_
  refine ww_na_intz hX (pc := 31) (N := 400) (z := (z + 2)) (lz (lz hz)) tb_103 rfl (by omega) (by omega) (by omega) dX7_init_31 ?_
  refine ww_putR hX (pc := 33) (fun _ => hIn rfl) gX7_22 (by decide) (sz_l (sz_l (sz_l ho))) dX7_init_33 ?_
  refine ww_aload_n hX (pc := 36) dX7_init_36 rfl ?_
  refine ww_bipush hX (pc := 37) (x := 25) dX7_init_37 (by decide) ?_
  refine ww_na_intz hX (pc := 39) (N := 25) (z := (z + 3)) (lz (lz (lz hz))) tb_103 rfl (by omega) (by omega) (by omega) dX7_init_39 ?_
  refine ww_putR hX (pc := 41) (fun _ => hIn rfl) gX7_25 (by decide) (sz_l (sz_l (sz_l (sz_l ho)))) dX7_init_41 ?_
  refine ww_aload_n hX (pc := 44) dX7_init_44 rfl ?_
  refine ww_aload_n hX (pc := 45) dX7_init_45 rfl ?_
  refine ww_putR hX (pc := 46) (fun _ => hIn rfl) gX7_28 (by decide) (sz_l (sz_l (sz_l (sz_l ho)))) dX7_init_46 ?_
  exact ww_vret hX (pc := 49) hT (by omega) (by omega) dX7_init_49 ⟨rfl, rfl, rfl, rfl, rfl⟩
def nI_X0 (F : aI1) (o z : Nat) : aI1 := (upR F z (fun _ => 0))
def nJ_X0 (F : aI1) (o z : Nat) : aI1 := (upR F (z + 1) (fun _ => 0))
def nR_X0 (F : aR1) (o z : Nat) : aR1 := (up2 (up2 F o 0 (some z)) o 1 (some (z + 1)))
def nS_X0 (F : aS1) (o z : Nat) : aS1 := ((F ++ [(0, 8)]) ++ [(1, 64)])
set_option maxHeartbeats 4000000 in
set_option maxRecDepth 20000 in
theorem c_X0_init (l0 : Launch) {Ia Ja : aI1} {Ra : aR1} {Sa : aS1} {o z : Nat} (hz : Sa.length = z) (ho : Sa[o]? = some (6, 0))  : CT l0 1 2 72 mX0_init [kR (some o)] Ia Ja Ra Sa (dV (fun I' J' R' S' => nI_X0 Ia o z = I' ∧ nJ_X0 Ja o z = J' ∧ nR_X0 Ra o z = R' ∧ nS_X0 Sa o z = S')) := by
  refine ct_in pn_X0 (Nat.le_of_ble_eq_true rfl) (fun X hX hT hIn => ?_)
  have hX : aK l0 X cX0_init 1 RX0 none 1 2 72 := hX
  change WW X 0 [some (kR (some o))] [] Ia Ja Ra Sa 0 0
  have hoz : o < z := by rw [← hz]; exact (List.getElem?_eq_some_iff.mp ho).1
  refine ww_aload_n hX (pc := 0) dX0_init_0 rfl ?_
  refine ww_objInit hX (pc := 1) tb_169 tb_27 tb_28 (by decide) (Nat.le_of_ble_eq_true rfl) dX0_init_1 ?_
  refine ww_aload_n hX (pc := 4) dX0_init_4 rfl ?_
  refine ww_bipush hX (pc := 5) (x := 8) dX0_init_5 (by decide) ?_
  refine ww_na_intz hX (pc := 7) (N := 8) (z := z) hz tb_103 rfl (by omega) (by omega) (by omega) dX0_init_7 ?_
  refine ww_putR hX (pc := 9) (fun _ => hIn rfl) gX0_11 (by decide) (sz_l ho) dX0_init_9 ?_
  refine ww_aload_n hX (pc := 12) dX0_init_12 rfl ?_
  refine ww_bipush hX (pc := 13) (x := 64) dX0_init_13 (by decide) ?_
  refine ww_na_longz hX (pc := 15) (N := 64) (z := (z + 1)) (lz hz) tb_177 rfl (by omega) (by omega) (by omega) dX0_init_15 ?_
  refine ww_putR hX (pc := 17) (fun _ => hIn rfl) gX0_17 (by decide) (sz_l (sz_l ho)) dX0_init_17 ?_
  exact ww_vret hX (pc := 20) hT (by omega) (by omega) dX0_init_20 ⟨rfl, rfl, rfl, rfl, rfl⟩
def nI_X4 (F : aI1) (o z c : Nat) : aI1 := (upR (nI_X5 (upR (nI_X5 (upR (upR (upR (upR F z (fun _ => 0)) (z + 1) (fun _ => 0)) (z + 2) (fun _ => 0)) (z + 3) (fun _ => 0)) (z + 3) (z + 4) 256) (z + 6) (fun _ => 0)) (z + 6) (z + 7) 256) (z + 11) (fun _ => 0))
def nJ_X4 (F : aI1) (o z c : Nat) : aI1 := (up2 (upR (upR (nJ_X5 (upR (nJ_X5 (upR F (z + 3) (fun _ => 0)) (z + 3) (z + 4) 256) (z + 6) (fun _ => 0)) (z + 6) (z + 7) 256) (z + 9) (fun _ => 0)) (z + 10) (fun _ => 0)) o 9 1)
def nR_X4 (F : aR1) (o z c : Nat) : aR1 := (up2 (up2 (up2 (up2 (up2 (nR_X5 (upR (up2 (nR_X5 (upR (up2 (up2 (up2 F o 1 (some z)) o 2 (some (z + 1))) o 3 (some (z + 2))) (z + 3) (fun _ => none)) (z + 3) (z + 4) 256) o 4 (some (z + 3))) (z + 6) (fun _ => none)) (z + 6) (z + 7) 256) o 5 (some (z + 6))) o 6 (some (z + 9))) o 7 (some (z + 10))) o 8 (some (z + 11))) o 0 (some c))
def nS_X4 (F : aS1) (o z c : Nat) : aS1 := ((((nS_X5 ((nS_X5 ((((F ++ [(0, 256)]) ++ [(0, 9)]) ++ [(0, 8)]) ++ [(11, 0)]) (z + 3) (z + 4) 256) ++ [(11, 0)]) (z + 6) (z + 7) 256) ++ [(1, 256)]) ++ [(1, 8)]) ++ [(0, 9)])
set_option maxHeartbeats 4000000 in
set_option maxRecDepth 20000 in
theorem c_X4_init (l0 : Launch) {Ia Ja : aI1} {Ra : aR1} {Sa : aS1} {o z : Nat} (hz : Sa.length = z) (ho : Sa[o]? = some (10, 0)) {c : Nat}  : CT l0 2 12 1078 mX4_init [kR (some o), kR (some c)] Ia Ja Ra Sa (dV (fun I' J' R' S' => nI_X4 Ia o z c = I' ∧ nJ_X4 Ja o z c = J' ∧ nR_X4 Ra o z c = R' ∧ nS_X4 Sa o z c = S')) := by
  refine ct_in pn_X4 (Nat.le_of_ble_eq_true rfl) (fun X hX hT hIn => ?_)
  have hX : aK l0 X cX4_init 2 RX4 none 2 12 1078 := hX
  change WW X 0 [some (kR (some o)), some (kR (some c))] [] Ia Ja Ra Sa 0 0
  have hoz : o < z := by rw [← hz]; exact (List.getElem?_eq_some_iff.mp ho).1
  refine ww_aload_n hX (pc := 0) dX4_init_0 rfl ?_
  refine ww_objInit hX (pc := 1) tb_183 tb_27 tb_28 (by decide) (Nat.le_of_ble_eq_true rfl) dX4_init_1 ?_
  refine ww_aload_n hX (pc := 4) dX4_init_4 rfl ?_
  refine ww_sipush hX (pc := 5) (x := 256) dX4_init_5 (by decide) ?_
  refine ww_na_intz hX (pc := 8) (N := 256) (z := z) hz tb_103 rfl (by omega) (by omega) (by omega) dX4_init_8 ?_
  refine ww_putR hX (pc := 10) (fun _ => hIn rfl) gX4_9 (by decide) (sz_l ho) dX4_init_10 ?_
  refine ww_aload_n hX (pc := 13) dX4_init_13 rfl ?_
  refine ww_bipush hX (pc := 14) (x := 9) dX4_init_14 (by decide) ?_
  refine ww_na_intz hX (pc := 16) (N := 9) (z := (z + 1)) (lz hz) tb_103 rfl (by omega) (by omega) (by omega) dX4_init_16 ?_
  refine ww_putR hX (pc := 18) (fun _ => hIn rfl) gX4_15 (by decide) (sz_l (sz_l ho)) dX4_init_18 ?_
  refine ww_aload_n hX (pc := 21) dX4_init_21 rfl ?_
  refine ww_bipush hX (pc := 22) (x := 8) dX4_init_22 (by decide) ?_
  refine ww_na_intz hX (pc := 24) (N := 8) (z := (z + 2)) (lz (lz hz)) tb_103 rfl (by omega) (by omega) (by omega) dX4_init_24 ?_
  refine ww_putR hX (pc := 26) (fun _ => hIn rfl) gX4_18 (by decide) (sz_l (sz_l (sz_l ho))) dX4_init_26 ?_
  refine ww_aload_n hX (pc := 29) dX4_init_29 rfl ?_
  refine ww_newz hX (pc := 30) 2 (z := (z + 3)) (lz (lz (lz hz))) cl_5 tb_184 tb_185 tb_8 rfl (by omega) (by omega) dX4_init_30 ?_
  refine ww_dupR hX (pc := 33) dX4_init_33 ?_
  refine ww_sipush hX (pc := 34) (x := 256) dX4_init_34 (by decide) ?_
  refine ww_callI hX (pc := 37) (av := [kI 256]) sX4_23 (c_X5_init l0 (o := (z + 3)) (z := (z + 4)) (lz (lz (lz (lz hz)))) (sz_n (lz (lz (lz hz)))) (N := 256) rfl (by decide)) rfl (by decide) (by omega) (by omega) (Nat.le_of_ble_eq_true rfl) dX4_init_37 (fun r_37 I_37 J_37 R_37 S_37 h_37 => ?_)
  obtain ⟨rfl, rfl, rfl, rfl, rfl⟩ := h_37
  refine ww_putR hX (pc := 40) (fun _ => hIn rfl) gX4_26 (by decide) (sz_l (sz_l (sz_l (sz_l (sz_l (sz_l ho)))))) dX4_init_40 ?_
  refine ww_aload_n hX (pc := 43) dX4_init_43 rfl ?_
  refine ww_newz hX (pc := 44) 2 (z := (z + 6)) (lz (lz (lz (lz (lz (lz hz)))))) cl_5 tb_184 tb_185 tb_8 rfl (by omega) (by omega) dX4_init_44 ?_
  refine ww_dupR hX (pc := 47) dX4_init_47 ?_
  refine ww_sipush hX (pc := 48) (x := 256) dX4_init_48 (by decide) ?_
  refine ww_callI hX (pc := 51) (av := [kI 256]) sX4_23 (c_X5_init l0 (o := (z + 6)) (z := (z + 7)) (lz (lz (lz (lz (lz (lz (lz hz))))))) (sz_n (lz (lz (lz (lz (lz (lz hz))))))) (N := 256) rfl (by decide)) rfl (by decide) (by omega) (by omega) (Nat.le_of_ble_eq_true rfl) dX4_init_51 (fun r_51 I_51 J_51 R_51 S_51 h_51 => ?_)
  obtain ⟨rfl, rfl, rfl, rfl, rfl⟩ := h_51
  refine ww_putR hX (pc := 54) (fun _ => hIn rfl) gX4_30 (by decide) (sz_l (sz_l (sz_l (sz_l (sz_l (sz_l (sz_l (sz_l (sz_l ho))))))))) dX4_init_54 ?_
  refine ww_aload_n hX (pc := 57) dX4_init_57 rfl ?_
  refine ww_sipush hX (pc := 58) (x := 256) dX4_init_58 (by decide) ?_
  refine ww_na_longz hX (pc := 61) (N := 256) (z := (z + 9)) (lz (lz (lz (lz (lz (lz (lz (lz (lz hz))))))))) tb_177 rfl (by omega) (by omega) (by omega) dX4_init_61 ?_
  refine ww_putR hX (pc := 63) (fun _ => hIn rfl) gX4_33 (by decide) (sz_l (sz_l (sz_l (sz_l (sz_l (sz_l (sz_l (sz_l (sz_l (sz_l ho)))))))))) dX4_init_63 ?_
  refine ww_aload_n hX (pc := 66) dX4_init_66 rfl ?_
  refine ww_bipush hX (pc := 67) (x := 8) dX4_init_67 (by decide) ?_
  refine ww_na_longz hX (pc := 69) (N := 8) (z := (z + 10)) (lz (lz (lz (lz (lz (lz (lz (lz (lz (lz hz)))))))))) tb_177 rfl (by omega) (by omega) (by omega) dX4_init_69 ?_
  refine ww_putR hX (pc := 71) (fun _ => hIn rfl) gX4_37 (by decide) (sz_l (sz_l (sz_l (sz_l (sz_l (sz_l (sz_l (sz_l (sz_l (sz_l (sz_l ho))))))))))) dX4_init_71 ?_
  refine ww_aload_n hX (pc := 74) dX4_init_74 rfl ?_
  refine ww_bipush hX (pc := 75) (x := 9) dX4_init_75 (by decide) ?_
  refine ww_na_intz hX (pc := 77) (N := 9) (z := (z + 11)) (lz (lz (lz (lz (lz (lz (lz (lz (lz (lz (lz hz))))))))))) tb_103 rfl (by omega) (by omega) (by omega) dX4_init_77 ?_
  refine ww_putR hX (pc := 79) (fun _ => hIn rfl) gX4_40 (by decide) (sz_l (sz_l (sz_l (sz_l (sz_l (sz_l (sz_l (sz_l (sz_l (sz_l (sz_l (sz_l ho)))))))))))) dX4_init_79 ?_
  refine ww_aload_n hX (pc := 82) dX4_init_82 rfl ?_
  refine ww_lconst hX (pc := 83) (x := 1) dX4_init_83 (by decide) ?_
  refine ww_putJ hX (pc := 84) (fun h9 => absurd h9 (by decide)) gX4_43 rfl (sz_l (sz_l (sz_l (sz_l (sz_l (sz_l (sz_l (sz_l (sz_l (sz_l (sz_l (sz_l ho)))))))))))) dX4_init_84 ?_
  refine ww_aload_n hX (pc := 87) dX4_init_87 rfl ?_
  refine ww_aload_n hX (pc := 88) dX4_init_88 rfl ?_
  refine ww_putR hX (pc := 89) (fun _ => hIn rfl) gX4_47 (by decide) (sz_l (sz_l (sz_l (sz_l (sz_l (sz_l (sz_l (sz_l (sz_l (sz_l (sz_l (sz_l ho)))))))))))) dX4_init_89 ?_
  exact ww_vret hX (pc := 92) hT (by omega) (by omega) dX4_init_92 ⟨rfl, rfl, rfl, rfl, rfl⟩
def nI_X8 (F : aI1) (o z k : Nat) : aI1 := F
def nJ_X8 (F : aI1) (o z k : Nat) : aI1 := (upR F z (fun _ => 0))
def nR_X8 (F : aR1) (o z k : Nat) : aR1 := (up2 (up2 F o 1 (some z)) o 0 (some k))
def nS_X8 (F : aS1) (o z k : Nat) : aS1 := (F ++ [(1, 2304)])
set_option maxHeartbeats 4000000 in
set_option maxRecDepth 20000 in
theorem c_X8_init (l0 : Launch) {Ia Ja : aI1} {Ra : aR1} {Sa : aS1} {o z : Nat} (hz : Sa.length = z) (ho : Sa[o]? = some (14, 0)) {k : Nat}  : CT l0 1 1 2304 mX8_init [kR (some o), kR (some k)] Ia Ja Ra Sa (dV (fun I' J' R' S' => nI_X8 Ia o z k = I' ∧ nJ_X8 Ja o z k = J' ∧ nR_X8 Ra o z k = R' ∧ nS_X8 Sa o z k = S')) := by
  refine ct_in pn_X8 (Nat.le_of_ble_eq_true rfl) (fun X hX hT hIn => ?_)
  have hX : aK l0 X cX8_init 2 RX8 none 1 1 2304 := hX
  change WW X 0 [some (kR (some o)), some (kR (some k))] [] Ia Ja Ra Sa 0 0
  have hoz : o < z := by rw [← hz]; exact (List.getElem?_eq_some_iff.mp ho).1
  refine ww_aload_n hX (pc := 0) dX8_init_0 rfl ?_
  refine ww_objInit hX (pc := 1) tb_250 tb_27 tb_28 (by decide) (Nat.le_of_ble_eq_true rfl) dX8_init_1 ?_
  refine ww_aload_n hX (pc := 4) dX8_init_4 rfl ?_
  refine ww_sipush hX (pc := 5) (x := 2304) dX8_init_5 (by decide) ?_
  refine ww_na_longz hX (pc := 8) (N := 2304) (z := z) hz tb_177 rfl (by omega) (by omega) (by omega) dX8_init_8 ?_
  refine ww_putR hX (pc := 10) (fun _ => hIn rfl) gX8_9 (by decide) (sz_l ho) dX8_init_10 ?_
  refine ww_aload_n hX (pc := 13) dX8_init_13 rfl ?_
  refine ww_aload_n hX (pc := 14) dX8_init_14 rfl ?_
  refine ww_putR hX (pc := 15) (fun _ => hIn rfl) gX8_15 (by decide) (sz_l ho) dX8_init_15 ?_
  exact ww_vret hX (pc := 18) hT (by omega) (by omega) dX8_init_18 ⟨rfl, rfl, rfl, rfl, rfl⟩
def nI_X2 (F : aI1) (o z : Nat) : aI1 := (upR (upR (upR (upR (upR (nI_X5 (upR F z (fun _ => 0)) z (z + 1) 8) (z + 3) (fun _ => 0)) (z + 4) (fun _ => 0)) (z + 5) (fun _ => 0)) (z + 6) (fun _ => 0)) (z + 7) (fun _ => 0))
def nJ_X2 (F : aI1) (o z : Nat) : aI1 := (nJ_X5 (upR F z (fun _ => 0)) z (z + 1) 8)
def nR_X2 (F : aR1) (o z : Nat) : aR1 := (up2 (up2 (up2 (up2 (up2 (up2 (nR_X5 (upR F z (fun _ => none)) z (z + 1) 8) o 0 (some z)) o 1 (some (z + 3))) o 2 (some (z + 4))) o 3 (some (z + 5))) o 4 (some (z + 6))) o 5 (some (z + 7)))
def nS_X2 (F : aS1) (o z : Nat) : aS1 := ((((((nS_X5 (F ++ [(11, 0)]) z (z + 1) 8) ++ [(0, 8)]) ++ [(0, 8)]) ++ [(0, 36)]) ++ [(0, 288)]) ++ [(3, 9)])
set_option maxHeartbeats 4000000 in
set_option maxRecDepth 20000 in
theorem c_X2_init (l0 : Launch) {Ia Ja : aI1} {Ra : aR1} {Sa : aS1} {o z : Nat} (hz : Sa.length = z) (ho : Sa[o]? = some (8, 0))  : CT l0 2 8 367 mX2_init [kR (some o)] Ia Ja Ra Sa (dV (fun I' J' R' S' => nI_X2 Ia o z = I' ∧ nJ_X2 Ja o z = J' ∧ nR_X2 Ra o z = R' ∧ nS_X2 Sa o z = S')) := by
  refine ct_in pn_X2 (Nat.le_of_ble_eq_true rfl) (fun X hX hT hIn => ?_)
  have hX : aK l0 X cX2_init 1 RX2 none 2 8 367 := hX
  change WW X 0 [some (kR (some o))] [] Ia Ja Ra Sa 0 0
  have hoz : o < z := by rw [← hz]; exact (List.getElem?_eq_some_iff.mp ho).1
  refine ww_aload_n hX (pc := 0) dX2_init_0 rfl ?_
  refine ww_objInit hX (pc := 1) tb_298 tb_27 tb_28 (by decide) (Nat.le_of_ble_eq_true rfl) dX2_init_1 ?_
  refine ww_aload_n hX (pc := 4) dX2_init_4 rfl ?_
  refine ww_newz hX (pc := 5) 2 (z := z) hz cl_5 tb_299 tb_185 tb_8 rfl (by omega) (by omega) dX2_init_5 ?_
  refine ww_dupR hX (pc := 8) dX2_init_8 ?_
  refine ww_bipush hX (pc := 9) (x := 8) dX2_init_9 (by decide) ?_
  refine ww_callI hX (pc := 11) (av := [kI 8]) sX2_11 (c_X5_init l0 (o := z) (z := (z + 1)) (lz hz) (sz_n hz) (N := 8) rfl (by decide)) rfl (by decide) (by omega) (by omega) (Nat.le_of_ble_eq_true rfl) dX2_init_11 (fun r_11 I_11 J_11 R_11 S_11 h_11 => ?_)
  obtain ⟨rfl, rfl, rfl, rfl, rfl⟩ := h_11
  refine ww_putR hX (pc := 14) (fun _ => hIn rfl) gX2_14 (by decide) (sz_l (sz_l (sz_l ho))) dX2_init_14 ?_
  refine ww_aload_n hX (pc := 17) dX2_init_17 rfl ?_
  refine ww_bipush hX (pc := 18) (x := 8) dX2_init_18 (by decide) ?_
  refine ww_na_intz hX (pc := 20) (N := 8) (z := (z + 3)) (lz (lz (lz hz))) tb_103 rfl (by omega) (by omega) (by omega) dX2_init_20 ?_
  refine ww_putR hX (pc := 22) (fun _ => hIn rfl) gX2_18 (by decide) (sz_l (sz_l (sz_l (sz_l ho)))) dX2_init_22 ?_
  refine ww_aload_n hX (pc := 25) dX2_init_25 rfl ?_
  refine ww_bipush hX (pc := 26) (x := 8) dX2_init_26 (by decide) ?_
  refine ww_na_intz hX (pc := 28) (N := 8) (z := (z + 4)) (lz (lz (lz (lz hz)))) tb_103 rfl (by omega) (by omega) (by omega) dX2_init_28 ?_
  refine ww_putR hX (pc := 30) (fun _ => hIn rfl) gX2_22 (by decide) (sz_l (sz_l (sz_l (sz_l (sz_l ho))))) dX2_init_30 ?_
  refine ww_aload_n hX (pc := 33) dX2_init_33 rfl ?_
  refine ww_bipush hX (pc := 34) (x := 36) dX2_init_34 (by decide) ?_
  refine ww_na_intz hX (pc := 36) (N := 36) (z := (z + 5)) (lz (lz (lz (lz (lz hz))))) tb_103 rfl (by omega) (by omega) (by omega) dX2_init_36 ?_
  refine ww_putR hX (pc := 38) (fun _ => hIn rfl) gX2_25 (by decide) (sz_l (sz_l (sz_l (sz_l (sz_l (sz_l ho)))))) dX2_init_38 ?_
  refine ww_aload_n hX (pc := 41) dX2_init_41 rfl ?_
  refine ww_sipush hX (pc := 42) (x := 288) dX2_init_42 (by decide) ?_
  refine ww_na_intz hX (pc := 45) (N := 288) (z := (z + 6)) (lz (lz (lz (lz (lz (lz hz)))))) tb_103 rfl (by omega) (by omega) (by omega) dX2_init_45 ?_
  refine ww_putR hX (pc := 47) (fun _ => hIn rfl) gX2_28 (by decide) (sz_l (sz_l (sz_l (sz_l (sz_l (sz_l (sz_l ho))))))) dX2_init_47 ?_
  refine ww_aload_n hX (pc := 50) dX2_init_50 rfl ?_
  refine ww_bipush hX (pc := 51) (x := 9) dX2_init_51 (by decide) ?_
  refine ww_na_boolz hX (pc := 53) (N := 9) (z := (z + 7)) (lz (lz (lz (lz (lz (lz (lz hz))))))) tb_320 rfl (by omega) (by omega) (by omega) dX2_init_53 ?_
  refine ww_putR hX (pc := 55) (fun _ => hIn rfl) gX2_31 (by decide) (sz_l (sz_l (sz_l (sz_l (sz_l (sz_l (sz_l (sz_l ho)))))))) dX2_init_55 ?_
  exact ww_vret hX (pc := 58) hT (by omega) (by omega) dX2_init_58 ⟨rfl, rfl, rfl, rfl, rfl⟩
def nI_X3 (F : aI1) (o z k c : Nat) : aI1 := (upR (upR F z (fun _ => 0)) (z + 2) (fun _ => 0))
def nJ_X3 (F : aI1) (o z k c : Nat) : aI1 := (upR F (z + 1) (fun _ => 0))
def nR_X3 (F : aR1) (o z k c : Nat) : aR1 := (up2 (up2 (up2 (up2 (up2 F o 0 (some z)) o 6 (some (z + 1))) o 7 (some (z + 2))) o 4 (some k)) o 5 (some c))
def nS_X3 (F : aS1) (o z k c : Nat) : aS1 := (((F ++ [(0, 16)]) ++ [(1, 256)]) ++ [(0, 256)])
set_option maxHeartbeats 4000000 in
set_option maxRecDepth 20000 in
theorem c_X3_init (l0 : Launch) {Ia Ja : aI1} {Ra : aR1} {Sa : aS1} {o z : Nat} (hz : Sa.length = z) (ho : Sa[o]? = some (9, 0)) {k c : Nat} (hk : Sa[k]? = some (10, 0)) (hkc : Ra k 0 = some c) (hko : k ≠ o)  : CT l0 1 3 528 mX3_init [kR (some o), kR (some k)] Ia Ja Ra Sa (dV (fun I' J' R' S' => nI_X3 Ia o z k c = I' ∧ nJ_X3 Ja o z k c = J' ∧ nR_X3 Ra o z k c = R' ∧ nS_X3 Sa o z k c = S')) := by
  refine ct_in pn_X3 (Nat.le_of_ble_eq_true rfl) (fun X hX hT hIn => ?_)
  have hX : aK l0 X cX3_init 2 RX3 none 1 3 528 := hX
  change WW X 0 [some (kR (some o)), some (kR (some k))] [] Ia Ja Ra Sa 0 0
  have hoz : o < z := by rw [← hz]; exact (List.getElem?_eq_some_iff.mp ho).1
  have hkz : k < z := by rw [← hz]; exact (List.getElem?_eq_some_iff.mp hk).1
  refine ww_aload_n hX (pc := 0) dX3_init_0 rfl ?_
  refine ww_objInit hX (pc := 1) tb_263 tb_27 tb_28 (by decide) (Nat.le_of_ble_eq_true rfl) dX3_init_1 ?_
  refine ww_aload_n hX (pc := 4) dX3_init_4 rfl ?_
  refine ww_bipush hX (pc := 5) (x := 16) dX3_init_5 (by decide) ?_
  refine ww_na_intz hX (pc := 7) (N := 16) (z := z) hz tb_103 rfl (by omega) (by omega) (by omega) dX3_init_7 ?_
  refine ww_putR hX (pc := 9) (fun _ => hIn rfl) gX3_9 (by decide) (sz_l ho) dX3_init_9 ?_
  refine ww_aload_n hX (pc := 12) dX3_init_12 rfl ?_
  refine ww_sipush hX (pc := 13) (x := 256) dX3_init_13 (by decide) ?_
  refine ww_na_longz hX (pc := 16) (N := 256) (z := (z + 1)) (lz hz) tb_177 rfl (by omega) (by omega) (by omega) dX3_init_16 ?_
  refine ww_putR hX (pc := 18) (fun _ => hIn rfl) gX3_15 (by decide) (sz_l (sz_l ho)) dX3_init_18 ?_
  refine ww_aload_n hX (pc := 21) dX3_init_21 rfl ?_
  refine ww_sipush hX (pc := 22) (x := 256) dX3_init_22 (by decide) ?_
  refine ww_na_intz hX (pc := 25) (N := 256) (z := (z + 2)) (lz (lz hz)) tb_103 rfl (by omega) (by omega) (by omega) dX3_init_25 ?_
  refine ww_putR hX (pc := 27) (fun _ => hIn rfl) gX3_19 (by decide) (sz_l (sz_l (sz_l ho))) dX3_init_27 ?_
  refine ww_aload_n hX (pc := 30) dX3_init_30 rfl ?_
  refine ww_aload_n hX (pc := 31) dX3_init_31 rfl ?_
  refine ww_putR hX (pc := 32) (fun _ => hIn rfl) gX3_22 (by decide) (sz_l (sz_l (sz_l ho))) dX3_init_32 ?_
  refine ww_aload_n hX (pc := 35) dX3_init_35 rfl ?_
  refine ww_aload_n hX (pc := 36) dX3_init_36 rfl ?_
  refine ww_getR hX (pc := 37) fX3_26 (by decide) (sz_l (sz_l (sz_l hk))) (by rw [up2_n _ _ (Or.inl (by omega)), up2_n _ _ (Or.inl (by omega)), up2_n _ _ (Or.inl (by omega)), up2_n _ _ (Or.inl (by omega)), hkc]) dX3_init_37 ?_
  refine ww_putR hX (pc := 40) (fun _ => hIn rfl) gX3_32 (by decide) (sz_l (sz_l (sz_l ho))) dX3_init_40 ?_
  exact ww_vret hX (pc := 43) hT (by omega) (by omega) dX3_init_43 ⟨rfl, rfl, rfl, rfl, rfl⟩
def nI_X10 (F : aI1) : aI1 := (up2 (upR (upR (upR (nI_X2 (upR (nI_X3 (upR (nI_X8 (upR (nI_X4 (upR (nI_X0 (upR (nI_X7 (upR (nI_X9 (upR (nI_X1 (upR F 1 (fun _ => 0)) 1 2) 8 (fun _ => 0)) 8 9) 10 (fun _ => 0)) 10 11 8) 15 (fun _ => 0)) 15 16) 18 (fun _ => 0)) 18 19 1) 31 (fun _ => 0)) 31 32 18) 33 (fun _ => 0)) 33 34 18 1) 37 (fun _ => 0)) 37 38) 46 (fun _ => 0)) 47 (fun _ => 0)) 48 (fun _ => 0)) 0 14 (-1))
def nJ_X10 (F : aI1) : aI1 := (nJ_X2 (upR (nJ_X3 (upR (nJ_X8 (upR (nJ_X4 (upR (nJ_X0 (upR (nJ_X7 (upR (nJ_X9 (upR (nJ_X1 (upR F 1 (fun _ => 0)) 1 2) 8 (fun _ => 0)) 8 9) 10 (fun _ => 0)) 10 11 8) 15 (fun _ => 0)) 15 16) 18 (fun _ => 0)) 18 19 1) 31 (fun _ => 0)) 31 32 18) 33 (fun _ => 0)) 33 34 18 1) 37 (fun _ => 0)) 37 38)
def nR_X10 (F : aR1) : aR1 := (up2 (up2 (up2 (up2 (nR_X2 (upR (up2 (nR_X3 (upR (up2 (nR_X8 (upR (up2 (nR_X4 (upR (up2 (nR_X0 (upR (up2 (nR_X7 (upR (up2 (nR_X9 (upR (up2 (upR (up2 (nR_X1 (upR F 1 (fun _ => none)) 1 2) 0 0 (some 1)) 7 (fun _ => none)) 0 1 (some 7)) 8 (fun _ => none)) 8 9) 0 2 (some 8)) 10 (fun _ => none)) 10 11 8) 0 3 (some 10)) 15 (fun _ => none)) 15 16) 0 4 (some 15)) 18 (fun _ => none)) 18 19 1) 0 5 (some 18)) 31 (fun _ => none)) 31 32 18) 0 6 (some 31)) 33 (fun _ => none)) 33 34 18 1) 0 7 (some 33)) 37 (fun _ => none)) 37 38) 0 8 (some 37)) 0 9 (some 46)) 0 10 (some 47)) 0 11 (some 48))
def nS_X10 (F : aS1) : aS1 := ((((nS_X2 ((nS_X3 ((nS_X8 ((nS_X4 ((nS_X0 ((nS_X7 ((nS_X9 (((nS_X1 (F ++ [(7, 0)]) 1 2) ++ [(5, 2)]) ++ [(15, 0)]) 8 9) ++ [(13, 0)]) 10 11 8) ++ [(6, 0)]) 15 16) ++ [(10, 0)]) 18 19 1) ++ [(14, 0)]) 31 32 18) ++ [(9, 0)]) 33 34 18 1) ++ [(8, 0)]) 37 38) ++ [(0, 30)]) ++ [(0, 24)]) ++ [(0, 7)])
set_option maxHeartbeats 4000000 in
set_option maxRecDepth 20000 in
theorem c_X10_init (l0 : Launch) {Ia Ja : aI1} {Ra : aR1}  : CT l0 3 48 6406 mX10_init [kR (some 0)] Ia Ja Ra [(16, 0)] (dV (fun I' J' R' S' => nI_X10 Ia = I' ∧ nJ_X10 Ja = J' ∧ nR_X10 Ra = R' ∧ nS_X10 [(16, 0)] = S')) := by
  refine ct_in pn_X10 (Nat.le_of_ble_eq_true rfl) (fun X hX hT hIn => ?_)
  have hX : aK l0 X cX10_init 1 RX10 none 3 48 6406 := hX
  change WW X 0 [some (kR (some 0))] [] Ia Ja Ra [(16, 0)] 0 0
  refine ww_aload_n hX (pc := 0) dX10_init_0 rfl ?_
  refine ww_objInit hX (pc := 1) tb_26 tb_27 tb_28 (by decide) (Nat.le_of_ble_eq_true rfl) dX10_init_1 ?_
  refine ww_aload_n hX (pc := 4) dX10_init_4 rfl ?_
  refine ww_newz hX (pc := 5) 12 (z := 1) rfl cl_1 tb_29 tb_30 tb_2 rfl (by omega) (by omega) dX10_init_5 ?_
  refine ww_dupR hX (pc := 8) dX10_init_8 ?_
  refine ww_callI hX (pc := 9) (av := []) sX10_9 (c_X1_init l0 (o := 1) (z := 2) rfl rfl) rfl (by decide) (by omega) (by omega) (Nat.le_of_ble_eq_true rfl) dX10_init_9 (fun r_9 I_9 J_9 R_9 S_9 h_9 => ?_)
  obtain ⟨rfl, rfl, rfl, rfl, rfl⟩ := h_9
  refine ww_putR hX (pc := 12) (fun _ => hIn rfl) gX10_10 (by decide) rfl dX10_init_12 ?_
  refine ww_aload_n hX (pc := 15) dX10_init_15 rfl ?_
  refine ww_iconst hX (pc := 16) (x := 2) dX10_init_16 rfl ?_
  refine ww_anewz hX (pc := 17) (N := 2) (z := 7) rfl (Or.inr ⟨rfl, rfl⟩) tb_29 rfl (by omega) (by omega) (by omega) dX10_init_17 ?_
  refine ww_putR hX (pc := 20) (fun _ => hIn rfl) gX10_16 (by decide) rfl dX10_init_20 ?_
  refine ww_aload_n hX (pc := 23) dX10_init_23 rfl ?_
  refine ww_newz hX (pc := 24) 2 (z := 8) rfl cl_9 tb_105 tb_106 tb_4 rfl (by omega) (by omega) dX10_init_24 ?_
  refine ww_dupR hX (pc := 27) dX10_init_27 ?_
  refine ww_callN hX (pc := 28) (av := []) sX10_22 (c_X9_init l0 (o := 8) (z := 9) rfl rfl) rfl (by decide) (by omega) (by omega) (Nat.le_of_ble_eq_true rfl) dX10_init_28 (fun r_28 I_28 J_28 R_28 S_28 h_28 => ?_)
  obtain ⟨rfl, rfl, rfl, rfl, rfl⟩ := h_28
  refine ww_putR hX (pc := 31) (fun _ => hIn rfl) gX10_23 (by decide) rfl dX10_init_31 ?_
  refine ww_aload_n hX (pc := 34) dX10_init_34 rfl ?_
  refine ww_newz hX (pc := 35) 12 (z := 10) rfl cl_7 tb_120 tb_121 tb_5 rfl (by omega) (by omega) dX10_init_35 ?_
  refine ww_dupR hX (pc := 38) dX10_init_38 ?_
  refine ww_aload_n hX (pc := 39) dX10_init_39 rfl ?_
  refine ww_getR hX (pc := 40) fX10_23 (by decide) rfl rfl dX10_init_40 ?_
  refine ww_callI hX (pc := 43) (av := [kR (some 8)]) sX10_29 (c_X7_init l0 (o := 10) (z := 11) rfl rfl) rfl (by decide) (by omega) (by omega) (Nat.le_of_ble_eq_true rfl) dX10_init_43 (fun r_43 I_43 J_43 R_43 S_43 h_43 => ?_)
  obtain ⟨rfl, rfl, rfl, rfl, rfl⟩ := h_43
  refine ww_putR hX (pc := 46) (fun _ => hIn rfl) gX10_32 (by decide) rfl dX10_init_46 ?_
  refine ww_aload_n hX (pc := 49) dX10_init_49 rfl ?_
  refine ww_newz hX (pc := 50) 2 (z := 15) rfl cl_0 tb_164 tb_165 tb_6 rfl (by omega) (by omega) dX10_init_50 ?_
  refine ww_dupR hX (pc := 53) dX10_init_53 ?_
  refine ww_callN hX (pc := 54) (av := []) sX10_38 (c_X0_init l0 (o := 15) (z := 16) rfl rfl) rfl (by decide) (by omega) (by omega) (Nat.le_of_ble_eq_true rfl) dX10_init_54 (fun r_54 I_54 J_54 R_54 S_54 h_54 => ?_)
  obtain ⟨rfl, rfl, rfl, rfl, rfl⟩ := h_54
  refine ww_putR hX (pc := 57) (fun _ => hIn rfl) gX10_39 (by decide) rfl dX10_init_57 ?_
  refine ww_aload_n hX (pc := 60) dX10_init_60 rfl ?_
  refine ww_newz hX (pc := 61) 13 (z := 18) rfl cl_4 tb_178 tb_179 tb_7 rfl (by omega) (by omega) dX10_init_61 ?_
  refine ww_dupR hX (pc := 64) dX10_init_64 ?_
  refine ww_aload_n hX (pc := 65) dX10_init_65 rfl ?_
  refine ww_getR hX (pc := 66) fX10_10 (by decide) rfl rfl dX10_init_66 ?_
  refine ww_callI hX (pc := 69) (av := [kR (some 1)]) sX10_45 (c_X4_init l0 (o := 18) (z := 19) rfl rfl) rfl (by decide) (by omega) (by omega) (Nat.le_of_ble_eq_true rfl) dX10_init_69 (fun r_69 I_69 J_69 R_69 S_69 h_69 => ?_)
  obtain ⟨rfl, rfl, rfl, rfl, rfl⟩ := h_69
  refine ww_putR hX (pc := 72) (fun _ => hIn rfl) gX10_48 (by decide) rfl dX10_init_72 ?_
  refine ww_aload_n hX (pc := 75) dX10_init_75 rfl ?_
  refine ww_newz hX (pc := 76) 2 (z := 31) rfl cl_8 tb_245 tb_246 tb_9 rfl (by omega) (by omega) dX10_init_76 ?_
  refine ww_dupR hX (pc := 79) dX10_init_79 ?_
  refine ww_aload_n hX (pc := 80) dX10_init_80 rfl ?_
  refine ww_getR hX (pc := 81) fX10_48 (by decide) rfl rfl dX10_init_81 ?_
  refine ww_callI hX (pc := 84) (av := [kR (some 18)]) sX10_54 (c_X8_init l0 (o := 31) (z := 32) rfl rfl) rfl (by decide) (by omega) (by omega) (Nat.le_of_ble_eq_true rfl) dX10_init_84 (fun r_84 I_84 J_84 R_84 S_84 h_84 => ?_)
  obtain ⟨rfl, rfl, rfl, rfl, rfl⟩ := h_84
  refine ww_putR hX (pc := 87) (fun _ => hIn rfl) gX10_57 (by decide) rfl dX10_init_87 ?_
  refine ww_aload_n hX (pc := 90) dX10_init_90 rfl ?_
  refine ww_newz hX (pc := 91) 8 (z := 33) rfl cl_3 tb_258 tb_259 tb_10 rfl (by omega) (by omega) dX10_init_91 ?_
  refine ww_dupR hX (pc := 94) dX10_init_94 ?_
  refine ww_aload_n hX (pc := 95) dX10_init_95 rfl ?_
  refine ww_getR hX (pc := 96) fX10_48 (by decide) rfl rfl dX10_init_96 ?_
  refine ww_callI hX (pc := 99) (av := [kR (some 18)]) sX10_63 (c_X3_init l0 (o := 33) (z := 34) rfl rfl (k := 18) (c := 1) rfl rfl (by decide)) rfl (by decide) (by omega) (by omega) (Nat.le_of_ble_eq_true rfl) dX10_init_99 (fun r_99 I_99 J_99 R_99 S_99 h_99 => ?_)
  obtain ⟨rfl, rfl, rfl, rfl, rfl⟩ := h_99
  refine ww_putR hX (pc := 102) (fun _ => hIn rfl) gX10_64 (by decide) rfl dX10_init_102 ?_
  refine ww_aload_n hX (pc := 105) dX10_init_105 rfl ?_
  refine ww_newz hX (pc := 106) 6 (z := 37) rfl cl_2 tb_293 tb_294 tb_11 rfl (by omega) (by omega) dX10_init_106 ?_
  refine ww_dupR hX (pc := 109) dX10_init_109 ?_
  refine ww_callN hX (pc := 110) (av := []) sX10_70 (c_X2_init l0 (o := 37) (z := 38) rfl rfl) rfl (by decide) (by omega) (by omega) (Nat.le_of_ble_eq_true rfl) dX10_init_110 (fun r_110 I_110 J_110 R_110 S_110 h_110 => ?_)
  obtain ⟨rfl, rfl, rfl, rfl, rfl⟩ := h_110
  refine ww_putR hX (pc := 113) (fun _ => hIn rfl) gX10_71 (by decide) rfl dX10_init_113 ?_
  refine ww_aload_n hX (pc := 116) dX10_init_116 rfl ?_
  refine ww_bipush hX (pc := 117) (x := 30) dX10_init_117 (by decide) ?_
  refine ww_na_intz hX (pc := 119) (N := 30) (z := 46) rfl tb_103 rfl (by omega) (by omega) (by omega) dX10_init_119 ?_
  refine ww_putR hX (pc := 121) (fun _ => hIn rfl) gX10_75 (by decide) rfl dX10_init_121 ?_
  refine ww_aload_n hX (pc := 124) dX10_init_124 rfl ?_
  refine ww_bipush hX (pc := 125) (x := 24) dX10_init_125 (by decide) ?_
  refine ww_na_intz hX (pc := 127) (N := 24) (z := 47) rfl tb_103 rfl (by omega) (by omega) (by omega) dX10_init_127 ?_
  refine ww_putR hX (pc := 129) (fun _ => hIn rfl) gX10_79 (by decide) rfl dX10_init_129 ?_
  refine ww_aload_n hX (pc := 132) dX10_init_132 rfl ?_
  refine ww_bipush hX (pc := 133) (x := 7) dX10_init_133 (by decide) ?_
  refine ww_na_intz hX (pc := 135) (N := 7) (z := 48) rfl tb_103 rfl (by omega) (by omega) (by omega) dX10_init_135 ?_
  refine ww_putR hX (pc := 137) (fun _ => hIn rfl) gX10_82 (by decide) rfl dX10_init_137 ?_
  refine ww_aload_n hX (pc := 140) dX10_init_140 rfl ?_
  refine ww_iconst hX (pc := 141) (x := (-1)) dX10_init_141 rfl ?_
  refine ww_putI hX (pc := 142) (fun h9 => absurd h9 (by decide)) gX10_85 rfl rfl dX10_init_142 ?_
  exact ww_vret hX (pc := 145) hT (by omega) (by omega) dX10_init_145 ⟨rfl, rfl, rfl, rfl, rfl⟩
end
section
/-- a law that was learnt: its object, its steps and its marks stand side by side -/
def LawOK (I : aI1) (R : aR1) (S : aS1) (w : Nat) : Prop := 73 ≤ w ∧ S[w]? = some (12, 0) ∧ R w 0 = some (w + 1) ∧ R w 1 = some (w + 2) ∧ (0 ≤ I w 2 ∧ I w 2 ≤ 1000) ∧ (∃ n, n ≤ 400 ∧ S[w + 1]? = some (0, n) ∧ ∀ j, j < n → -10000 ≤ I (w + 1) j ∧ I (w + 1) j ≤ 10000) ∧ (∃ n, n ≤ 25 ∧ S[w + 2]? = some (0, n) ∧ ∀ j, j < n → -10000 ≤ I (w + 2) j ∧ I (w + 2) j ≤ 10000)
set_option maxHeartbeats 4000000 in
set_option maxRecDepth 20000 in
theorem c_J7_copyOf_59c91 (l0 : Launch) {Ia Ja : aI1} {Ra : aR1} {Sa : aS1} {k n0 N z : Nat} {n : Int} (hs : Sa[k]? = some (0, n0)) (hz : Sa.length = z) (hn : n = (N : Int)) (hN : N ≤ n0) (h0 : n0 ≤ 65536)  : CT l0 1 1 N mJ7_copyOf_59c91 [kR (some k), kI n] Ia Ja Ra Sa (dR (fun x I' J' R' S' => x = some z ∧ Ja = J' ∧ Ra = R' ∧ Sa ++ [(0, N)] = S' ∧ (∀ a, a ≠ z → I' a = Ia a) ∧ ∀ j, j < N → I' z j = Ia k j)) := by
  refine ct_in pn_J7 (Nat.le_of_ble_eq_true rfl) (fun X hX hT hIn => ?_)
  have hX : aK l0 X cJ7_copyOf_59c91 3 RJ7 (some (.array .int)) 1 1 N := hX
  change WW X 0 [some (kR (some k)), some (kI n), none] [] Ia Ja Ra Sa 0 0
  have hkz : k < z := by rw [← hz]; exact (List.getElem?_eq_some_iff.mp hs).1
  refine ww_iload_n hX (pc := 0) dJ7_copyOf_59c91_0 rfl ?_
  refine ww_aload_n hX (pc := 1) dJ7_copyOf_59c91_1 rfl ?_
  refine ww_alen hX (pc := 2) (by decide) hs dJ7_copyOf_59c91_2 ?_
  refine ww_icmp_ne hX (pc := 3) (tgt := 14) dJ7_copyOf_59c91_3 (by decide) (fun h_3 => ?_) (fun h_3 => ?_)
  · simp only [w32_mod] at h_3
    refine ww_iload_n hX (pc := 14) dJ7_copyOf_59c91_14 rfl ?_
    refine ww_na_intz hX (pc := 15) (N := N) (z := z) hz tb_103 (by omega) (by omega) (by omega) (by omega) dJ7_copyOf_59c91_15 ?_
    refine ww_nmH (fun I_15 eI_15 => ?_)
    refine ww_astore_n hX (pc := 17) (lv' := [some (kR (some k)), some (kI n), some (kR (some z))]) dJ7_copyOf_59c91_17 (by decide) rfl rfl ?_
    refine ww_aload_n hX (pc := 18) dJ7_copyOf_59c91_18 rfl ?_
    refine ww_iconst hX (pc := 19) (x := 0) dJ7_copyOf_59c91_19 rfl ?_
    refine ww_aload_n hX (pc := 20) dJ7_copyOf_59c91_20 rfl ?_
    refine ww_iconst hX (pc := 21) (x := 0) dJ7_copyOf_59c91_21 rfl ?_
    refine ww_aload_n hX (pc := 22) dJ7_copyOf_59c91_22 rfl ?_
    refine ww_alen hX (pc := 23) (by decide) (sz_l hs) dJ7_copyOf_59c91_23 ?_
    refine ww_iload_n hX (pc := 24) dJ7_copyOf_59c91_24 rfl ?_
    refine ww_mmin hX (pc := 25) tb_660 tb_579 tb_13 tb_580 (by decide) (by omega) (by omega) (Nat.le_of_ble_eq_true rfl) dJ7_copyOf_59c91_25 ?_
    refine ww_toI (b := n) (by rw [i_min_r (by omega) (by omega) (by omega) (by omega)]; omega) ?_
    refine ww_copy hX (pc := 28) tb_661 tb_663 tb_662 tb_19 (sz_l hs) (sz_n hz) (by omega) (by omega) (by omega) (by omega) (by omega) (by omega) (by omega) (by decide) (Nat.le_of_ble_eq_true rfl) dJ7_copyOf_59c91_28 ?_
    refine ww_nmH (fun I_28 eI_28 => ?_)
    refine ww_aload_n hX (pc := 31) dJ7_copyOf_59c91_31 rfl ?_
    refine ww_aret hX (pc := 32) hT (Or.inr ⟨_, rfl⟩) (by omega) (by omega) dJ7_copyOf_59c91_32 ?_
    exact ⟨_, rfl, rfl, rfl, rfl, rfl, fun a ha => by rw [eI_28, upR_n _ _ ha, eI_15, upR_n _ _ ha], fun j hj => by
      rw [eI_28, upR_s]
      unfold va_cpy
      rw [if_pos ⟨Nat.zero_le _, by show j < 0 + n.toNat; omega⟩, eI_15, upR_n _ _ (by omega)]
      congr 1
      show 0 + (j - 0) = j
      omega⟩
  · simp only [w32_mod] at h_3
    obtain rfl : N = n0 := by omega
    refine ww_aload_n hX (pc := 6) dJ7_copyOf_59c91_6 rfl ?_
    refine ww_clonez hX (pc := 7) (z := z) hz tk_link hs (by decide) (Nat.le_of_ble_eq_true rfl) (by omega) (by omega) dJ7_copyOf_59c91_7 ?_
    refine ww_nmH (fun I_7 eI_7 => ?_)
    refine ww_castI hX (pc := 10) tb_659 (sz_n hz) dJ7_copyOf_59c91_10 ?_
    refine ww_aret hX (pc := 13) hT (Or.inr ⟨_, rfl⟩) (by omega) (by omega) dJ7_copyOf_59c91_13 ?_
    exact ⟨_, rfl, rfl, rfl, rfl, rfl, fun a ha => by rw [eI_7, upR_n _ _ ha], fun j hj => by rw [eI_7, upR_s]⟩
set_option maxHeartbeats 4000000 in
set_option maxRecDepth 20000 in
theorem c_X6_init (l0 : Launch) {Ia Ja : aI1} {Ra : aR1} {Sa : aS1} {o a b : Nat} {c : Int} (ho : Sa[o]? = some (12, 0))  : CT l0 1 0 0 mX6_init [kR (some o), kR (some a), kR (some b), kI c] Ia Ja Ra Sa (dV (fun I' J' R' S' => up2 Ia o 2 c = I' ∧ Ja = J' ∧ up2 (up2 Ra o 0 (some a)) o 1 (some b) = R' ∧ Sa = S')) := by
  refine ct_in pn_X6 (Nat.le_of_ble_eq_true rfl) (fun X hX hT hIn => ?_)
  have hX : aK l0 X cX6_init 4 RX6 none 1 0 0 := hX
  change WW X 0 [some (kR (some o)), some (kR (some a)), some (kR (some b)), some (kI c)] [] Ia Ja Ra Sa 0 0
  refine ww_aload_n hX (pc := 0) dX6_init_0 rfl ?_
  refine ww_objInit hX (pc := 1) tb_667 tb_27 tb_28 (by decide) (Nat.le_of_ble_eq_true rfl) dX6_init_1 ?_
  refine ww_aload_n hX (pc := 4) dX6_init_4 rfl ?_
  refine ww_aload_n hX (pc := 5) dX6_init_5 rfl ?_
  refine ww_putR hX (pc := 6) (fun _ => hIn rfl) gX6_7 (by decide) ho dX6_init_6 ?_
  refine ww_aload_n hX (pc := 9) dX6_init_9 rfl ?_
  refine ww_aload_n hX (pc := 10) dX6_init_10 rfl ?_
  refine ww_putR hX (pc := 11) (fun _ => hIn rfl) gX6_13 (by decide) ho dX6_init_11 ?_
  refine ww_aload_n hX (pc := 14) dX6_init_14 rfl ?_
  refine ww_iload_n hX (pc := 15) dX6_init_15 rfl ?_
  refine ww_putI hX (pc := 16) (fun _ => hIn rfl) gX6_16 rfl ho dX6_init_16 ?_
  exact ww_vret hX (pc := 19) hT (by omega) (by omega) dX6_init_19 ⟨rfl, rfl, rfl, rfl, rfl⟩
set_option maxHeartbeats 4000000 in
set_option maxRecDepth 20000 in
theorem c_X7_understand (l0 : Launch) {Ia Ja : aI1} {Ra : aR1} {Sa : aS1} (hL : LY Ra Sa) (hI : XI Ia) (hR : LR Ia) {z : Nat} (hz : Sa.length = z) (hz73 : 73 ≤ z)  : CT l0 293 3 428 mX7_understand [kR (some 10)] Ia Ja Ra Sa (dR (fun x I' J' R' S' => (∀ a, a < z → (a < 10 ∨ 15 ≤ a) → I' a = Ia a) ∧ (∀ a, a < z → (a < 10 ∨ 15 ≤ a) → J' a = Ja a) ∧ LR I' ∧ (∀ a, a < z → R' a = Ra a) ∧ ((x = none ∧ Sa = S') ∨ (x = some z ∧ ∃ N1 N2, N1 ≤ 400 ∧ N2 ≤ 25 ∧ S' = Sa ++ [(12, 0)] ++ [(0, N1)] ++ [(0, N2)] ∧ LawOK I' R' S' z)))) := by
  refine ct_in pn_X7 (Nat.le_of_ble_eq_true rfl) (fun X hX hT hIn => ?_)
  have hX : aK l0 X cX7_understand 1 RX7 (some (.object "LitCoast$Law")) 293 3 428 := hX
  change WW X 0 [some (kR (some 10))] [] Ia Ja Ra Sa 0 0
  obtain ⟨hn1, hn2⟩ := hI.1
  obtain ⟨hk1, hk2⟩ := hI.2.1
  obtain ⟨hf1, hf2⟩ := hI.fu
  obtain ⟨hl1, hl2⟩ := hI.2.2.2.2.2.2.1
  have hq := hR.1
  unfold LRf at hq
  refine ww_aload_n hX (pc := 0) dX7_understand_0 rfl ?_
  refine vV0 hX (pc := 1) sX7_32 (xs_10 hL) (c_X7_findTokens l0 hL hI hR) (by decide) (Nat.zero_le _) (Nat.zero_le _) (Nat.le_of_ble_eq_true rfl) dX7_understand_1 (fun I_1 J_1 h_1 => ?_)
  have kI_1 : Kp 10 15 Ia I_1 := Kp_tr (Kp_rf (a := 10) (b := 15)) (Kp_wd h_1.1 (by decide) (by decide))
  have kJ_1 : Kp 10 15 Ja J_1 := Kp_tr (Kp_rf (a := 10) (b := 15)) (Kp_wd h_1.2.1 (by decide) (by decide))
  have r1_5_I_1 : I_1 1 5 = Ia 1 5 := Kp_at kI_1 1 5 (by decide)
  have r8_1_I_1 : I_1 8 1 = Ia 8 1 := Kp_at kI_1 8 1 (by decide)
  have rf_I_1 : FU (I_1 1 5) = FU (Ia 1 5) := by rw [r1_5_I_1]
  have lI_1 : LR I_1 := h_1.2.2.1
  have qI_1 := lI_1.1
  unfold LRf at qI_1
  have cI_1 := h_1.2.2.2
  refine ww_aload_n hX (pc := 4) dX7_understand_4 rfl ?_
  refine ww_iconst hX (pc := 5) (x := 0) dX7_understand_5 rfl ?_
  refine ww_putI hX (pc := 6) (fun h9 => absurd h9 (by decide)) gX7_35 rfl (xs_10 hL) dX7_understand_6 ?_
  refine ww_nmH (fun I_6 eI_6 => ?_)
  have kI_6 : Kp 10 15 Ia I_6 := by rw [eI_6]; exact Kp_up kI_1 _ _ (by decide)
  have r1_5_I_6 : I_6 1 5 = Ia 1 5 := Kp_at kI_6 1 5 (by decide)
  have r8_1_I_6 : I_6 8 1 = Ia 8 1 := Kp_at kI_6 8 1 (by decide)
  have rf_I_6 : FU (I_6 1 5) = FU (Ia 1 5) := by rw [r1_5_I_6]
  have lI_6 : LR I_6 := by rw [eI_6]; exact LR_7 lI_1 (by omega) (by omega)
  have wI_6 := (congrFun (congrFun eI_6 10) 7).trans (up2_s _ _ _ _)
  have wI_6_6 : I_6 10 6 = I_1 10 6 := by rw [eI_6, up2_n _ _ (Or.inr (by decide))]
  have wI_6_8 : I_6 10 8 = I_1 10 8 := by rw [eI_6, up2_n _ _ (Or.inr (by decide))]
  have wI_6_9 : I_6 10 9 = I_1 10 9 := by rw [eI_6, up2_n _ _ (Or.inr (by decide))]
  have wI_6_10 : I_6 10 10 = I_1 10 10 := by rw [eI_6, up2_n _ _ (Or.inr (by decide))]
  have wI_6_11 : I_6 10 11 = I_1 10 11 := by rw [eI_6, up2_n _ _ (Or.inr (by decide))]
  refine ww_aload_n hX (pc := 9) dX7_understand_9 rfl ?_
  refine ww_aload_n hX (pc := 10) dX7_understand_10 rfl ?_
  refine ww_getR hX (pc := 11) fX7_15 (by decide) (xs_10 hL) (xr_10_2 hL) dX7_understand_11 ?_
  refine ww_iconst hX (pc := 14) (x := 0) dX7_understand_14 rfl ?_
  refine ww_iald hX (pc := 15) (xs_11 hL) (by decide) (by omega) (by omega) dX7_understand_15 ?_
  have hk0 : -1000 ≤ I_6 11 (Int.toNat 0) ∧ I_6 11 (Int.toNat 0) ≤ 1400 := lI_6.2.1 0 (by decide)
  refine ww_putI hX (pc := 16) (fun h9 => absurd h9 (by decide)) gX7_38 rfl (xs_10 hL) dX7_understand_16 ?_
  refine ww_nmH (fun I_16 eI_16 => ?_)
  have kI_16 : Kp 10 15 Ia I_16 := by rw [eI_16]; exact Kp_up kI_6 _ _ (by decide)
  have r1_5_I_16 : I_16 1 5 = Ia 1 5 := Kp_at kI_16 1 5 (by decide)
  have r8_1_I_16 : I_16 8 1 = Ia 8 1 := Kp_at kI_16 8 1 (by decide)
  have rf_I_16 : FU (I_16 1 5) = FU (Ia 1 5) := by rw [r1_5_I_16]
  have lI_16 : LR I_16 := by rw [eI_16]; exact LR_8 lI_6 (by omega) (by omega)
  have wI_16 := (congrFun (congrFun eI_16 10) 8).trans (up2_s _ _ _ _)
  have wI_16_6 : I_16 10 6 = I_6 10 6 := by rw [eI_16, up2_n _ _ (Or.inr (by decide))]
  have wI_16_7 : I_16 10 7 = I_6 10 7 := by rw [eI_16, up2_n _ _ (Or.inr (by decide))]
  have wI_16_9 : I_16 10 9 = I_6 10 9 := by rw [eI_16, up2_n _ _ (Or.inr (by decide))]
  have wI_16_10 : I_16 10 10 = I_6 10 10 := by rw [eI_16, up2_n _ _ (Or.inr (by decide))]
  have wI_16_11 : I_16 10 11 = I_6 10 11 := by rw [eI_16, up2_n _ _ (Or.inr (by decide))]
  refine ww_aload_n hX (pc := 19) dX7_understand_19 rfl ?_
  refine ww_iconst hX (pc := 20) (x := 0) dX7_understand_20 rfl ?_
  refine ww_putI hX (pc := 21) (fun h9 => absurd h9 (by decide)) gX7_41 rfl (xs_10 hL) dX7_understand_21 ?_
  refine ww_nmH (fun I_21 eI_21 => ?_)
  have kI_21 : Kp 10 15 Ia I_21 := by rw [eI_21]; exact Kp_up kI_16 _ _ (by decide)
  have r1_5_I_21 : I_21 1 5 = Ia 1 5 := Kp_at kI_21 1 5 (by decide)
  have r8_1_I_21 : I_21 8 1 = Ia 8 1 := Kp_at kI_21 8 1 (by decide)
  have rf_I_21 : FU (I_21 1 5) = FU (Ia 1 5) := by rw [r1_5_I_21]
  have lI_21 : LR I_21 := by rw [eI_21]; exact LR_9 lI_16 (by omega) (by omega)
  have wI_21 := (congrFun (congrFun eI_21 10) 9).trans (up2_s _ _ _ _)
  have wI_21_6 : I_21 10 6 = I_16 10 6 := by rw [eI_21, up2_n _ _ (Or.inr (by decide))]
  have wI_21_7 : I_21 10 7 = I_16 10 7 := by rw [eI_21, up2_n _ _ (Or.inr (by decide))]
  have wI_21_8 : I_21 10 8 = I_16 10 8 := by rw [eI_21, up2_n _ _ (Or.inr (by decide))]
  have wI_21_10 : I_21 10 10 = I_16 10 10 := by rw [eI_21, up2_n _ _ (Or.inr (by decide))]
  have wI_21_11 : I_21 10 11 = I_16 10 11 := by rw [eI_21, up2_n _ _ (Or.inr (by decide))]
  refine ww_aload_n hX (pc := 24) dX7_understand_24 rfl ?_
  refine ww_iconst hX (pc := 25) (x := 0) dX7_understand_25 rfl ?_
  refine ww_putI hX (pc := 26) (fun h9 => absurd h9 (by decide)) gX7_44 rfl (xs_10 hL) dX7_understand_26 ?_
  refine ww_nmH (fun I_26 eI_26 => ?_)
  have kI_26 : Kp 10 15 Ia I_26 := by rw [eI_26]; exact Kp_up kI_21 _ _ (by decide)
  have r1_5_I_26 : I_26 1 5 = Ia 1 5 := Kp_at kI_26 1 5 (by decide)
  have r8_1_I_26 : I_26 8 1 = Ia 8 1 := Kp_at kI_26 8 1 (by decide)
  have rf_I_26 : FU (I_26 1 5) = FU (Ia 1 5) := by rw [r1_5_I_26]
  have lI_26 : LR I_26 := by rw [eI_26]; exact LR_10 lI_21 (by omega) (by omega)
  have wI_26 := (congrFun (congrFun eI_26 10) 10).trans (up2_s _ _ _ _)
  have wI_26_6 : I_26 10 6 = I_21 10 6 := by rw [eI_26, up2_n _ _ (Or.inr (by decide))]
  have wI_26_7 : I_26 10 7 = I_21 10 7 := by rw [eI_26, up2_n _ _ (Or.inr (by decide))]
  have wI_26_8 : I_26 10 8 = I_21 10 8 := by rw [eI_26, up2_n _ _ (Or.inr (by decide))]
  have wI_26_9 : I_26 10 9 = I_21 10 9 := by rw [eI_26, up2_n _ _ (Or.inr (by decide))]
  have wI_26_11 : I_26 10 11 = I_21 10 11 := by rw [eI_26, up2_n _ _ (Or.inr (by decide))]
  refine ww_aload_n hX (pc := 29) dX7_understand_29 rfl ?_
  refine ww_iconst hX (pc := 30) (x := 0) dX7_understand_30 rfl ?_
  refine ww_putI hX (pc := 31) (fun h9 => absurd h9 (by decide)) gX7_47 rfl (xs_10 hL) dX7_understand_31 ?_
  refine ww_nmH (fun I_31 eI_31 => ?_)
  have kI_31 : Kp 10 15 Ia I_31 := by rw [eI_31]; exact Kp_up kI_26 _ _ (by decide)
  have r1_5_I_31 : I_31 1 5 = Ia 1 5 := Kp_at kI_31 1 5 (by decide)
  have r8_1_I_31 : I_31 8 1 = Ia 8 1 := Kp_at kI_31 8 1 (by decide)
  have rf_I_31 : FU (I_31 1 5) = FU (Ia 1 5) := by rw [r1_5_I_31]
  have lI_31 : LR I_31 := by rw [eI_31]; exact LR_11 lI_26 (by omega) (by omega)
  have wI_31 := (congrFun (congrFun eI_31 10) 11).trans (up2_s _ _ _ _)
  have wI_31_6 : I_31 10 6 = I_26 10 6 := by rw [eI_31, up2_n _ _ (Or.inr (by decide))]
  have wI_31_7 : I_31 10 7 = I_26 10 7 := by rw [eI_31, up2_n _ _ (Or.inr (by decide))]
  have wI_31_8 : I_31 10 8 = I_26 10 8 := by rw [eI_31, up2_n _ _ (Or.inr (by decide))]
  have wI_31_9 : I_31 10 9 = I_26 10 9 := by rw [eI_31, up2_n _ _ (Or.inr (by decide))]
  have wI_31_10 : I_31 10 10 = I_26 10 10 := by rw [eI_31, up2_n _ _ (Or.inr (by decide))]
  refine ww_aload_n hX (pc := 34) dX7_understand_34 rfl ?_
  refine ww_iconst hX (pc := 35) (x := (-1)) dX7_understand_35 rfl ?_
  refine ww_putI hX (pc := 36) (fun h9 => absurd h9 (by decide)) gX7_9 rfl (xs_10 hL) dX7_understand_36 ?_
  refine ww_nmH (fun I_36 eI_36 => ?_)
  have kI_36 : Kp 10 15 Ia I_36 := by rw [eI_36]; exact Kp_up kI_31 _ _ (by decide)
  have r1_5_I_36 : I_36 1 5 = Ia 1 5 := Kp_at kI_36 1 5 (by decide)
  have r8_1_I_36 : I_36 8 1 = Ia 8 1 := Kp_at kI_36 8 1 (by decide)
  have rf_I_36 : FU (I_36 1 5) = FU (Ia 1 5) := by rw [r1_5_I_36]
  have lI_36 : LR I_36 := by rw [eI_36]; exact LR_0 lI_31
  have wI_36 := (congrFun (congrFun eI_36 10) 0).trans (up2_s _ _ _ _)
  have wI_36_6 : I_36 10 6 = I_31 10 6 := by rw [eI_36, up2_n _ _ (Or.inr (by decide))]
  have wI_36_7 : I_36 10 7 = I_31 10 7 := by rw [eI_36, up2_n _ _ (Or.inr (by decide))]
  have wI_36_8 : I_36 10 8 = I_31 10 8 := by rw [eI_36, up2_n _ _ (Or.inr (by decide))]
  have wI_36_9 : I_36 10 9 = I_31 10 9 := by rw [eI_36, up2_n _ _ (Or.inr (by decide))]
  have wI_36_10 : I_36 10 10 = I_31 10 10 := by rw [eI_36, up2_n _ _ (Or.inr (by decide))]
  have wI_36_11 : I_36 10 11 = I_31 10 11 := by rw [eI_36, up2_n _ _ (Or.inr (by decide))]
  refine ww_aload_n hX (pc := 39) dX7_understand_39 rfl ?_
  refine vI0 hX (pc := 40) sX7_50 (xs_10 hL) (c_X7_takeClauses l0 hL (XI_kp hI kI_36 (by decide)) lI_36) (by decide) (Nat.zero_le _) (Nat.zero_le _) (Nat.le_of_ble_eq_true rfl) dX7_understand_40 (fun x_40 I_40 J_40 h_40 => ?_)
  have kI_40 : Kp 10 15 Ia I_40 := Kp_tr kI_36 (Kp_wd h_40.1 (by decide) (by decide))
  have kJ_40 : Kp 10 15 Ja J_40 := Kp_tr kJ_1 (Kp_wd h_40.2.1 (by decide) (by decide))
  have r1_5_I_40 : I_40 1 5 = Ia 1 5 := Kp_at kI_40 1 5 (by decide)
  have r8_1_I_40 : I_40 8 1 = Ia 8 1 := Kp_at kI_40 8 1 (by decide)
  have rf_I_40 : FU (I_40 1 5) = FU (Ia 1 5) := by rw [r1_5_I_40]
  have lI_40 : LR I_40 := h_40.2.2.1
  have qI_40 := lI_40.1
  unfold LRf at qI_40
  have cI_40 := h_40.2.2.2
  refine ww_if_ne hX (pc := 43) (tgt := 48) dX7_understand_43 (by decide) (fun h_43 => ?_) (fun h_43 => ?_)
  · simp only [w32_mod] at h_43
    refine ww_newz hX (pc := 48) 3 (z := z) hz cl_6 tb_648 tb_649 tb_18 rfl (by omega) (by omega) dX7_understand_48 ?_
    refine ww_nmH (fun I_48 eI_48 => ?_)
    refine ww_nmK (fun J_48 eJ_48 => ?_)
    have e9 : ∀ a, a < z → I_48 a = I_40 a := fun a ha => by rw [eI_48, upR_n _ _ (by omega)]
    have e10 : I_48 10 = I_40 10 := e9 10 (by omega)
    refine ww_dupR hX (pc := 51) dX7_understand_51 ?_
    refine ww_aload_n hX (pc := 52) dX7_understand_52 rfl ?_
    refine ww_getR hX (pc := 53) fX7_22 (by decide) (sz_l (xs_10 hL)) (by rw [upR_n _ _ (by omega)]; exact xr_10_4 hL) dX7_understand_53 ?_
    refine ww_aload_n hX (pc := 56) dX7_understand_56 rfl ?_
    refine ww_getI hX (pc := 57) fX7_41 (by decide) (sz_l (xs_10 hL)) dX7_understand_57 ?_
    obtain ⟨N1, hN1⟩ : ∃ N : Nat, I_48 10 9 = (N : Int) := ⟨(I_48 10 9).toNat, by rw [e10]; omega⟩
    have hN1' : N1 ≤ 400 := by rw [e10] at hN1; omega
    refine ww_callS hX (pc := 60) (av := [kR (some 13), kI (I_48 10 9)]) sX7_56 (c_J7_copyOf_59c91 l0 (N := N1) (sz_l (xs_13 hL)) (lz hz) hN1 hN1' (by decide)) rfl (by decide) (by omega) (by omega) (Nat.le_of_ble_eq_true rfl) dX7_understand_60 (fun r_60 I_60 J_60 R_60 S_60 h_60 => ?_)
    obtain ⟨_, rfl, rfl, rfl, rfl, rfl, hI_60, hj_60⟩ := h_60
    change WW X 63 [some (kR (some 10))] [kR (some (z + 1)), kR (some z), kR (some z)] I_60 J_48 _ _ _ _
    refine ww_aload_n hX (pc := 63) dX7_understand_63 rfl ?_
    refine ww_getR hX (pc := 64) fX7_25 (by decide) (sz_l (sz_l (xs_10 hL))) (by rw [upR_n _ _ (by omega)]; exact xr_10_5 hL) dX7_understand_64 ?_
    refine ww_iconst hX (pc := 67) (x := 2) dX7_understand_67 rfl ?_
    refine ww_aload_n hX (pc := 68) dX7_understand_68 rfl ?_
    refine ww_getI hX (pc := 69) fX7_47 (by decide) (sz_l (sz_l (xs_10 hL))) dX7_understand_69 ?_
    refine ww_imul hX (pc := 72) dX7_understand_72 ?_
    refine ww_iconst hX (pc := 73) (x := 1) dX7_understand_73 rfl ?_
    refine ww_iadd hX (pc := 74) dX7_understand_74 ?_
    refine ww_nmI (fun v_74 hv_74 => ?_)
    have e11 : I_60 10 = I_40 10 := (hI_60 10 (by omega)).trans e10
    rw [e11] at hv_74
    obtain ⟨N2, hN2⟩ : ∃ N : Nat, v_74 = (N : Int) := ⟨v_74.toNat, by omega⟩
    have hN2' : N2 ≤ 25 := by omega
    refine ww_callS hX (pc := 75) (av := [kR (some 14), kI v_74]) sX7_56 (c_J7_copyOf_59c91 l0 (N := N2) (sz_l (sz_l (xs_14 hL))) (lz (lz hz)) hN2 hN2' (by decide)) rfl (by decide) (by omega) (by omega) (Nat.le_of_ble_eq_true rfl) dX7_understand_75 (fun r_75 I_75 J_75 R_75 S_75 h_75 => ?_)
    obtain ⟨_, rfl, rfl, rfl, rfl, rfl, hI_75, hj_75⟩ := h_75
    change WW X 78 [some (kR (some 10))] [kR (some (z + 2)), kR (some (z + 1)), kR (some z), kR (some z)] I_75 J_48 _ _ _ _
    refine ww_aload_n hX (pc := 78) dX7_understand_78 rfl ?_
    refine ww_getI hX (pc := 79) fX7_47 (by decide) (sz_l (sz_l (sz_l (xs_10 hL)))) dX7_understand_79 ?_
    refine ww_callI hX (pc := 82) (av := [kR (some (z + 1)), kR (some (z + 2)), kI (I_75 10 11)]) sX7_62 (c_X6_init l0 (sz_l (sz_l (sz_n hz)))) rfl (by decide) (by omega) (by omega) (Nat.le_of_ble_eq_true rfl) dX7_understand_82 (fun r_82 I_82 J_82 R_82 S_82 h_82 => ?_)
    obtain ⟨rfl, rfl, rfl, rfl, rfl⟩ := h_82
    change WW X 85 [some (kR (some 10))] [kR (some z)] _ J_48 _ _ _ _
    have e12 : I_75 10 = I_40 10 := (hI_75 10 (by omega)).trans e11
    have e13 : ∀ a, a < z → up2 I_75 z 2 (I_75 10 11) a = I_40 a := fun a ha => by
      rw [up2_off _ _ _ (by omega), hI_75 a (by omega), hI_60 a (by omega), e9 a ha]
    refine ww_aret hX (pc := 85) hT (Or.inl ⟨_, rfl⟩) (by omega) (by omega) dX7_understand_85 ⟨_, rfl, fun a ha h => (e13 a ha).trans (kI_40 a (by omega)), fun a ha h => by rw [eJ_48, upR_n _ _ (by omega)]; exact kJ_40 a (by omega), ?_, fun a ha => by rw [up2_off _ _ _ (by omega), up2_off _ _ _ (by omega), upR_n _ _ (by omega)], Or.inr ⟨rfl, N1, N2, hN1', hN2', rfl, hz73, sz_l (sz_l (sz_n hz)), by rw [up2_n _ _ (Or.inr (by decide)), up2_s], by rw [up2_s], ?_, ⟨N1, hN1', sz_l (sz_n (lz hz)), fun j hj => ?_⟩, ⟨N2, hN2', sz_n (lz (lz hz)), fun j hj => ?_⟩⟩⟩
    · unfold LR
      rw [e13 10 (by omega), e13 11 (by omega), e13 13 (by omega), e13 14 (by omega)]
      exact lI_40
    · rw [up2_s, e12]; omega
    · rw [up2_off _ _ _ (by omega), hI_75 _ (by omega), hj_60 j hj, e9 13 (by omega)]
      exact lI_40.2.2.1 j (by omega)
    · rw [up2_off _ _ _ (by omega), hj_75 j hj, hI_60 14 (by omega), e9 14 (by omega)]
      exact lI_40.2.2.2 j (by omega)
  · simp only [w32_mod] at h_43
    refine ww_null hX (pc := 46) dX7_understand_46 ?_
    exact ww_aret hX (pc := 47) hT (Or.inl ⟨_, rfl⟩) (by omega) (by omega) dX7_understand_47 ⟨_, rfl, fun a _ h => kI_40 a (by omega), fun a _ h => kJ_40 a (by omega), lI_40, fun a _ => rfl, Or.inl ⟨rfl, rfl⟩⟩
end
section
/-- a Coast at o with its rows side by side -/
def CoSh (R : aR1) (S : aS1) (o : Nat) : Prop := S[o]? = some (7, 0) ∧ S[o + 1]? = some (0, 8) ∧ S[o + 2]? = some (0, 256) ∧ S[o + 3]? = some (4, 6) ∧ S[o + 4]? = some (0, 24) ∧ S[o + 5]? = some (0, 16) ∧ R o 0 = some (o + 1) ∧ R o 1 = some (o + 2) ∧ R o 2 = some (o + 3) ∧ R o 3 = some (o + 4) ∧ R o 4 = some (o + 5)
theorem CoSh_1 {R : aR1} {S : aS1} (h : LY R S) : CoSh R S 1 := ⟨xs_1 h, xs_2 h, xs_3 h, xs_4 h, xs_5 h, xs_6 h, xr_1_0 h, xr_1_1 h, xr_1_2 h, xr_1_3 h, xr_1_4 h⟩
/-- a Coast's rows are another's -/
def CoEq (I I' : aI1) (R R' : aR1) (o q : Nat) : Prop := (∀ j, j < 8 → I' (o + 1) j = I (q + 1) j) ∧ (∀ j, j < 256 → I' (o + 2) j = I (q + 2) j) ∧ (∀ j, j < 6 → R' (o + 3) j = R (q + 3) j) ∧ (∀ j, j < 24 → I' (o + 4) j = I (q + 4) j) ∧ (∀ j, j < 16 → I' (o + 5) j = I (q + 5) j) ∧ (∀ j, 5 ≤ j → j ≤ 11 → I' o j = I q j)
theorem cpy_at {f g : Nat → Int} {n j : Nat} (h : j < n) : va_cpy f g 0 0 n j = f j := by
  unfold va_cpy
  rw [if_pos ⟨Nat.zero_le _, by omega⟩]
  congr 1
  omega
set_option maxHeartbeats 4000000 in
set_option maxRecDepth 20000 in
theorem c_X1_copyFrom (l0 : Launch) {Ia Ja : aI1} {Ra : aR1} {Sa : aS1} {o q : Nat} (ho : CoSh Ra Sa o) (hq : CoSh Ra Sa q) (hoq : o + 5 < q ∨ q + 5 < o) (hlw : ∀ i, i < 6 → ∀ w, Ra (q + 3) i = some w → ∃ n, Sa[w]? = some (12, n))  : CT l0 1 0 0 mX1_copyFrom [kR (some o), kR (some q)] Ia Ja Ra Sa (dV (fun I' J' R' S' => Ja = J' ∧ (∀ k, k ≠ o → k ≠ o + 1 → k ≠ o + 2 → k ≠ o + 4 → k ≠ o + 5 → I' k = Ia k) ∧ (∀ k, k ≠ o + 3 → R' k = Ra k) ∧ (Sa = S' ∧ CoEq Ia I' Ra R' o q))) := by
  refine ct_in pn_X1 (Nat.le_of_ble_eq_true rfl) (fun X hX hT hIn => ?_)
  have hX : aK l0 X cX1_copyFrom 3 RX1 none 1 0 0 := hX
  change WW X 0 [some (kR (some o)), some (kR (some q)), none] [] Ia Ja Ra Sa 0 0
  refine ww_aload_n hX (pc := 0) dX1_copyFrom_0 rfl ?_
  refine ww_getR hX (pc := 1) fX1_9 (by decide) (hq.1) (hq.2.2.2.2.2.2.1) dX1_copyFrom_1 ?_
  refine ww_iconst hX (pc := 4) (x := 0) dX1_copyFrom_4 rfl ?_
  refine ww_aload_n hX (pc := 5) dX1_copyFrom_5 rfl ?_
  refine ww_getR hX (pc := 6) fX1_9 (by decide) (ho.1) (ho.2.2.2.2.2.2.1) dX1_copyFrom_6 ?_
  refine ww_iconst hX (pc := 9) (x := 0) dX1_copyFrom_9 rfl ?_
  refine ww_bipush hX (pc := 10) (x := 8) dX1_copyFrom_10 (by decide) ?_
  refine ww_copy hX (pc := 12) tb_1069 tb_663 tb_662 tb_19 (hq.2.1) (ho.2.1) (by decide) (by decide) (by omega) (by omega) (by omega) (by omega) (by omega) (by decide) (Nat.le_of_ble_eq_true rfl) dX1_copyFrom_12 ?_
  refine ww_nmH (fun I_12 eI_12 => ?_)
  refine ww_aload_n hX (pc := 15) dX1_copyFrom_15 rfl ?_
  refine ww_getR hX (pc := 16) fX1_15 (by decide) (hq.1) (hq.2.2.2.2.2.2.2.1) dX1_copyFrom_16 ?_
  refine ww_iconst hX (pc := 19) (x := 0) dX1_copyFrom_19 rfl ?_
  refine ww_aload_n hX (pc := 20) dX1_copyFrom_20 rfl ?_
  refine ww_getR hX (pc := 21) fX1_15 (by decide) (ho.1) (ho.2.2.2.2.2.2.2.1) dX1_copyFrom_21 ?_
  refine ww_iconst hX (pc := 24) (x := 0) dX1_copyFrom_24 rfl ?_
  refine ww_sipush hX (pc := 25) (x := 256) dX1_copyFrom_25 (by decide) ?_
  refine ww_copy hX (pc := 28) tb_1069 tb_663 tb_662 tb_19 (hq.2.2.1) (ho.2.2.1) (by decide) (by decide) (by omega) (by omega) (by omega) (by omega) (by omega) (by decide) (Nat.le_of_ble_eq_true rfl) dX1_copyFrom_28 ?_
  refine ww_nmH (fun I_28 eI_28 => ?_)
  refine ww_aload_n hX (pc := 31) dX1_copyFrom_31 rfl ?_
  refine ww_getR hX (pc := 32) fX1_24 (by decide) (hq.1) (hq.2.2.2.2.2.2.2.2.2.1) dX1_copyFrom_32 ?_
  refine ww_iconst hX (pc := 35) (x := 0) dX1_copyFrom_35 rfl ?_
  refine ww_aload_n hX (pc := 36) dX1_copyFrom_36 rfl ?_
  refine ww_getR hX (pc := 37) fX1_24 (by decide) (ho.1) (ho.2.2.2.2.2.2.2.2.2.1) dX1_copyFrom_37 ?_
  refine ww_iconst hX (pc := 40) (x := 0) dX1_copyFrom_40 rfl ?_
  refine ww_bipush hX (pc := 41) (x := 24) dX1_copyFrom_41 (by decide) ?_
  refine ww_copy hX (pc := 43) tb_1069 tb_663 tb_662 tb_19 (hq.2.2.2.2.1) (ho.2.2.2.2.1) (by decide) (by decide) (by omega) (by omega) (by omega) (by omega) (by omega) (by decide) (Nat.le_of_ble_eq_true rfl) dX1_copyFrom_43 ?_
  refine ww_nmH (fun I_43 eI_43 => ?_)
  refine ww_aload_n hX (pc := 46) dX1_copyFrom_46 rfl ?_
  refine ww_getR hX (pc := 47) fX1_27 (by decide) (hq.1) (hq.2.2.2.2.2.2.2.2.2.2) dX1_copyFrom_47 ?_
  refine ww_iconst hX (pc := 50) (x := 0) dX1_copyFrom_50 rfl ?_
  refine ww_aload_n hX (pc := 51) dX1_copyFrom_51 rfl ?_
  refine ww_getR hX (pc := 52) fX1_27 (by decide) (ho.1) (ho.2.2.2.2.2.2.2.2.2.2) dX1_copyFrom_52 ?_
  refine ww_iconst hX (pc := 55) (x := 0) dX1_copyFrom_55 rfl ?_
  refine ww_bipush hX (pc := 56) (x := 16) dX1_copyFrom_56 (by decide) ?_
  refine ww_copy hX (pc := 58) tb_1069 tb_663 tb_662 tb_19 (hq.2.2.2.2.2.1) (ho.2.2.2.2.2.1) (by decide) (by decide) (by omega) (by omega) (by omega) (by omega) (by omega) (by decide) (Nat.le_of_ble_eq_true rfl) dX1_copyFrom_58 ?_
  refine ww_nmH (fun I_58 eI_58 => ?_)
  refine ww_iconst hX (pc := 61) (x := 0) dX1_copyFrom_61 rfl ?_
  refine ww_istore_n hX (pc := 62) (lv' := [some (kR (some o)), some (kR (some q)), some (kI 0)]) dX1_copyFrom_62 (by decide) rfl rfl ?_
  have e58 : ∀ k, k ≠ o + 1 → k ≠ o + 2 → k ≠ o + 4 → k ≠ o + 5 → I_58 k = Ia k := fun k h1 h2 h3 h4 => by rw [eI_58, upR_n _ _ h4, eI_43, upR_n _ _ h3, eI_28, upR_n _ _ h2, eI_12, upR_n _ _ h1]
  have hl_63 : ∀ (n_63 : Nat) (i : Int) (R2 : aR1), (6 - i).toNat = n_63 → ((0 ≤ i ∧ i ≤ 6) ∧ (∀ k, k ≠ o + 3 → R2 k = Ra k) ∧ ∀ j : Nat, (j : Int) < i → R2 (o + 3) j = Ra (q + 3) j) → WW X 63 [some (kR (some o)), some (kR (some q)), some (kI i)] [] I_58 Ja R2 Sa 0 0 := by
    intro n_63
    induction n_63 using Nat.strongRecOn with
    | ind n_63 ih_63 =>
      intro i R2 hm_63 hv_63
      have hq_63 := Sh0_i hm_63
      clear hm_63
      obtain ⟨hi, hR2, hj2⟩ := hv_63
      refine ww_iload_n hX (pc := 63) dX1_copyFrom_63 rfl ?_
      refine ww_bipush hX (pc := 64) (x := 6) dX1_copyFrom_64 (by decide) ?_
      refine ww_icmp_ge hX (pc := 66) (tgt := 87) dX1_copyFrom_66 (by decide) (fun h_66 => ?_) (fun h_66 => ?_)
      · simp only [w32_mod] at h_66
        refine ww_aload_n hX (pc := 87) dX1_copyFrom_87 rfl ?_
        refine ww_aload_n hX (pc := 88) dX1_copyFrom_88 rfl ?_
        refine ww_getI hX (pc := 89) fX1_30 (by decide) (hq.1) dX1_copyFrom_89 ?_
        refine ww_putI hX (pc := 92) (fun h9 => absurd h9 (by decide)) gX1_30 rfl (ho.1) dX1_copyFrom_92 ?_
        refine ww_nmH (fun I_92 eI_92 => ?_)
        have qI_92 : I_92 q = I_58 q := by rw [eI_92, up2_off _ _ _ (by omega)]
        have wI_92_5 : I_92 o 5 = I_58 q 5 := by rw [eI_92, up2_s]
        have rI_92 : ∀ k, k ≠ o → I_92 k = I_58 k := fun k hk => by rw [eI_92, up2_off _ _ _ hk]
        refine ww_aload_n hX (pc := 95) dX1_copyFrom_95 rfl ?_
        refine ww_aload_n hX (pc := 96) dX1_copyFrom_96 rfl ?_
        refine ww_getI hX (pc := 97) fX1_34 (by decide) (hq.1) dX1_copyFrom_97 ?_
        refine ww_putI hX (pc := 100) (fun h9 => absurd h9 (by decide)) gX1_34 rfl (ho.1) dX1_copyFrom_100 ?_
        refine ww_nmH (fun I_100 eI_100 => ?_)
        have qI_100 : I_100 q = I_58 q := by rw [eI_100, up2_off _ _ _ (by omega), qI_92]
        have wI_100_6 : I_100 o 6 = I_58 q 6 := by rw [eI_100, up2_s, qI_92]
        have wI_100_5 : I_100 o 5 = I_58 q 5 := by rw [eI_100, up2_n _ _ (Or.inr (by decide)), wI_92_5]
        have rI_100 : ∀ k, k ≠ o → I_100 k = I_58 k := fun k hk => by rw [eI_100, up2_off _ _ _ hk, rI_92 k hk]
        refine ww_aload_n hX (pc := 103) dX1_copyFrom_103 rfl ?_
        refine ww_aload_n hX (pc := 104) dX1_copyFrom_104 rfl ?_
        refine ww_getI hX (pc := 105) fX1_47 (by decide) (hq.1) dX1_copyFrom_105 ?_
        refine ww_putI hX (pc := 108) (fun h9 => absurd h9 (by decide)) gX1_47 rfl (ho.1) dX1_copyFrom_108 ?_
        refine ww_nmH (fun I_108 eI_108 => ?_)
        have qI_108 : I_108 q = I_58 q := by rw [eI_108, up2_off _ _ _ (by omega), qI_100]
        have wI_108_7 : I_108 o 7 = I_58 q 7 := by rw [eI_108, up2_s, qI_100]
        have wI_108_5 : I_108 o 5 = I_58 q 5 := by rw [eI_108, up2_n _ _ (Or.inr (by decide)), wI_100_5]
        have wI_108_6 : I_108 o 6 = I_58 q 6 := by rw [eI_108, up2_n _ _ (Or.inr (by decide)), wI_100_6]
        have rI_108 : ∀ k, k ≠ o → I_108 k = I_58 k := fun k hk => by rw [eI_108, up2_off _ _ _ hk, rI_100 k hk]
        refine ww_aload_n hX (pc := 111) dX1_copyFrom_111 rfl ?_
        refine ww_aload_n hX (pc := 112) dX1_copyFrom_112 rfl ?_
        refine ww_getI hX (pc := 113) fX1_58 (by decide) (hq.1) dX1_copyFrom_113 ?_
        refine ww_putI hX (pc := 116) (fun h9 => absurd h9 (by decide)) gX1_58 rfl (ho.1) dX1_copyFrom_116 ?_
        refine ww_nmH (fun I_116 eI_116 => ?_)
        have qI_116 : I_116 q = I_58 q := by rw [eI_116, up2_off _ _ _ (by omega), qI_108]
        have wI_116_8 : I_116 o 8 = I_58 q 8 := by rw [eI_116, up2_s, qI_108]
        have wI_116_5 : I_116 o 5 = I_58 q 5 := by rw [eI_116, up2_n _ _ (Or.inr (by decide)), wI_108_5]
        have wI_116_6 : I_116 o 6 = I_58 q 6 := by rw [eI_116, up2_n _ _ (Or.inr (by decide)), wI_108_6]
        have wI_116_7 : I_116 o 7 = I_58 q 7 := by rw [eI_116, up2_n _ _ (Or.inr (by decide)), wI_108_7]
        have rI_116 : ∀ k, k ≠ o → I_116 k = I_58 k := fun k hk => by rw [eI_116, up2_off _ _ _ hk, rI_108 k hk]
        refine ww_aload_n hX (pc := 119) dX1_copyFrom_119 rfl ?_
        refine ww_aload_n hX (pc := 120) dX1_copyFrom_120 rfl ?_
        refine ww_getI hX (pc := 121) fX1_73 (by decide) (hq.1) dX1_copyFrom_121 ?_
        refine ww_putI hX (pc := 124) (fun h9 => absurd h9 (by decide)) gX1_73 rfl (ho.1) dX1_copyFrom_124 ?_
        refine ww_nmH (fun I_124 eI_124 => ?_)
        have qI_124 : I_124 q = I_58 q := by rw [eI_124, up2_off _ _ _ (by omega), qI_116]
        have wI_124_9 : I_124 o 9 = I_58 q 9 := by rw [eI_124, up2_s, qI_116]
        have wI_124_5 : I_124 o 5 = I_58 q 5 := by rw [eI_124, up2_n _ _ (Or.inr (by decide)), wI_116_5]
        have wI_124_6 : I_124 o 6 = I_58 q 6 := by rw [eI_124, up2_n _ _ (Or.inr (by decide)), wI_116_6]
        have wI_124_7 : I_124 o 7 = I_58 q 7 := by rw [eI_124, up2_n _ _ (Or.inr (by decide)), wI_116_7]
        have wI_124_8 : I_124 o 8 = I_58 q 8 := by rw [eI_124, up2_n _ _ (Or.inr (by decide)), wI_116_8]
        have rI_124 : ∀ k, k ≠ o → I_124 k = I_58 k := fun k hk => by rw [eI_124, up2_off _ _ _ hk, rI_116 k hk]
        refine ww_aload_n hX (pc := 127) dX1_copyFrom_127 rfl ?_
        refine ww_aload_n hX (pc := 128) dX1_copyFrom_128 rfl ?_
        refine ww_getI hX (pc := 129) fX1_61 (by decide) (hq.1) dX1_copyFrom_129 ?_
        refine ww_putI hX (pc := 132) (fun h9 => absurd h9 (by decide)) gX1_61 rfl (ho.1) dX1_copyFrom_132 ?_
        refine ww_nmH (fun I_132 eI_132 => ?_)
        have qI_132 : I_132 q = I_58 q := by rw [eI_132, up2_off _ _ _ (by omega), qI_124]
        have wI_132_10 : I_132 o 10 = I_58 q 10 := by rw [eI_132, up2_s, qI_124]
        have wI_132_5 : I_132 o 5 = I_58 q 5 := by rw [eI_132, up2_n _ _ (Or.inr (by decide)), wI_124_5]
        have wI_132_6 : I_132 o 6 = I_58 q 6 := by rw [eI_132, up2_n _ _ (Or.inr (by decide)), wI_124_6]
        have wI_132_7 : I_132 o 7 = I_58 q 7 := by rw [eI_132, up2_n _ _ (Or.inr (by decide)), wI_124_7]
        have wI_132_8 : I_132 o 8 = I_58 q 8 := by rw [eI_132, up2_n _ _ (Or.inr (by decide)), wI_124_8]
        have wI_132_9 : I_132 o 9 = I_58 q 9 := by rw [eI_132, up2_n _ _ (Or.inr (by decide)), wI_124_9]
        have rI_132 : ∀ k, k ≠ o → I_132 k = I_58 k := fun k hk => by rw [eI_132, up2_off _ _ _ hk, rI_124 k hk]
        refine ww_aload_n hX (pc := 135) dX1_copyFrom_135 rfl ?_
        refine ww_aload_n hX (pc := 136) dX1_copyFrom_136 rfl ?_
        refine ww_getI hX (pc := 137) fX1_64 (by decide) (hq.1) dX1_copyFrom_137 ?_
        refine ww_putI hX (pc := 140) (fun h9 => absurd h9 (by decide)) gX1_64 rfl (ho.1) dX1_copyFrom_140 ?_
        refine ww_nmH (fun I_140 eI_140 => ?_)
        have qI_140 : I_140 q = I_58 q := by rw [eI_140, up2_off _ _ _ (by omega), qI_132]
        have wI_140_11 : I_140 o 11 = I_58 q 11 := by rw [eI_140, up2_s, qI_132]
        have wI_140_5 : I_140 o 5 = I_58 q 5 := by rw [eI_140, up2_n _ _ (Or.inr (by decide)), wI_132_5]
        have wI_140_6 : I_140 o 6 = I_58 q 6 := by rw [eI_140, up2_n _ _ (Or.inr (by decide)), wI_132_6]
        have wI_140_7 : I_140 o 7 = I_58 q 7 := by rw [eI_140, up2_n _ _ (Or.inr (by decide)), wI_132_7]
        have wI_140_8 : I_140 o 8 = I_58 q 8 := by rw [eI_140, up2_n _ _ (Or.inr (by decide)), wI_132_8]
        have wI_140_9 : I_140 o 9 = I_58 q 9 := by rw [eI_140, up2_n _ _ (Or.inr (by decide)), wI_132_9]
        have wI_140_10 : I_140 o 10 = I_58 q 10 := by rw [eI_140, up2_n _ _ (Or.inr (by decide)), wI_132_10]
        have rI_140 : ∀ k, k ≠ o → I_140 k = I_58 k := fun k hk => by rw [eI_140, up2_off _ _ _ hk, rI_132 k hk]
        refine ww_vret hX (pc := 143) hT (Nat.zero_le _) (Nat.zero_le _) dX1_copyFrom_143 ?_
        show _ ∧ _
        refine ⟨rfl, rfl, fun k h1 h2 h3 h4 h5 => (rI_140 k h1).trans (e58 k h2 h3 h4 h5), hR2, rfl, ?_⟩
        refine ⟨fun j hj => ?_, fun j hj => ?_, fun j hj => hj2 j (by omega), fun j hj => ?_, fun j hj => ?_, fun j h1 h2 => ?_⟩
        · rw [rI_140 _ (by omega), eI_58, upR_n _ _ (by omega), eI_43, upR_n _ _ (by omega), eI_28, upR_n _ _ (by omega), eI_12, upR_s]
          exact cpy_at hj
        · rw [rI_140 _ (by omega), eI_58, upR_n _ _ (by omega), eI_43, upR_n _ _ (by omega), eI_28, upR_s, eI_12, upR_n _ _ (show q + 2 ≠ o + 1 by omega)]
          exact cpy_at hj
        · rw [rI_140 _ (by omega), eI_58, upR_n _ _ (by omega), eI_43, upR_s, eI_28, upR_n _ _ (show q + 4 ≠ o + 2 by omega), eI_12, upR_n _ _ (show q + 4 ≠ o + 1 by omega)]
          exact cpy_at hj
        · rw [rI_140 _ (by omega), eI_58, upR_s, eI_43, upR_n _ _ (show q + 5 ≠ o + 4 by omega), eI_28, upR_n _ _ (show q + 5 ≠ o + 2 by omega), eI_12, upR_n _ _ (show q + 5 ≠ o + 1 by omega)]
          exact cpy_at hj
        · rw [← e58 q (by omega) (by omega) (by omega) (by omega)]
          rcases (show j = 5 ∨ j = 6 ∨ j = 7 ∨ j = 8 ∨ j = 9 ∨ j = 10 ∨ j = 11 by omega) with rfl | rfl | rfl | rfl | rfl | rfl | rfl
          · exact wI_140_5
          · exact wI_140_6
          · exact wI_140_7
          · exact wI_140_8
          · exact wI_140_9
          · exact wI_140_10
          · exact wI_140_11
      · simp only [w32_mod] at h_66
        refine ww_aload_n hX (pc := 69) dX1_copyFrom_69 rfl ?_
        refine ww_getR hX (pc := 70) fX1_20 (by decide) (ho.1) (by rw [hR2 o (by omega)]; exact ho.2.2.2.2.2.2.2.2.1) dX1_copyFrom_70 ?_
        refine ww_iload_n hX (pc := 73) dX1_copyFrom_73 rfl ?_
        refine ww_aload_n hX (pc := 74) dX1_copyFrom_74 rfl ?_
        refine ww_getR hX (pc := 75) fX1_20 (by decide) (hq.1) (by rw [hR2 q (by omega)]; exact hq.2.2.2.2.2.2.2.2.1) dX1_copyFrom_75 ?_
        refine ww_iload_n hX (pc := 78) dX1_copyFrom_78 rfl ?_
        refine ww_aald hX (pc := 79) (Or.inl rfl) hq.2.2.2.1 (by decide) (by omega) (by omega) dX1_copyFrom_79 ?_
        have e79 : R2 (q + 3) i.toNat = Ra (q + 3) i.toNat := by rw [hR2 (q + 3) (by omega)]
        rw [e79]
        have hne : ∀ v, WW X 81 [some (kR (some o)), some (kR (some q)), some (kI i)] [] I_58 Ja (up2 R2 (o + 3) i.toNat v) Sa 0 0 ∨ v ≠ Ra (q + 3) i.toNat := fun v => by
          by_cases hv : v = Ra (q + 3) i.toNat
          · refine Or.inl ?_
            refine ww_iinc hX (pc := 81) (lv' := [some (kR (some o)), some (kR (some q)), some (kI (i + 1))]) dX1_copyFrom_81 rfl (by decide) rfl rfl ?_
            refine ww_goto hX (pc := 84) (tgt := 63) dX1_copyFrom_84 (by decide) ?_
            refine ih_63 _ (by have hm9 := Sh0_e hq_63; omega) (i + 1) _ rfl ⟨by omega, fun k hk => by rw [up2_off _ _ _ hk]; exact hR2 k hk, fun j hj => ?_⟩
            by_cases hji : j = i.toNat
            · rw [hji, up2_s]; exact hv
            · rw [up2_n _ _ (Or.inr hji)]; exact hj2 j (by omega)
          · exact Or.inr hv
        cases hc : Ra (q + 3) i.toNat with
        | none => exact ww_aast4N hX (pc := 80) ho.2.2.2.1 (by decide) (by omega) (by omega) dX1_copyFrom_80 ((hne none).resolve_right (fun h => h hc.symm))
        | some v =>
          obtain ⟨n9, hv9⟩ := hlw i.toNat (by omega) v hc
          exact ww_aast4 hX (pc := 80) ho.2.2.2.1 (by decide) (by omega) (by omega) hv9 dX1_copyFrom_80 ((hne (some v)).resolve_right (fun h => h hc.symm))
  exact hl_63 _ 0 Ra rfl ⟨by omega, fun _ _ => rfl, fun j hj => by omega⟩
end
section
/-- CodeSearch's row and peak, up to place i -/
def RI (F : aI1) (i b : Int) : Prop := (∀ j, j < 8 → (0 ≤ F 41 j ∧ F 41 j ≤ b - 1) ∧ (0 ≤ F 42 j ∧ F 42 j ≤ b - 1)) ∧ (∀ j : Nat, 1 ≤ j → (j : Int) < i → F 41 j ≤ F 42 (j - 1) + 1)
/-- the first codes that it keeps -/
def FI (F : aI1) : Prop := ∀ j, j < 288 → 0 ≤ F 44 j ∧ F 44 j ≤ 7
theorem RI_up {F : aI1} {a b i v : Int} (h : RI F a b) (h0 : 1 ≤ i) (h1 : i < a) (ha : a ≤ 8) (hb : 2 ≤ b) (hne : F 41 i.toNat ≠ min (b - 1) (F 42 (i - 1).toNat + 1)) (hv : v = max (F 42 (i - 1).toNat) (F 41 i.toNat + 1)) : RI (up2 (up2 F 41 i.toNat (F 41 i.toNat + 1)) 42 i.toNat v) (i + 1) b := by
  have p1 := h.1 (i - 1).toNat (by omega)
  have p2 := h.1 i.toNat (by omega)
  have p3 := h.2 i.toNat (by omega) (by omega)
  rw [show i.toNat - 1 = (i - 1).toNat by omega] at p3
  refine ⟨fun j hj => ?_, fun j j1 j2 => ?_⟩
  · have q := h.1 j hj
    rw [up2_off _ _ _ (show (41 : Nat) ≠ 42 by decide), up2_row (k := 42), up2_row (k := 41), up2_off _ _ _ (show (42 : Nat) ≠ 41 by decide)]
    by_cases e : j = i.toNat
    · rw [e, up1_s, up1_s]; omega
    · rw [up1_n _ _ e, up1_n _ _ e]; exact q
  · rw [up2_off _ _ _ (show (41 : Nat) ≠ 42 by decide), up2_row (k := 42), up2_row (k := 41), up2_off _ _ _ (show (42 : Nat) ≠ 41 by decide), up1_n _ _ (show j - 1 ≠ i.toNat by omega)]
    by_cases e : j = i.toNat
    · rw [e, up1_s, show i.toNat - 1 = (i - 1).toNat by omega]; omega
    · rw [up1_n _ _ e]; exact h.2 j j1 (by omega)
theorem RI_st {F : aI1} {b i v : Int} (h : RI F i b) (h0 : 1 ≤ i) (h1 : i < 8) (hb : 2 ≤ b) (hv : v = F 42 (i - 1).toNat) : RI (up2 (up2 F 41 i.toNat 0) 42 i.toNat v) (i + 1) b := by
  have p1 := h.1 (i - 1).toNat (by omega)
  refine ⟨fun j hj => ?_, fun j j1 j2 => ?_⟩
  · have q := h.1 j hj
    rw [up2_off _ _ _ (show (41 : Nat) ≠ 42 by decide), up2_row (k := 42), up2_row (k := 41), up2_off _ _ _ (show (42 : Nat) ≠ 41 by decide)]
    by_cases e : j = i.toNat
    · rw [e, up1_s, up1_s]; omega
    · rw [up1_n _ _ e, up1_n _ _ e]; exact q
  · rw [up2_off _ _ _ (show (41 : Nat) ≠ 42 by decide), up2_row (k := 42), up2_row (k := 41), up2_off _ _ _ (show (42 : Nat) ≠ 41 by decide), up1_n _ _ (show j - 1 ≠ i.toNat by omega)]
    by_cases e : j = i.toNat
    · rw [e, up1_s, show i.toNat - 1 = (i - 1).toNat by omega]; omega
    · rw [up1_n _ _ e]; exact h.2 j j1 (by omega)
theorem RI_of {F G : aI1} {i b : Int} (h : RI F i b) (h1 : G 41 = F 41) (h2 : G 42 = F 42) : RI G i b := by unfold RI; rw [h1, h2]; exact h
theorem FI_of {F G : aI1} (h : FI F) (h1 : G 44 = F 44) : FI G := by unfold FI; rw [h1]; exact h
theorem FI_cpy {F : aI1} {dp : Nat} (h : FI F) (hr : ∀ j, j < 8 → 0 ≤ F 41 j ∧ F 41 j ≤ 7) : FI (upR F 44 (va_cpy (F 41) (F 44) 0 dp 8)) := fun j hj => by
  rw [upR_s]
  unfold va_cpy
  by_cases e : dp ≤ j ∧ j < dp + 8
  · rw [if_pos e]; exact hr _ (by omega)
  · rw [if_neg e]; exact h j hj
end
section
/-- the class's state, ranges alone -/
def CX (I : aI1) : Prop := XI I ∧ LR I ∧ FI I
theorem XI_o {I : aI1} (h : XI I) : (1 ≤ I 1 5 ∧ I 1 5 ≤ 8) ∧ (2 ≤ I 1 6 ∧ I 1 6 ≤ 8) ∧ (0 ≤ I 1 8 ∧ I 1 8 ≤ FU (I 1 5)) ∧ (0 ≤ I 1 9 ∧ I 1 9 ≤ 6) ∧ (0 ≤ I 1 10 ∧ I 1 10 ≤ 24) ∧ (0 ≤ I 1 11 ∧ I 1 11 ≤ 16) ∧ (0 ≤ I 8 1 ∧ I 8 1 ≤ 400) ∧ (0 ≤ I 0 12 ∧ I 0 12 ≤ 30) ∧ (0 ≤ I 0 13 ∧ I 0 13 ≤ 24) ∧ (1 ≤ FU (I 1 5) ∧ FU (I 1 5) ≤ 255) :=
  ⟨h.1, h.2.1, h.2.2.1, h.2.2.2.1, h.2.2.2.2.1, h.2.2.2.2.2.1, h.2.2.2.2.2.2.1, h.2.2.2.2.2.2.2.1, h.2.2.2.2.2.2.2.2.1, h.fu⟩
theorem XI_of {I I' : aI1} (h : XI I) (h0 : I' 0 = I 0) (h1 : I' 1 = I 1) (h3 : I' 3 = I 3) (h8 : I' 8 = I 8) (h9 : I' 9 = I 9) : XI I' := by
  unfold XI at h ⊢
  rw [h0, h1, h3, h8, h9]
  exact h
theorem LR_of {I I' : aI1} (h : LR I) (h0 : I' 10 = I 10) (h1 : I' 11 = I 11) (h3 : I' 13 = I 13) (h8 : I' 14 = I 14) : LR I' := by
  unfold LR at h ⊢
  rw [h0, h1, h3, h8]
  exact h
theorem CX_kp {I I' : aI1} {a b : Nat} (h : CX I) (hk : Kp a b I I') (ha : 15 ≤ a) (hb : b ≤ 44 ∨ 45 ≤ a) : CX I' := ⟨XI_kp h.1 hk (by omega), LR_kp h.2.1 hk (Or.inl ha), FI_of h.2.2 (hk 44 (by omega))⟩
theorem CX_up {I : aI1} {k j : Nat} {v : Int} (h : CX I) (hk : k ≠ 0 ∧ k ≠ 1 ∧ k ≠ 3 ∧ k ≠ 8 ∧ k ≠ 9 ∧ k ≠ 10 ∧ k ≠ 11 ∧ k ≠ 13 ∧ k ≠ 14 ∧ k ≠ 44) : CX (up2 I k j v) := by
  have e : ∀ a, a ≠ k → up2 I k j v a = I a := fun a ha => up2_off _ _ _ ha
  exact ⟨XI_of h.1 (e _ (by omega)) (e _ (by omega)) (e _ (by omega)) (e _ (by omega)) (e _ (by omega)), LR_of h.2.1 (e _ (by omega)) (e _ (by omega)) (e _ (by omega)) (e _ (by omega)), FI_of h.2.2 (e _ (by omega))⟩
theorem CX_x {I : aI1} {k j : Nat} {v : Int} (h : CX I) (hx : XI (up2 I k j v)) (hk : k < 10) : CX (up2 I k j v) := by
  have e : ∀ a, a ≠ k → up2 I k j v a = I a := fun a ha => up2_off _ _ _ ha
  exact ⟨hx, LR_of h.2.1 (e _ (by omega)) (e _ (by omega)) (e _ (by omega)) (e _ (by omega)), FI_of h.2.2 (e _ (by omega))⟩
theorem XI_0 {I : aI1} {v : Int} {j : Nat} (h : XI I) (hj : j ≠ 12 ∧ j ≠ 13) : XI (up2 I 0 j v) := by
  have eo : ∀ a, a ≠ 0 → up2 I 0 j v a = I a := fun a ha => up2_off _ _ _ ha
  have e1 : ∀ b, b ≠ j → up2 I 0 j v 0 b = I 0 b := fun b hb => up2_n _ _ (Or.inr hb)
  unfold XI at h ⊢
  rw [eo 1 (by decide), eo 3 (by decide), eo 8 (by decide), eo 9 (by decide), e1 12 (by omega), e1 13 (by omega)]
  exact ⟨h.1, h.2.1, h.2.2.1, h.2.2.2.1, h.2.2.2.2.1, h.2.2.2.2.2.1, h.2.2.2.2.2.2.1, h.2.2.2.2.2.2.2.1, h.2.2.2.2.2.2.2.2.1, h.2.2.2.2.2.2.2.2.2.1, h.2.2.2.2.2.2.2.2.2.2⟩
theorem XI_1_7 {I : aI1} {v : Int} (h : XI I) : XI (up2 I 1 7 v) := by
  have eo : ∀ a, a ≠ 1 → up2 I 1 7 v a = I a := fun a ha => up2_off _ _ _ ha
  have e1 : ∀ b, b ≠ 7 → up2 I 1 7 v 1 b = I 1 b := fun b hb => up2_n _ _ (Or.inr hb)
  unfold XI at h ⊢
  rw [eo 0 (by decide), eo 3 (by decide), eo 8 (by decide), eo 9 (by decide), e1 5 (by omega), e1 6 (by omega), e1 8 (by omega), e1 9 (by omega), e1 10 (by omega), e1 11 (by omega)]
  exact ⟨h.1, h.2.1, h.2.2.1, h.2.2.2.1, h.2.2.2.2.1, h.2.2.2.2.2.1, h.2.2.2.2.2.2.1, h.2.2.2.2.2.2.2.1, h.2.2.2.2.2.2.2.2.1, h.2.2.2.2.2.2.2.2.2.1, h.2.2.2.2.2.2.2.2.2.2⟩
theorem XI_1_6 {I : aI1} {v : Int} (h : XI I) (h1 : 2 ≤ v) (h2 : v ≤ 8) : XI (up2 I 1 6 v) := by
  have eo : ∀ a, a ≠ 1 → up2 I 1 6 v a = I a := fun a ha => up2_off _ _ _ ha
  have e1 : ∀ b, b ≠ 6 → up2 I 1 6 v 1 b = I 1 b := fun b hb => up2_n _ _ (Or.inr hb)
  unfold XI at h ⊢
  rw [eo 0 (by decide), eo 3 (by decide), eo 8 (by decide), eo 9 (by decide), e1 5 (by omega), up2_s, e1 8 (by omega), e1 9 (by omega), e1 10 (by omega), e1 11 (by omega)]
  exact ⟨h.1, ⟨h1, h2⟩, h.2.2.1, h.2.2.2.1, h.2.2.2.2.1, h.2.2.2.2.2.1, h.2.2.2.2.2.2.1, h.2.2.2.2.2.2.2.1, h.2.2.2.2.2.2.2.2.1, h.2.2.2.2.2.2.2.2.2.1, h.2.2.2.2.2.2.2.2.2.2⟩
theorem XI_1_8 {I : aI1} {v : Int} (h : XI I) (h1 : 0 ≤ v) (h2 : v ≤ FU (I 1 5)) : XI (up2 I 1 8 v) := by
  have eo : ∀ a, a ≠ 1 → up2 I 1 8 v a = I a := fun a ha => up2_off _ _ _ ha
  have e1 : ∀ b, b ≠ 8 → up2 I 1 8 v 1 b = I 1 b := fun b hb => up2_n _ _ (Or.inr hb)
  unfold XI at h ⊢
  rw [eo 0 (by decide), eo 3 (by decide), eo 8 (by decide), eo 9 (by decide), e1 5 (by omega), e1 6 (by omega), up2_s, e1 9 (by omega), e1 10 (by omega), e1 11 (by omega)]
  exact ⟨h.1, h.2.1, ⟨h1, h2⟩, h.2.2.2.1, h.2.2.2.2.1, h.2.2.2.2.2.1, h.2.2.2.2.2.2.1, h.2.2.2.2.2.2.2.1, h.2.2.2.2.2.2.2.2.1, h.2.2.2.2.2.2.2.2.2.1, h.2.2.2.2.2.2.2.2.2.2⟩
theorem XI_1_9 {I : aI1} {v : Int} (h : XI I) (h1 : 0 ≤ v) (h2 : v ≤ 6) : XI (up2 I 1 9 v) := by
  have eo : ∀ a, a ≠ 1 → up2 I 1 9 v a = I a := fun a ha => up2_off _ _ _ ha
  have e1 : ∀ b, b ≠ 9 → up2 I 1 9 v 1 b = I 1 b := fun b hb => up2_n _ _ (Or.inr hb)
  unfold XI at h ⊢
  rw [eo 0 (by decide), eo 3 (by decide), eo 8 (by decide), eo 9 (by decide), e1 5 (by omega), e1 6 (by omega), e1 8 (by omega), up2_s, e1 10 (by omega), e1 11 (by omega)]
  exact ⟨h.1, h.2.1, h.2.2.1, ⟨h1, h2⟩, h.2.2.2.2.1, h.2.2.2.2.2.1, h.2.2.2.2.2.2.1, h.2.2.2.2.2.2.2.1, h.2.2.2.2.2.2.2.2.1, h.2.2.2.2.2.2.2.2.2.1, h.2.2.2.2.2.2.2.2.2.2⟩
theorem XI_1_10 {I : aI1} {v : Int} (h : XI I) (h1 : 0 ≤ v) (h2 : v ≤ 24) : XI (up2 I 1 10 v) := by
  have eo : ∀ a, a ≠ 1 → up2 I 1 10 v a = I a := fun a ha => up2_off _ _ _ ha
  have e1 : ∀ b, b ≠ 10 → up2 I 1 10 v 1 b = I 1 b := fun b hb => up2_n _ _ (Or.inr hb)
  unfold XI at h ⊢
  rw [eo 0 (by decide), eo 3 (by decide), eo 8 (by decide), eo 9 (by decide), e1 5 (by omega), e1 6 (by omega), e1 8 (by omega), e1 9 (by omega), up2_s, e1 11 (by omega)]
  exact ⟨h.1, h.2.1, h.2.2.1, h.2.2.2.1, ⟨h1, h2⟩, h.2.2.2.2.2.1, h.2.2.2.2.2.2.1, h.2.2.2.2.2.2.2.1, h.2.2.2.2.2.2.2.2.1, h.2.2.2.2.2.2.2.2.2.1, h.2.2.2.2.2.2.2.2.2.2⟩
theorem XI_1_11 {I : aI1} {v : Int} (h : XI I) (h1 : 0 ≤ v) (h2 : v ≤ 16) : XI (up2 I 1 11 v) := by
  have eo : ∀ a, a ≠ 1 → up2 I 1 11 v a = I a := fun a ha => up2_off _ _ _ ha
  have e1 : ∀ b, b ≠ 11 → up2 I 1 11 v 1 b = I 1 b := fun b hb => up2_n _ _ (Or.inr hb)
  unfold XI at h ⊢
  rw [eo 0 (by decide), eo 3 (by decide), eo 8 (by decide), eo 9 (by decide), e1 5 (by omega), e1 6 (by omega), e1 8 (by omega), e1 9 (by omega), e1 10 (by omega), up2_s]
  exact ⟨h.1, h.2.1, h.2.2.1, h.2.2.2.1, h.2.2.2.2.1, ⟨h1, h2⟩, h.2.2.2.2.2.2.1, h.2.2.2.2.2.2.2.1, h.2.2.2.2.2.2.2.2.1, h.2.2.2.2.2.2.2.2.2.1, h.2.2.2.2.2.2.2.2.2.2⟩
theorem XI_8_1 {I : aI1} {v : Int} (h : XI I) (h1 : 0 ≤ v) (h2 : v ≤ 400) : XI (up2 I 8 1 v) := by
  have eo : ∀ a, a ≠ 8 → up2 I 8 1 v a = I a := fun a ha => up2_off _ _ _ ha
  have e1 : ∀ b, b ≠ 1 → up2 I 8 1 v 8 b = I 8 b := fun b hb => up2_n _ _ (Or.inr hb)
  unfold XI at h ⊢
  rw [eo 0 (by decide), eo 1 (by decide), eo 3 (by decide), eo 9 (by decide), up2_s]
  exact ⟨h.1, h.2.1, h.2.2.1, h.2.2.2.1, h.2.2.2.2.1, h.2.2.2.2.2.1, ⟨h1, h2⟩, h.2.2.2.2.2.2.2.1, h.2.2.2.2.2.2.2.2.1, h.2.2.2.2.2.2.2.2.2.1, h.2.2.2.2.2.2.2.2.2.2⟩
theorem XI_0_12 {I : aI1} {v : Int} (h : XI I) (h1 : 0 ≤ v) (h2 : v ≤ 30) : XI (up2 I 0 12 v) := by
  have eo : ∀ a, a ≠ 0 → up2 I 0 12 v a = I a := fun a ha => up2_off _ _ _ ha
  have e1 : ∀ b, b ≠ 12 → up2 I 0 12 v 0 b = I 0 b := fun b hb => up2_n _ _ (Or.inr hb)
  unfold XI at h ⊢
  rw [eo 1 (by decide), eo 3 (by decide), eo 8 (by decide), eo 9 (by decide), up2_s, e1 13 (by omega)]
  exact ⟨h.1, h.2.1, h.2.2.1, h.2.2.2.1, h.2.2.2.2.1, h.2.2.2.2.2.1, h.2.2.2.2.2.2.1, ⟨h1, h2⟩, h.2.2.2.2.2.2.2.2.1, h.2.2.2.2.2.2.2.2.2.1, h.2.2.2.2.2.2.2.2.2.2⟩
theorem XI_0_13 {I : aI1} {v : Int} (h : XI I) (h1 : 0 ≤ v) (h2 : v ≤ 24) : XI (up2 I 0 13 v) := by
  have eo : ∀ a, a ≠ 0 → up2 I 0 13 v a = I a := fun a ha => up2_off _ _ _ ha
  have e1 : ∀ b, b ≠ 13 → up2 I 0 13 v 0 b = I 0 b := fun b hb => up2_n _ _ (Or.inr hb)
  unfold XI at h ⊢
  rw [eo 1 (by decide), eo 3 (by decide), eo 8 (by decide), eo 9 (by decide), e1 12 (by omega), up2_s]
  exact ⟨h.1, h.2.1, h.2.2.1, h.2.2.2.1, h.2.2.2.2.1, h.2.2.2.2.2.1, h.2.2.2.2.2.2.1, h.2.2.2.2.2.2.2.1, ⟨h1, h2⟩, h.2.2.2.2.2.2.2.2.2.1, h.2.2.2.2.2.2.2.2.2.2⟩
theorem XI_3 {I : aI1} {v : Int} {j : Nat} (h : XI I) (h1 : -1 ≤ v) (h2 : v ≤ 7) : XI (up2 I 3 j v) := by
  have eo : ∀ a, a ≠ 3 → up2 I 3 j v a = I a := fun a ha => up2_off _ _ _ ha
  unfold XI at h ⊢
  rw [eo 0 (by decide), eo 1 (by decide), eo 8 (by decide), eo 9 (by decide)]
  exact ⟨h.1, h.2.1, h.2.2.1, h.2.2.2.1, h.2.2.2.2.1, h.2.2.2.2.2.1, h.2.2.2.2.2.2.1, h.2.2.2.2.2.2.2.1, h.2.2.2.2.2.2.2.2.1, rng_upN ⟨h1, h2⟩ h.2.2.2.2.2.2.2.2.2.1, h.2.2.2.2.2.2.2.2.2.2⟩
set_option maxHeartbeats 4000000 in
set_option maxRecDepth 20000 in
theorem c_X10_isManner (l0 : Launch) {Ia Ja : aI1} {Ra : aR1} {Sa : aS1} {a : Int} (ha0 : -2147483648 ≤ a) (ha1 : a < 2147483648)  : CT l0 0 0 0 mX10_isManner [kI a] Ia Ja Ra Sa (cI (fun x I' J' => Ia = I' ∧ Ja = J' ∧ (x = 0 ∨ x = 1) ∧ (x = 1 ↔ 0 ≤ a ∧ a ≤ 3)) Ra Sa) := by
  refine ct_in pn_X10 (Nat.le_of_ble_eq_true rfl) (fun X hX hT hIn => ?_)
  have hX : aK l0 X cX10_isManner 1 RX10 (some .boolean) 0 0 0 := hX
  change WW X 0 [some (kI a)] [] Ia Ja Ra Sa 0 0
  refine ww_iload_n hX (pc := 0) dX10_isManner_0 rfl ?_
  refine ww_if_lt hX (pc := 1) (tgt := 13) dX10_isManner_1 (by decide) (fun h_1 => ?_) (fun h_1 => ?_)
  · simp only [w32_mod] at h_1
    refine ww_iconst hX (pc := 13) (x := 0) dX10_isManner_13 rfl ?_
    refine rZ hX (pc := 14) hT (Nat.le_refl 0) (Nat.le_refl 0) dX10_isManner_14 (by decide) ?_
    exact ⟨rfl, rfl, by omega, by omega⟩
  · simp only [w32_mod] at h_1
    refine ww_iload_n hX (pc := 4) dX10_isManner_4 rfl ?_
    refine ww_iconst hX (pc := 5) (x := 3) dX10_isManner_5 rfl ?_
    refine ww_icmp_gt hX (pc := 6) (tgt := 13) dX10_isManner_6 (by decide) (fun h_6 => ?_) (fun h_6 => ?_)
    · simp only [w32_mod] at h_6
      refine ww_iconst hX (pc := 13) (x := 0) dX10_isManner_13 rfl ?_
      refine rZ hX (pc := 14) hT (Nat.le_refl 0) (Nat.le_refl 0) dX10_isManner_14 (by decide) ?_
      exact ⟨rfl, rfl, by omega, by omega⟩
    · simp only [w32_mod] at h_6
      refine ww_iconst hX (pc := 9) (x := 1) dX10_isManner_9 rfl ?_
      refine ww_goto hX (pc := 10) (tgt := 14) dX10_isManner_10 (by decide) ?_
      refine rZ hX (pc := 14) hT (Nat.le_refl 0) (Nat.le_refl 0) dX10_isManner_14 (by decide) ?_
      exact ⟨rfl, rfl, by omega, by omega⟩
theorem CX_cs {I I' : aI1} (h : CX I) (hk : Kp 37 46 I I') (hf : FI I') : CX I' := ⟨XI_kp h.1 hk (by decide), LR_kp h.2.1 hk (by decide), hf⟩
set_option maxHeartbeats 4000000 in
set_option maxRecDepth 20000 in
theorem c_X10_isRowTo (l0 : Launch) {Ia Ja : aI1} {Ra : aR1} {Sa : aS1} (hL : LY Ra Sa) (hI : XI Ia) {a b c : Int} (ha0 : -2147483648 ≤ a) (ha1 : a < 2147483648) (hb0 : -2147483648 ≤ b) (hb1 : b < 2147483648) (hc0 : -2147483648 ≤ c) (hc1 : c < 2147483648)  : CT l0 3 0 0 mX10_isRowTo [kR (some 0), kI a, kI b, kI c] Ia Ja Ra Sa (cI (fun x I' J' => Ia = I' ∧ Ja = J' ∧ (x = 0 ∨ x = 1) ∧ (x = 1 ↔ 0 ≤ a ∧ a ≤ 8 ∧ 0 ≤ b ∧ b ≤ FU (Ia 1 5) ∧ 0 ≤ c ∧ c ≤ 3)) Ra Sa) := by
  refine ct_in pn_X10 (Nat.le_of_ble_eq_true rfl) (fun X hX hT hIn => ?_)
  have hX : aK l0 X cX10_isRowTo 4 RX10 (some .boolean) 3 0 0 := hX
  change WW X 0 [some (kR (some 0)), some (kI a), some (kI b), some (kI c)] [] Ia Ja Ra Sa 0 0
  refine ww_iload_n hX (pc := 0) dX10_isRowTo_0 rfl ?_
  refine ww_if_lt hX (pc := 1) (tgt := 32) dX10_isRowTo_1 (by decide) (fun h_1 => ?_) (fun h_1 => ?_)
  · simp only [w32_mod] at h_1
    refine ww_iconst hX (pc := 32) (x := 0) dX10_isRowTo_32 rfl ?_
    refine rZ hX (pc := 33) hT (Nat.le_refl 0) (Nat.le_refl 0) dX10_isRowTo_33 (by decide) ?_
    exact ⟨rfl, rfl, by omega, by omega⟩
  · simp only [w32_mod] at h_1
    refine ww_iload_n hX (pc := 4) dX10_isRowTo_4 rfl ?_
    refine ww_bipush hX (pc := 5) (x := 8) dX10_isRowTo_5 (by decide) ?_
    refine ww_icmp_gt hX (pc := 7) (tgt := 32) dX10_isRowTo_7 (by decide) (fun h_7 => ?_) (fun h_7 => ?_)
    · simp only [w32_mod] at h_7
      refine ww_iconst hX (pc := 32) (x := 0) dX10_isRowTo_32 rfl ?_
      refine rZ hX (pc := 33) hT (Nat.le_refl 0) (Nat.le_refl 0) dX10_isRowTo_33 (by decide) ?_
      exact ⟨rfl, rfl, by omega, by omega⟩
    · simp only [w32_mod] at h_7
      refine ww_aload_n hX (pc := 10) dX10_isRowTo_10 rfl ?_
      refine ww_getR hX (pc := 11) fX10_10 (by decide) (xs_0 hL) (xr_0_0 hL) dX10_isRowTo_11 ?_
      refine ww_iload_n hX (pc := 14) dX10_isRowTo_14 rfl ?_
      refine vI1 hX (pc := 15) sX10_131 (xs_1 hL) (c_X1_isState l0 hL hI (by omega)) (by decide) (Nat.le_refl 0) (Nat.le_refl 0) (Nat.le_of_ble_eq_true rfl) dX10_isRowTo_15 (fun x_15 I_15 J_15 h_15 => ?_)
      obtain ⟨rfl, rfl, h_15⟩ := h_15
      refine ww_if_eq hX (pc := 18) (tgt := 32) dX10_isRowTo_18 (by decide) (fun h_18 => ?_) (fun h_18 => ?_)
      · simp only [w32_mod] at h_18
        refine ww_iconst hX (pc := 32) (x := 0) dX10_isRowTo_32 rfl ?_
        refine rZ hX (pc := 33) hT (Nat.le_refl 0) (Nat.le_refl 0) dX10_isRowTo_33 (by decide) ?_
        exact ⟨rfl, rfl, by omega, by omega⟩
      · simp only [w32_mod] at h_18
        have k_15 := h_15.2.mp (by omega)
        clear h_15
        refine ww_iload_n hX (pc := 21) dX10_isRowTo_21 rfl ?_
        refine sI1 hX (pc := 22) sX10_188 (c_X10_isManner l0 (by omega) (by omega)) (by decide) (Nat.le_refl 0) (Nat.le_refl 0) (Nat.le_of_ble_eq_true rfl) dX10_isRowTo_22 (fun x_22 I_22 J_22 h_22 => ?_)
        obtain ⟨rfl, rfl, h_22⟩ := h_22
        refine ww_if_eq hX (pc := 25) (tgt := 32) dX10_isRowTo_25 (by decide) (fun h_25 => ?_) (fun h_25 => ?_)
        · simp only [w32_mod] at h_25
          refine ww_iconst hX (pc := 32) (x := 0) dX10_isRowTo_32 rfl ?_
          refine rZ hX (pc := 33) hT (Nat.le_refl 0) (Nat.le_refl 0) dX10_isRowTo_33 (by decide) ?_
          exact ⟨rfl, rfl, by omega, by omega⟩
        · simp only [w32_mod] at h_25
          have k_22 := h_22.2.mp (by omega)
          clear h_22
          refine ww_iconst hX (pc := 28) (x := 1) dX10_isRowTo_28 rfl ?_
          refine ww_goto hX (pc := 29) (tgt := 33) dX10_isRowTo_29 (by decide) ?_
          refine rZ hX (pc := 33) hT (Nat.le_refl 0) (Nat.le_refl 0) dX10_isRowTo_33 (by decide) ?_
          exact ⟨rfl, rfl, by omega, by omega⟩
theorem CX_put {I I' : aI1} (h : CX I) (hk : Kp 8 10 I I') (h0 : 0 ≤ I' 8 1) (h1 : I' 8 1 ≤ 400) (hb : ∀ j, j < 400 → 0 ≤ I' 9 j ∧ I' 9 j ≤ 255) : CX I' := by
  refine ⟨?_, LR_kp h.2.1 hk (by decide), FI_of h.2.2 (hk 44 (by decide))⟩
  have h := h.1
  unfold XI at h ⊢
  rw [hk 0 (by decide), hk 1 (by decide), hk 3 (by decide)]
  exact ⟨h.1, h.2.1, h.2.2.1, h.2.2.2.1, h.2.2.2.2.1, h.2.2.2.2.2.1, ⟨h0, h1⟩, h.2.2.2.2.2.2.2.1, h.2.2.2.2.2.2.2.2.1, h.2.2.2.2.2.2.2.2.2.1, hb⟩
end
section
theorem CX_forget {I G : aI1} (h : CX I) (e : ∀ a, a ≠ 1 → a ≠ 2 → a ≠ 3 → G a = I a) (h5 : 1 ≤ G 1 5 ∧ G 1 5 ≤ 8) (h6 : 2 ≤ G 1 6 ∧ G 1 6 ≤ 8) (h8 : G 1 8 = 0) (h9 : G 1 9 = I 1 9) (h10 : G 1 10 = 0) (h11 : G 1 11 = 0) (h3 : ∀ s, s < 256 → G 3 s = -1) : CX G := by
  refine ⟨?_, LR_of h.2.1 (e _ (by decide) (by decide) (by decide)) (e _ (by decide) (by decide) (by decide)) (e _ (by decide) (by decide) (by decide)) (e _ (by decide) (by decide) (by decide)), FI_of h.2.2 (e _ (by decide) (by decide) (by decide))⟩
  have h := h.1
  have hf := FU_r h5.1 h5.2
  unfold XI at h ⊢
  rw [e 0 (by decide) (by decide) (by decide), e 8 (by decide) (by decide) (by decide), e 9 (by decide) (by decide) (by decide), h8, h9, h10, h11]
  exact ⟨h5, h6, by omega, h.2.2.2.1, by omega, by omega, h.2.2.2.2.2.2.1, h.2.2.2.2.2.2.2.1, h.2.2.2.2.2.2.2.2.1, fun s hs => by rw [h3 s hs]; omega, h.2.2.2.2.2.2.2.2.2.2⟩
theorem CX_code {I G : aI1} (h : CX I) (e : ∀ q, q ≠ 3 → (q < 37 ∨ 46 ≤ q) → G q = I q) (hf : FI G) (h3 : ∀ j, j < 256 → -1 ≤ G 3 j ∧ G 3 j ≤ 7) : CX G := by
  refine ⟨?_, LR_of h.2.1 (e _ (by decide) (by decide)) (e _ (by decide) (by decide)) (e _ (by decide) (by decide)) (e _ (by decide) (by decide)), hf⟩
  have h := h.1
  unfold XI at h ⊢
  rw [e 0 (by decide) (by decide), e 1 (by decide) (by decide), e 8 (by decide) (by decide), e 9 (by decide) (by decide)]
  exact ⟨h.1, h.2.1, h.2.2.1, h.2.2.2.1, h.2.2.2.2.1, h.2.2.2.2.2.1, h.2.2.2.2.2.2.1, h.2.2.2.2.2.2.2.1, h.2.2.2.2.2.2.2.2.1, h3, h.2.2.2.2.2.2.2.2.2.2⟩
end
section
theorem l_rem_v {a b : Int} (ha : 0 ≤ a) (ha2 : a < 4611686018427387904) (hb : 0 < b) (hb2 : b < 4611686018427387904) : l_rem a b = a % b := by
  have e1 : (Int64.ofInt a).toInt = a := Int64.toInt_ofInt_of_le (by omega) (by omega)
  have e2 : (Int64.ofInt b).toInt = b := Int64.toInt_ofInt_of_le (by omega) (by omega)
  have h1 : 0 ≤ a / b := Int.ediv_nonneg ha (by omega)
  have h2 : a / b ≤ a := Int.ediv_le_self b ha
  have h3 : a / b * b = a - a % b := by have := Int.mul_ediv_add_emod a b; rw [Int.mul_comm] at this; omega
  have h4 := Int.emod_nonneg a (show b ≠ 0 by omega)
  have h5 := Int.emod_lt_of_pos a hb
  unfold l_rem
  rw [Int64.toInt_sub, Int64.toInt_mul, Int64.toInt_div, e1, e2, Int.tdiv_eq_ediv_of_nonneg ha]
  rw [show (a / b).bmod (2 ^ 64) = a / b from Int.bmod_eq_of_le (by omega) (by omega), h3]
  rw [show (a - a % b).bmod (2 ^ 64) = a - a % b from Int.bmod_eq_of_le (by omega) (by omega)]
  rw [show a - (a - a % b) = a % b by omega]
  exact Int.bmod_eq_of_le (by omega) (by omega)
end
section
def LawsOK (I : aI1) (R : aR1) (S : aS1) (t : Nat) : Prop := ∀ i, i < 6 → ∀ w, R t i = some w → LawOK I R S w
/-- a Coast's ranges -/
def CoR (I : aI1) (c : Nat) : Prop := (1 ≤ I c 5 ∧ I c 5 ≤ 8) ∧ (2 ≤ I c 6 ∧ I c 6 ≤ 8) ∧ (0 ≤ I c 8 ∧ I c 8 ≤ FU (I c 5)) ∧ (0 ≤ I c 9 ∧ I c 9 ≤ 6) ∧ (0 ≤ I c 10 ∧ I c 10 ≤ 24) ∧ (0 ≤ I c 11 ∧ I c 11 ≤ 16) ∧ (∀ s, s < 256 → -1 ≤ I (c + 2) s ∧ I (c + 2) s ≤ 7)
/-- an image -/
def CoastOK (I : aI1) (R : aR1) (S : aS1) (c : Nat) : Prop := 73 ≤ c ∧ CoSh R S c ∧ CoR I c ∧ LawsOK I R S (c + 3)
/-- the class's state -/
def CI (I : aI1) (R : aR1) (S : aS1) : Prop := LY R S ∧ CX I ∧ LawsOK I R S 4 ∧ ∀ i, i < 2 → ∀ c, R 7 i = some c → CoastOK I R S c
def SX (S S' : aS1) : Prop := ∀ (k : Nat) (sh : Nat × Nat), S[k]? = some sh → S'[k]? = some sh
theorem SX_rf {S : aS1} : SX S S := fun _ _ h => h
theorem SX_app {S T : aS1} {x : Nat × Nat} (h : SX S T) : SX S (T ++ [x]) := fun k sh hk => sz_l (h k sh hk)
theorem lay_73 : (∀ q ∈ layR, q.1 < 73 ∧ q.1 ≠ 4 ∧ q.1 ≠ 7) := by decide
theorem LY_ext {R R' : aR1} {S S' : aS1} (h : LY R S) (hR : ∀ a, a < 73 → a ≠ 4 → a ≠ 7 → R' a = R a) (hS : SX S S') : LY R' S' :=
  ⟨fun q hq => by rw [hR q.1 (lay_73 q hq).1 (lay_73 q hq).2.1 (lay_73 q hq).2.2]; exact h.1 q hq, fun q hq => hS _ _ (h.2 q hq)⟩
theorem LawOK_ext {I I' : aI1} {R R' : aR1} {S S' : aS1} {w : Nat} (h : LawOK I R S w) (h0 : I' w = I w) (h1 : I' (w + 1) = I (w + 1)) (h2 : I' (w + 2) = I (w + 2)) (hR : R' w = R w) (hS : SX S S') : LawOK I' R' S' w := by
  obtain ⟨a, b, c, d, e, ⟨n1, q1, q2, q3⟩, ⟨n2, r1, r2, r3⟩⟩ := h
  exact ⟨a, hS _ _ b, by rw [hR]; exact c, by rw [hR]; exact d, by rw [h0]; exact e, ⟨n1, q1, hS _ _ q2, by rw [h1]; exact q3⟩, ⟨n2, r1, hS _ _ r2, by rw [h2]; exact r3⟩⟩
theorem CoSh_ext {R R' : aR1} {S S' : aS1} {c : Nat} (h : CoSh R S c) (hR : R' c = R c) (hS : SX S S') : CoSh R' S' c := by
  unfold CoSh at h ⊢
  rw [hR]
  exact ⟨hS _ _ h.1, hS _ _ h.2.1, hS _ _ h.2.2.1, hS _ _ h.2.2.2.1, hS _ _ h.2.2.2.2.1, hS _ _ h.2.2.2.2.2.1, h.2.2.2.2.2.2⟩
theorem CoR_ext {I I' : aI1} {c : Nat} (h : CoR I c) (h0 : I' c = I c) (h2 : I' (c + 2) = I (c + 2)) : CoR I' c := by
  unfold CoR at h ⊢
  rw [h0, h2]
  exact h
theorem law_off {I : aI1} {R : aR1} {S : aS1} {w c : Nat} (hl : LawOK I R S w) (hc : CoSh R S c) : w + 2 < c ∨ c + 5 < w := by
  obtain ⟨a, b, -, -, -, ⟨n1, -, q2, -⟩, ⟨n2, -, r2, -⟩⟩ := hl
  obtain ⟨c0, c1, c2, c3, c4, c5, -⟩ := hc
  rcases (show (w + 2 < c ∨ c + 5 < w) ∨ w + 2 = c ∨ w + 1 = c ∨ w = c ∨ w = c + 1 ∨ w = c + 2 ∨ w = c + 3 ∨ w = c + 4 ∨ w = c + 5 by omega) with h | h | h | h | h | h | h | h | h
  · exact h
  · rw [h, c0] at r2; simp at r2
  · rw [h, c0] at q2; simp at q2
  · rw [h, c0] at b; simp at b
  · rw [h, c1] at b; simp at b
  · rw [h, c2] at b; simp at b
  · rw [h, c3] at b; simp at b
  · rw [h, c4] at b; simp at b
  · rw [h, c5] at b; simp at b
theorem coast_off {R R' : aR1} {S : aS1} {c e : Nat} (hc : CoSh R S c) (he : CoSh R' S e) (hne : c ≠ e) : c + 5 < e ∨ e + 5 < c := by
  obtain ⟨c0, c1, c2, c3, c4, c5, -⟩ := hc
  obtain ⟨e0, e1, e2, e3, e4, e5, -⟩ := he
  rcases (show (c + 5 < e ∨ e + 5 < c) ∨ e = c + 1 ∨ e = c + 2 ∨ e = c + 3 ∨ e = c + 4 ∨ e = c + 5 ∨ c = e + 1 ∨ c = e + 2 ∨ c = e + 3 ∨ c = e + 4 ∨ c = e + 5 by omega) with h | h | h | h | h | h | h | h | h | h | h
  · exact h
  · rw [h, c1] at e0; simp at e0
  · rw [h, c2] at e0; simp at e0
  · rw [h, c3] at e0; simp at e0
  · rw [h, c4] at e0; simp at e0
  · rw [h, c5] at e0; simp at e0
  · rw [h, e1] at c0; simp at c0
  · rw [h, e2] at c0; simp at c0
  · rw [h, e3] at c0; simp at c0
  · rw [h, e4] at c0; simp at c0
  · rw [h, e5] at c0; simp at c0
theorem LawsOK_hi {I I' : aI1} {R R' : aR1} {S S' : aS1} {t t' : Nat} (h : LawsOK I R S t) (ht : ∀ i, i < 6 → R' t' i = R t i) (hI : ∀ k, 73 ≤ k → k < S.length → I' k = I k) (hR : ∀ k, 73 ≤ k → k < S.length → R' k = R k) (hS : SX S S') : LawsOK I' R' S' t' := fun i hi w hw => by
  rw [ht i hi] at hw
  have hl := h i hi w hw
  have g : ∀ {k : Nat} {sh : Nat × Nat}, S[k]? = some sh → k < S.length := fun hk => (List.getElem?_eq_some_iff.mp hk).1
  have hl' := hl
  obtain ⟨a, b, -, -, -, ⟨n1, -, q2, -⟩, ⟨n2, -, r2, -⟩⟩ := hl'
  exact LawOK_ext hl (hI _ a (g b)) (hI _ (by omega) (g q2)) (hI _ (by omega) (g r2)) (hR _ a (g b)) hS
theorem CoastOK_hi {I I' : aI1} {R R' : aR1} {S S' : aS1} {c : Nat} (h : CoastOK I R S c) (hI : ∀ k, 73 ≤ k → k < S.length → I' k = I k) (hR : ∀ k, 73 ≤ k → k < S.length → R' k = R k) (hS : SX S S') : CoastOK I' R' S' c := by
  obtain ⟨h0, h1, h2, h3⟩ := h
  have g : ∀ {k : Nat} {sh : Nat × Nat}, S[k]? = some sh → k < S.length := fun hk => (List.getElem?_eq_some_iff.mp hk).1
  exact ⟨h0, CoSh_ext h1 (hR _ h0 (g h1.1)) hS, CoR_ext h2 (hI _ h0 (g h1.1)) (hI _ (by omega) (g h1.2.2.1)), LawsOK_hi h3 (fun i hi => by rw [hR _ (by omega) (g h1.2.2.2.1)]) hI hR hS⟩
/-- a call that changes cells below 49 alone, and no reference -/
theorem CI_low {I I' : aI1} {R : aR1} {S : aS1} (h : CI I R S) (hk : Kp 0 49 I I') (hx : CX I') : CI I' R S :=
  ⟨h.1, hx, LawsOK_hi h.2.2.1 (fun _ _ => rfl) (fun k h1 _ => hk k (by omega)) (fun _ _ _ => rfl) SX_rf, fun i hi c hc => CoastOK_hi (h.2.2.2 i hi c hc) (fun k h1 _ => hk k (by omega)) (fun _ _ _ => rfl) SX_rf⟩
theorem CX_copy {I I' : aI1} {R R' : aR1} {c : Nat} (h : CX I) (hc : CoR I c) (e : ∀ k, k ≠ 1 → k ≠ 2 → k ≠ 3 → k ≠ 5 → k ≠ 6 → I' k = I k) (he : CoEq I I' R R' 1 c) : CX I' := by
  have f : ∀ k, 6 < k ∨ k = 0 → I' k = I k := fun k hk => e k (by omega) (by omega) (by omega) (by omega) (by omega)
  refine ⟨?_, LR_of h.2.1 (f _ (by decide)) (f _ (by decide)) (f _ (by decide)) (f _ (by decide)), FI_of h.2.2 (f _ (by decide))⟩
  obtain ⟨-, g3, -, -, -, g1⟩ := he
  have h := h.1
  unfold XI at h ⊢
  rw [f 0 (by decide), f 8 (by decide), f 9 (by decide), g1 5 (by decide) (by decide), g1 6 (by decide) (by decide), g1 8 (by decide) (by decide), g1 9 (by decide) (by decide), g1 10 (by decide) (by decide), g1 11 (by decide) (by decide)]
  exact ⟨hc.1, hc.2.1, hc.2.2.1, hc.2.2.2.1, hc.2.2.2.2.1, hc.2.2.2.2.2.1, h.2.2.2.2.2.2.1, h.2.2.2.2.2.2.2.1, h.2.2.2.2.2.2.2.2.1, fun s hs => by rw [g3 s hs]; exact hc.2.2.2.2.2.2 s hs, h.2.2.2.2.2.2.2.2.2.2⟩
end
