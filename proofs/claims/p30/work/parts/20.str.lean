section WST
variable {l0 : Launch} {X : aX} {cc : ByteArray} {nL : Nat} {own : String} {rt : Option FieldType} {d mc ms : Nat} {pc : Nat} {lv : List (Option aV)} {st : List aV} {I J : aI1} {R : aR1} {S : aS1} {uc us : Nat} {post : Option aV → aI1 → aI1 → aR1 → aS1 → Prop}
theorem ww_getSv (hX : aK l0 X cc nL own rt d mc ms) {idx n : Nat} (hn : n < 13) (h1 : Cond.fieldLink own idx "java/lang/String" "value" "[B" ∈ aTb) (hd : decode cc pc = .ok (.getfield idx, 3)) (kk : WW X (pc + 3) lv (kS (100 + n) :: st) I J R S uc us) : WW X pc lv (kS n :: st) I J R S uc us := by
  obtain ⟨p, l, e, Rm, s, m, args, below, meth, c, Q, E⟩ := X
  obtain ⟨hl0, hx, hb, hr, hml, hown, hts, hlocks, hK, hz0, hR, hStr⟩ := hX
  intro H locs ls hP hS hz hl
  exact vk_getf hx hb ((hStr.2.1.1 n hn).2.2.1) hS hown (hts _ h1) (fun _ h => h) hd (kk H locs ls hP hS hz hl)
theorem ww_getSc (hX : aK l0 X cc nL own rt d mc ms) {idx n : Nat} (hn : n < 13) (h1 : Cond.fieldLink own idx "java/lang/String" "coder" "B" ∈ aTb) (hd : decode cc pc = .ok (.getfield idx, 3)) (kk : WW X (pc + 3) lv (kI 0 :: st) I J R S uc us) : WW X pc lv (kS n :: st) I J R S uc us := by
  obtain ⟨p, l, e, Rm, s, m, args, below, meth, c, Q, E⟩ := X
  obtain ⟨hl0, hx, hb, hr, hml, hown, hts, hlocks, hK, hz0, hR, hStr⟩ := hX
  intro H locs ls hP hS hz hl
  exact vk_getf hx hb ((hStr.2.1.1 n hn).2.1) hS hown (hts _ h1) (fun _ h => h) hd (kk H locs ls hP hS hz hl)
theorem ww_alenS (hX : aK l0 X cc nL own rt d mc ms) {n : Nat} (hn : n < 13) (hd : decode cc pc = .ok (.arraylength, 1)) (kk : WW X (pc + 1) lv (kI ((strLen.getD n 0 : Nat) : Int) :: st) I J R S uc us) : WW X pc lv (kS (100 + n) :: st) I J R S uc us := by
  obtain ⟨p, l, e, Rm, s, m, args, below, meth, c, Q, E⟩ := X
  obtain ⟨hl0, hx, hb, hr, hml, hown, hts, hlocks, hK, hz0, hR, hStr⟩ := hX
  intro H locs ls hP hS hz hl
  exact va_tlen hx hb ((hStr.2.1.1 n hn).2.2.2) hS (v := Int32.ofInt ((strLen.getD n 0 : Nat) : Int)) rfl hd (kk H locs ls hP hS hz hl)
theorem ww_baldS (hX : aK l0 X cc nL own rt d mc ms) {n : Nat} {i : Int} (hn : n < 13) (h0 : 0 ≤ i) (h1 : i < (strLen.getD n 0 : Nat)) (hl9 : strLen.getD n 0 < 2147483648) (hd : decode cc pc = .ok (.baload, 1)) (kk : WW X (pc + 1) lv (kI ((strByt.getD n []).getD i.toNat 0).toInt :: st) I J R S uc us) : WW X pc lv (kI i :: kS (100 + n) :: st) I J R S uc us := by
  obtain ⟨p, l, e, Rm, s, m, args, below, meth, c, Q, E⟩ := X
  obtain ⟨hl0, hx, hb, hr, hml, hown, hts, hlocks, hK, hz0, hR, hStr⟩ := hX
  intro H locs ls hP hS hz hl
  have hin := n_in h0 h1 hl9
  refine va_tb hx hb ((hStr.2.1.1 n hn).2.2.2) hS hin.1 rfl hd ?_
  have kk := kk H locs ls hP hS hz hl
  simp only [List.map_cons, aC_I, n_of] at kk
  rw [hin.2]
  exact kk
theorem ww_gcs (hX : aK l0 X cc nL own rt d mc ms) {idx : Nat} (h1 : Cond.fieldLink own idx "java/lang/String" "COMPACT_STRINGS" "Z" ∈ aTb) (hd : decode cc pc = .ok (.getstatic idx, 3)) (kk : WW X (pc + 3) lv (kI 1 :: st) I J R S uc us) : WW X pc lv st I J R S uc us := by
  obtain ⟨p, l, e, Rm, s, m, args, below, meth, c, Q, E⟩ := X
  obtain ⟨hl0, hx, hb, hr, hml, hown, hts, hlocks, hK, hz0, hR, hStr⟩ := hX
  intro H locs ls hP hS hz hl
  exact va_gets hx hb hStr.2.2.1 hS hown (hts _ h1) (fun _ h => h) hd (kk H locs ls hP hS hz hl)
theorem ww_gfm (hX : aK l0 X cc nL own rt d mc ms) {idx : Nat} (h1 : Cond.fieldLink own idx "jdk/internal/util/Preconditions" "SIOOBE_FORMATTER" "Ljava/util/function/BiFunction;" ∈ aTb) (hd : decode cc pc = .ok (.getstatic idx, 3)) (kn : WW X (pc + 3) lv (kR none :: st) I J R S uc us) (kk : WW X (pc + 3) lv (kS 200 :: st) I J R S uc us) : WW X pc lv st I J R S uc us := by
  obtain ⟨p, l, e, Rm, s, m, args, below, meth, c, Q, E⟩ := X
  obtain ⟨hl0, hx, hb, hr, hml, hown, hts, hlocks, hK, hz0, hR, hStr⟩ := hX
  intro H locs ls hP hS hz hl
  rcases hStr.2.2.2.1 with h | h
  · exact va_gets hx hb h hS hown (hts _ h1) (fun _ h => h) hd (kn H locs ls hP hS hz hl)
  · exact va_gets hx hb h hS hown (hts _ h1) (fun _ h => h) hd (kk H locs ls hP hS hz hl)
theorem ww_i2c (hX : aK l0 X cc nL own rt d mc ms) {a : Int} (hd : decode cc pc = .ok (.i2c, 1)) (k : WW X (pc + 1) lv (kI (i_c a) :: st) I J R S uc us) : WW X pc lv (kI a :: st) I J R S uc us := by
  obtain ⟨p, l, e, Rm, s, m, args, below, meth, c, Q, E⟩ := X
  obtain ⟨hl0, hx, hb, hr, hml, hown, hts, hlocks, hK, hz0, hR, hStr⟩ := hX
  intro H locs ls hP hS hz hl
  refine lv_i2c (v := Int32.ofInt (i_c a)) hx hb hd ?_ (k H locs ls hP hS hz hl)
  rw [i_c, n_of]
theorem ww_callX (hX : aK l0 X cc nL own rt d mc ms) {idx b : Nat} {M : aM} {n d' mc' ms' : Nat} {av : List aV} (hsi : aSX own idx M n) (hb9 : b < 13) (hM : CT l0 d' mc' ms' M (kS b :: av) I J R S post) (hav : av.length = n) (hd1 : d' + 1 ≤ d) (hc : uc + mc' ≤ mc) (hs : us + ms' ≤ ms) (hcat : aCat st ≤ 8) (hd : decode cc pc = .ok (.invokevirtual idx, 3)) (kk : ∀ r I' J' R' S', post r I' J' R' S' → WW X (pc + 3) lv (r.toList ++ st) I' J' R' S' (uc + mc') (us + ms')) : WW X pc lv (av.reverse ++ kS b :: st) I J R S uc us := by
  obtain ⟨p, l, e, Rm, s, m, args, below, meth, c, Q, E⟩ := X
  obtain ⟨hl0, hx, hb, hr, hml, hown, hts, hlocks, hK, hz0, hR, hStr⟩ := hX
  intro H locs ls hP hS hz hl
  obtain ⟨⟨s1, s2, s3, s4, s5⟩, s6, s7, s8⟩ := hsi
  subst hl0
  have hlr : 8 + (M.2.2.1 + 11) + 64 * d' ≤ Rm.locals := by have := hR.2.1; omega
  have hfr : d' + 1 ≤ Rm.frames := by have := hR.1; omega
  rw [List.map_append, List.map_reverse, List.map_cons]
  have hrc := vk_recv (i := b) hStr.2.1 hb9 hS
  rw [← s8] at hrc
  exact ww_back (va_runV (As := av.map (aC E)) (rest := st.map (aC E)) (y := M.1) (ws := aWs M.1 M.2.1 M.2.2.1 M.2.2.2) ⟨hx, hb, hml, hown, hts⟩ (hM E)
    ⟨callB_of (bytes := M.2.1) (maxL := M.2.2.1) (ret := M.2.2.2) n hts (aTb_ws s1) rfl rfl rfl (hts _ s3) (hts _ s2) s4 ⟨hfr, hlr⟩, hts _ s6, hts _ s7⟩
    ⟨aPre_blind, hrc, (fun U hU hW => ⟨rfl, by rw [hU]; exact hP, by rw [hU]; exact hz, va_K.moved hW.alike hK, aStr_to hStr hW hS hU⟩)⟩ rfl (by simpa using hav) (by rw [← hml]; exact hl.1) rfl (lv_room (by rw [aCat_eq]; exact hcat)) hd ⟨by rw [hR.2.2.1]; exact hc, by rw [hR.2.2.2]; exact hs⟩) hS hl kk
theorem xI0 (hX : aK l0 X cc nL own rt d mc ms) {idx b d' : Nat} {M : aM} {p : Int → aI1 → aI1 → Prop} (hsi : aSX own idx M 0) (hb9 : b < 13) (hM : CT l0 d' 0 0 M [kS b] I J R S (cI p R S)) (hd1 : d' + 1 ≤ d) (hc : uc ≤ mc) (hs : us ≤ ms) (hcat : aCat st ≤ 8) (hd : decode cc pc = .ok (.invokevirtual idx, 3)) (kk : ∀ x I' J', p x I' J' → WW X (pc + 3) lv (kI x :: st) I' J' R S uc us) : WW X pc lv (kS b :: st) I J R S uc us :=
  ww_callX hX (av := []) hsi hb9 hM rfl hd1 hc hs hcat hd (fun r I' J' R' S' h => by obtain ⟨x, rfl, rfl, rfl, h⟩ := h; exact kk x I' J' h)
theorem xI1 (hX : aK l0 X cc nL own rt d mc ms) {idx b d' : Nat} {M : aM} {a1 : aV} {p : Int → aI1 → aI1 → Prop} (hsi : aSX own idx M 1) (hb9 : b < 13) (hM : CT l0 d' 0 0 M [kS b, a1] I J R S (cI p R S)) (hd1 : d' + 1 ≤ d) (hc : uc ≤ mc) (hs : us ≤ ms) (hcat : aCat st ≤ 8) (hd : decode cc pc = .ok (.invokevirtual idx, 3)) (kk : ∀ x I' J', p x I' J' → WW X (pc + 3) lv (kI x :: st) I' J' R S uc us) : WW X pc lv (a1 :: kS b :: st) I J R S uc us :=
  ww_callX hX (av := [a1]) hsi hb9 hM rfl hd1 hc hs hcat hd (fun r I' J' R' S' h => by obtain ⟨x, rfl, rfl, rfl, h⟩ := h; exact kk x I' J' h)
theorem rB (hX : aK l0 X cc nL own (some .byte) d mc ms) {pq : Int → aI1 → aI1 → Prop} (hT : aT X (cI pq R S) mc ms) {x : Int} (hc : uc ≤ mc) (hs : us ≤ ms) (hd : decode cc pc = .ok (.ireturn, 1)) (hnw : narrow .byte (.int (Int32.ofInt x)) = .int (Int32.ofInt x)) (hp : pq x I J) : WW X pc lv [kI x] I J R S uc us := by
  obtain ⟨p, l, e, Rm, s, m, args, below, meth, c, Q, E⟩ := X
  obtain ⟨hl0, hx, hb, hr, hml, hown, hts, hlocks, hK, hz0, hR, hStr⟩ := hX
  have hQ : Q = MQ below (aQ E (cI pq R S)) args s mc ms (fun q => E.1 ≤ q) := hT
  subst hQ
  intro H locs ls hP hS hz hl
  refine W.widen hc hs ?_
  exact W.zret (v := Int32.ofInt x) hx hb hr hnw (fun t ht hW => ⟨⟨some (kI x), I, J, R, S, rfl, ⟨x, rfl, rfl, rfl, hp⟩, by rw [ht]; exact hP, by rw [ht]; exact hz⟩, hS.F ht⟩) hS.2.2 hd hlocks
theorem rC (hX : aK l0 X cc nL own (some .char) d mc ms) {pq : Int → aI1 → aI1 → Prop} (hT : aT X (cI pq R S) mc ms) {x : Int} (hc : uc ≤ mc) (hs : us ≤ ms) (hd : decode cc pc = .ok (.ireturn, 1)) (hnw : narrow .char (.int (Int32.ofInt x)) = .int (Int32.ofInt x)) (hp : pq x I J) : WW X pc lv [kI x] I J R S uc us := by
  obtain ⟨p, l, e, Rm, s, m, args, below, meth, c, Q, E⟩ := X
  obtain ⟨hl0, hx, hb, hr, hml, hown, hts, hlocks, hK, hz0, hR, hStr⟩ := hX
  have hQ : Q = MQ below (aQ E (cI pq R S)) args s mc ms (fun q => E.1 ≤ q) := hT
  subst hQ
  intro H locs ls hP hS hz hl
  refine W.widen hc hs ?_
  exact W.zret (v := Int32.ofInt x) hx hb hr hnw (fun t ht hW => ⟨⟨some (kI x), I, J, R, S, rfl, ⟨x, rfl, rfl, rfl, hp⟩, by rw [ht]; exact hP, by rw [ht]; exact hz⟩, hS.F ht⟩) hS.2.2 hd hlocks
end WST
theorem i_c_nar (a : Int) : narrow .char (.int (Int32.ofInt (i_c a))) = .int (Int32.ofInt (i_c a)) := by
  rw [i_c, n_of]
  exact pk_nc _
theorem pn_J0 : plainName yJ0_length_8abf5.cls = true := by decide +kernel
theorem pn_J1 : plainName yJ1_charAt_3b067.cls = true := by decide +kernel
theorem pn_J3 : plainName yJ3_checkIndex_8e157.cls = true := by decide +kernel
/-- the letter at a place of a String constant -/
def chS (n : Nat) (i : Int) : Int := i_c (i_and ((strByt.getD n []).getD i.toNat 0).toInt 255)
theorem strLen_r {n : Nat} (h : n < 13) : 2 ≤ strLen.getD n 0 ∧ strLen.getD n 0 ≤ 5 := by
  have : ∀ n : Fin 13, 2 ≤ strLen.getD n.val 0 ∧ strLen.getD n.val 0 ≤ 5 := by decide
  exact this ⟨n, h⟩
