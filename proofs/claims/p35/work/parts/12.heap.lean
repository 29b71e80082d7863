def aKd : FieldType → Nat
  | .long => 1
  | .object _ => 2
  | .array _ => 2
  | .int => 0
  | .boolean => 3
  | _ => 4
/-- a class, what the tables say of it -/
def aCl (ci : Nat) (C : String) (T : u_T) : Prop := vwCl[ci]? = some (C, T, aN ci) ∧ (∀ w ∈ u_ws C T (aN ci), w ∈ aTb) ∧ (∀ k, k < aN ci → parseFieldDescriptor (T k).2.2.1 = some (aTy ci k)) ∧ (∀ a, a < aN ci → ∀ b, b < aN ci → a ≠ b → (T a).2.1 ≠ (T b).2.1) ∧ (∀ k, k < aN ci → aKd (aTy ci k) ≠ 4)
/-- a field that a class's entry names: class ci, slot j -/
def aFd (own : String) (idx ci j : Nat) : Prop := ∃ (C : String) (T : u_T), aCl ci C T ∧ j < aN ci ∧ Cond.fieldLink own idx (T j).1 (T j).2.1 (T j).2.2.1 ∈ aTb
/-- a field that may be written there -/
def aPd (own : String) (idx ci j : Nat) : Prop := ∃ (C : String) (T : u_T), aCl ci C T ∧ j < aN ci ∧ Cond.fieldLink own idx (T j).1 (T j).2.1 (T j).2.2.1 ∈ aTb ∧ ((T j).2.2.2 = true → (T j).1 = own)
def aFin (ci j : Nat) : Bool := match vwCl[ci]? with
  | some (_, T, _) => (T j).2.2.2
  | none => false
theorem aFs_at (E : aEn) (Ir Jr : Nat → Int) (Rr : Nat → Option Nat) {ci j : Nat} (h : j < aN ci) : (aFs E Ir Jr Rr ci)[j]? = some (aFv E Ir Jr Rr (aTy ci j) j) := by simp [aFs, h]
theorem aFs_len (E : aEn) (Ir Jr : Nat → Int) (Rr : Nat → Option Nat) (ci : Nat) : (aFs E Ir Jr Rr ci).length = aN ci := by simp [aFs]
theorem aFs_set (E : aEn) {Ir Jr Ir' Jr' : Nat → Int} {Rr Rr' : Nat → Option Nat} {ci j : Nat} (h : j < aN ci) (hI : ∀ b, b ≠ j → Ir' b = Ir b) (hJ : ∀ b, b ≠ j → Jr' b = Jr b) (hR : ∀ b, b ≠ j → Rr' b = Rr b) : (aFs E Ir Jr Rr ci).set j (aFv E Ir' Jr' Rr' (aTy ci j) j) = aFs E Ir' Jr' Rr' ci := by
  apply List.ext_getElem?
  intro i
  by_cases hi : i = j
  · subst hi
    rw [List.getElem?_set_self (by rw [aFs_len]; exact h), aFs_at E Ir' Jr' Rr' h]
  · rw [List.getElem?_set_ne (Ne.symm hi)]
    by_cases hl : i < aN ci
    · rw [aFs_at E Ir Jr Rr hl, aFs_at E Ir' Jr' Rr' hl]
      unfold aFv
      rw [hI i hi, hJ i hi, hR i hi]
    · rw [List.getElem?_eq_none (by rw [aFs_len]; omega), List.getElem?_eq_none (by rw [aFs_len]; omega)]
theorem aFv_I {E : aEn} {Ir Jr : Nat → Int} {Rr : Nat → Option Nat} {ty : FieldType} {j : Nat} (h : aKd ty = 0 ∨ aKd ty = 3) : aFv E Ir Jr Rr ty j = .int (Int32.ofInt (Ir j)) := by
  cases ty <;> first | rfl | (simp [aKd] at h)
theorem aFv_J {E : aEn} {Ir Jr : Nat → Int} {Rr : Nat → Option Nat} {ty : FieldType} {j : Nat} (h : aKd ty = 1) : aFv E Ir Jr Rr ty j = .long (Int64.ofInt (Jr j)) := by
  cases ty <;> first | rfl | (simp [aKd] at h)
theorem aFv_R {E : aEn} {Ir Jr : Nat → Int} {Rr : Nat → Option Nat} {ty : FieldType} {j : Nat} (h : aKd ty = 2) : aFv E Ir Jr Rr ty j = va_rf ((Rr j).map (E.1 + ·)) := by
  cases ty <;> first | rfl | (simp [aKd] at h)
section WHR
variable {l0 : Launch} {X : aX} {cc : ByteArray} {nL : Nat} {own : String} {rt : Option FieldType} {d mc ms : Nat} {pc : Nat} {lv : List (Option aV)} {st : List aV} {I J : aI1} {R : aR1} {S : aS1} {uc us : Nat}

theorem ww_getI (hX : aK l0 X cc nL own rt d mc ms) {idx ci j k n : Nat} (hf : aFd own idx ci j) (ht : aKd (aTy ci j) = 0 ∨ aKd (aTy ci j) = 3) (hs : S[k]? = some (ci + 6, n)) (hd : decode cc pc = .ok (.getfield idx, 3)) (kk : WW X (pc + 3) lv (kI (I k j) :: st) I J R S uc us) : WW X pc lv (kR (some k) :: st) I J R S uc us := by
  obtain ⟨p, l, e, Rm, s, m, args, below, meth, c, Q, E⟩ := X
  obtain ⟨hl0, hx, hb, hr, hml, hown, hts, hlocks, hK, hz0, hR, hStr⟩ := hX
  intro H locs ls hP hS hz hl
  obtain ⟨C, T, ⟨h1, h2, h3, h4, -⟩, h5, h6⟩ := hf
  refine va_get (D := (E.2.1, E.2.2.1)) hx hb hts h2 hown hK hP k (aW_at E I J R hs) h1 j h5 (hts _ h6) (fun _ h9 => h9) (aFs_at E (I k) (J k) (R k) h5) hd ?_
  rw [aFv_I ht]
  exact kk H locs ls hP hS hz hl
theorem ww_getJ (hX : aK l0 X cc nL own rt d mc ms) {idx ci j k n : Nat} (hf : aFd own idx ci j) (ht : aKd (aTy ci j) = 1) (hs : S[k]? = some (ci + 6, n)) (hd : decode cc pc = .ok (.getfield idx, 3)) (kk : WW X (pc + 3) lv (kL (J k j) :: st) I J R S uc us) : WW X pc lv (kR (some k) :: st) I J R S uc us := by
  obtain ⟨p, l, e, Rm, s, m, args, below, meth, c, Q, E⟩ := X
  obtain ⟨hl0, hx, hb, hr, hml, hown, hts, hlocks, hK, hz0, hR, hStr⟩ := hX
  intro H locs ls hP hS hz hl
  obtain ⟨C, T, ⟨h1, h2, h3, h4, -⟩, h5, h6⟩ := hf
  refine va_get (D := (E.2.1, E.2.2.1)) hx hb hts h2 hown hK hP k (aW_at E I J R hs) h1 j h5 (hts _ h6) (fun _ h9 => h9) (aFs_at E (I k) (J k) (R k) h5) hd ?_
  rw [aFv_J ht]
  exact kk H locs ls hP hS hz hl
theorem ww_getQ (hX : aK l0 X cc nL own rt d mc ms) {idx ci j k n : Nat} (hf : aFd own idx ci j) (ht : aKd (aTy ci j) = 2) (hs : S[k]? = some (ci + 6, n)) (hd : decode cc pc = .ok (.getfield idx, 3)) (kk : WW X (pc + 3) lv (kR (R k j) :: st) I J R S uc us) : WW X pc lv (kR (some k) :: st) I J R S uc us := by
  obtain ⟨p, l, e, Rm, s, m, args, below, meth, c, Q, E⟩ := X
  obtain ⟨hl0, hx, hb, hr, hml, hown, hts, hlocks, hK, hz0, hR, hStr⟩ := hX
  intro H locs ls hP hS hz hl
  obtain ⟨C, T, ⟨h1, h2, h3, h4, -⟩, h5, h6⟩ := hf
  refine va_get (D := (E.2.1, E.2.2.1)) hx hb hts h2 hown hK hP k (aW_at E I J R hs) h1 j h5 (hts _ h6) (fun _ h9 => h9) (aFs_at E (I k) (J k) (R k) h5) hd ?_
  rw [aFv_R ht]
  have kk := kk H locs ls hP hS hz hl
  rw [List.map_cons, aC_rf] at kk
  exact kk
theorem ww_getR (hX : aK l0 X cc nL own rt d mc ms) {idx ci j k n r : Nat} (hf : aFd own idx ci j) (ht : aKd (aTy ci j) = 2) (hs : S[k]? = some (ci + 6, n)) (hr : R k j = some r) (hd : decode cc pc = .ok (.getfield idx, 3)) (kk : WW X (pc + 3) lv (kR (some r) :: st) I J R S uc us) : WW X pc lv (kR (some k) :: st) I J R S uc us :=
  ww_getQ hX hf ht hs hd (by rw [hr]; exact kk)
theorem ww_putG (hX : aK l0 X cc nL own rt d mc ms) {idx ci j k n : Nat} {v : aV} {I' J' : aI1} {R' : aR1} (hin : aFin ci j = true → aIn X) (hf : aPd own idx ci j) (hs : S[k]? = some (ci + 6, n)) (hI : ∀ a, a ≠ k → I' a = I a) (hJ : ∀ a, a ≠ k → J' a = J a) (hR9 : ∀ a, a ≠ k → R' a = R a) (hI2 : ∀ b, b ≠ j → I' k b = I k b) (hJ2 : ∀ b, b ≠ j → J' k b = J k b) (hR2 : ∀ b, b ≠ j → R' k b = R k b)
    (hv : ∀ E : aEn, aFv E (I' k) (J' k) (R' k) (aTy ci j) j = aC E v ∧ narrow (aTy ci j) (aC E v) = aC E v ∧ fits (aTy ci j) (aC E v) = true) (hd : decode cc pc = .ok (.putfield idx, 3)) (kk : WW X (pc + 3) lv st I' J' R' S uc us) : WW X pc lv (v :: kR (some k) :: st) I J R S uc us := by
  obtain ⟨p, l, e, Rm, s, m, args, below, meth, c, Q, E⟩ := X
  obtain ⟨hl0, hx, hb, hr, hml, hown, hts, hlocks, hK, hz0, hR, hStr⟩ := hX
  intro H locs ls hP hS hz hl
  obtain ⟨C, T, ⟨hc, hin2, hty, hnm, -⟩, hk, h6, h7⟩ := hf
  obtain ⟨hv1, hn, hfit⟩ := hv E
  have hap := va_apart (own := own) hts hin2 (aTy ci) hty hnm hK hc
  obtain ⟨r, h1, cell, q1, q2, q3, q4⟩ := hP k _ (aW_at E I J R hs)
  have hr9 : r = (C, T, aN ci) := Option.some.inj (h1.symm.trans hc)
  subst hr9
  obtain ⟨hS9, hfc, kC, hkC, hkind⟩ := hK.1 ci _ hc
  obtain ⟨cf, kf, fi, f, hi, hsl⟩ := hS9 j hk
  have hlay := hts _ (hin2 _ (u_in_lay hk))
  unfold u_lay at hlay
  have hst := (u_facts hfc hkC (u_lays hts hin2 hk) hi).1
  have fin : ∀ (H' : Heap) (f0 : Nat), H'[E.1 + k]? = some (cell.setSlot f.slot (aC E v)) → H'.size = H.size → (∀ q, q ≠ E.1 + k → H'[q]? = H[q]?) → W p l e Rm s m args below meth c H' (locs ++ [⟨E.1 + k, f0⟩]) uc us Q (F0 m (pc + 3) ls (st.map (aC E))) := by
    intro H' f0 e1 e2 e3
    rw [hsl] at e1
    refine kk H' _ ls (aW_setP hP hs hI hJ hR9 ?_ e3) (hS.put e2 e3 (Nat.le_add_right _ _)) (e2.trans hz) hl
    have e9 : aFs E (I' k) (J' k) (R' k) ci = (aFs E (I k) (J k) (R k) ci).set j (aC E v) := by
      rw [← hv1, aFs_set E hk hI2 hJ2 hR2]
    refine ⟨_, hc, t_OB.to (V := updV (vp_V (aFs E (I k) (J k) (R k) ci)) j (aC E v)) ⟨_, e1, q2, q3, t_set q4 hap hk (aC E v)⟩ (fun i _ => ?_)⟩
    rw [vp_updV_set (by rw [aFs_len]; exact hk), e9]
  by_cases hfin : (T j).2.2.2 = true
  · rw [if_pos hfin] at hlay
    have hin3 : meth.name = "<init>" := hin (by unfold aFin; rw [hc]; exact hfin)
    have hcf : m.cls = cf := by
      obtain ⟨_, _, c', _, _, _, -, -, hf', -, -, -, hown2, -⟩ := Cond.laysFinal_spec hlay
      have e1 : c' = cf := by have := hi.symm.trans hf'; simp at this; exact this.1.symm
      rw [h7 hfin] at hown2
      rw [← e1]; exact Option.some.inj (hown.symm.trans hown2)
    have h6' := u_fits hfc hkC hkind (Or.inr hlay) hi (hty j hk) hn hfit
    exact W.putFinK hx hb hown (hts _ h6) hi hst hcf hin3 (by rw [q2]; exact h6') q1 q3 (by rw [hsl]; exact k2_hasslot (q4 j hk)) rfl rfl hd fun H' e1 e2 e3 => fin H' _ e1 e2 e3
  · rw [if_neg hfin] at hlay
    have h6' := u_store hfc hkC hkind hlay hi (hty j hk) hn hfit
    exact W.putK hx hb (f := f) ⟨hown, hts _ h6, ⟨_, _, _, hi⟩, hst⟩ (by rw [q2]; exact h6') q1 q3 (by rw [hsl]; exact k2_hasslot (q4 j hk)) rfl rfl hd fun H' e1 e2 e3 => fin H' _ e1 e2 e3
theorem ww_putI (hX : aK l0 X cc nL own rt d mc ms) {idx ci j k n : Nat} {x : Int} (hin : aFin ci j = true → aIn X) (hf : aPd own idx ci j) (ht : aTy ci j = .int) (hs : S[k]? = some (ci + 6, n)) (hd : decode cc pc = .ok (.putfield idx, 3)) (kk : WW X (pc + 3) lv st (up2 I k j x) J R S uc us) : WW X pc lv (kI x :: kR (some k) :: st) I J R S uc us :=
  ww_putG hX (I' := up2 I k j x) (J' := J) (R' := R) hin hf hs (fun a h => up2_off _ _ _ h) (fun _ _ => rfl) (fun _ _ => rfl) (fun b h => up2_n _ _ (Or.inr h)) (fun _ _ => rfl) (fun _ _ => rfl) (fun E => by rw [ht]; exact ⟨by rw [aFv_I (Or.inl rfl), up2_s]; rfl, rfl, rfl⟩) hd kk
theorem ww_putZ (hX : aK l0 X cc nL own rt d mc ms) {idx ci j k n : Nat} {x : Int} (hin : aFin ci j = true → aIn X) (hf : aPd own idx ci j) (ht : aTy ci j = .boolean) (hx01 : x = 0 ∨ x = 1) (hs : S[k]? = some (ci + 6, n)) (hd : decode cc pc = .ok (.putfield idx, 3)) (kk : WW X (pc + 3) lv st (up2 I k j x) J R S uc us) : WW X pc lv (kI x :: kR (some k) :: st) I J R S uc us :=
  ww_putG hX (I' := up2 I k j x) (J' := J) (R' := R) hin hf hs (fun a h => up2_off _ _ _ h) (fun _ _ => rfl) (fun _ _ => rfl) (fun b h => up2_n _ _ (Or.inr h)) (fun _ _ => rfl) (fun _ _ => rfl) (fun E => by rw [ht]; exact ⟨by rw [aFv_I (Or.inr rfl), up2_s]; rfl, by rcases hx01 with rfl | rfl <;> rfl, by rcases hx01 with rfl | rfl <;> rfl⟩) hd kk
theorem ww_putJ (hX : aK l0 X cc nL own rt d mc ms) {idx ci j k n : Nat} {x : Int} (hin : aFin ci j = true → aIn X) (hf : aPd own idx ci j) (ht : aTy ci j = .long) (hs : S[k]? = some (ci + 6, n)) (hd : decode cc pc = .ok (.putfield idx, 3)) (kk : WW X (pc + 3) lv st I (up2 J k j x) R S uc us) : WW X pc lv (kL x :: kR (some k) :: st) I J R S uc us :=
  ww_putG hX (I' := I) (J' := up2 J k j x) (R' := R) hin hf hs (fun _ _ => rfl) (fun a h => up2_off _ _ _ h) (fun _ _ => rfl) (fun _ _ => rfl) (fun b h => up2_n _ _ (Or.inr h)) (fun _ _ => rfl) (fun E => by rw [ht]; exact ⟨by rw [aFv_J rfl, up2_s]; rfl, rfl, rfl⟩) hd kk
theorem ww_putR (hX : aK l0 X cc nL own rt d mc ms) {idx ci j k n x : Nat} (hin : aFin ci j = true → aIn X) (hf : aPd own idx ci j) (ht : aKd (aTy ci j) = 2) (hs : S[k]? = some (ci + 6, n)) (hd : decode cc pc = .ok (.putfield idx, 3)) (kk : WW X (pc + 3) lv st I J (up2 R k j (some x)) S uc us) : WW X pc lv (kR (some x) :: kR (some k) :: st) I J R S uc us :=
  ww_putG hX (I' := I) (J' := J) (R' := up2 R k j (some x)) hin hf hs (fun _ _ => rfl) (fun _ _ => rfl) (fun a h => up2_off _ _ _ h) (fun _ _ => rfl) (fun _ _ => rfl) (fun b h => up2_n _ _ (Or.inr h)) (fun E => ⟨by rw [aFv_R ht, up2_s]; rfl, by generalize aTy ci j = ty at ht; cases ty <;> first | rfl | (simp [aKd] at ht), by generalize aTy ci j = ty at ht; cases ty <;> first | rfl | (simp [aKd] at ht)⟩) hd kk
theorem ww_iald (hX : aK l0 X cc nL own rt d mc ms) {k n : Nat} {i : Int} (hs : S[k]? = some (0, n)) (hn : n < 2147483648) (h0 : 0 ≤ i) (h1 : i < n) (hd : decode cc pc = .ok (.iaload, 1)) (kk : WW X (pc + 1) lv (kI (I k i.toNat) :: st) I J R S uc us) : WW X pc lv (kI i :: kR (some k) :: st) I J R S uc us := by
  obtain ⟨p, l, e, Rm, s, m, args, below, meth, c, Q, E⟩ := X
  obtain ⟨hl0, hx, hb, hr, hml, hown, hts, hlocks, hK, hz0, hR, hStr⟩ := hX
  intro H locs ls hP hS hz hl
  have hin := n_in h0 h1 hn
  refine va_iald hx hb hK hP k 0 (aW_at E I J R hs) rfl hin.1 hd ?_
  rw [hin.2]
  exact kk H locs ls hP hS hz hl
theorem ww_bald (hX : aK l0 X cc nL own rt d mc ms) {k n : Nat} {i : Int} (hs : S[k]? = some (2, n)) (hn : n < 2147483648) (h0 : 0 ≤ i) (h1 : i < n) (hd : decode cc pc = .ok (.baload, 1)) (kk : WW X (pc + 1) lv (kI (I k i.toNat) :: st) I J R S uc us) : WW X pc lv (kI i :: kR (some k) :: st) I J R S uc us := by
  obtain ⟨p, l, e, Rm, s, m, args, below, meth, c, Q, E⟩ := X
  obtain ⟨hl0, hx, hb, hr, hml, hown, hts, hlocks, hK, hz0, hR, hStr⟩ := hX
  intro H locs ls hP hS hz hl
  have hin := n_in h0 h1 hn
  refine va_bald hx hb hK hP k 2 (aW_at E I J R hs) rfl hin.1 hd ?_
  rw [hin.2]
  exact kk H locs ls hP hS hz hl
theorem ww_zald (hX : aK l0 X cc nL own rt d mc ms) {k n : Nat} {i : Int} (hs : S[k]? = some (3, n)) (hn : n < 2147483648) (h0 : 0 ≤ i) (h1 : i < n) (hd : decode cc pc = .ok (.baload, 1)) (kk : WW X (pc + 1) lv (kI (I k i.toNat) :: st) I J R S uc us) : WW X pc lv (kI i :: kR (some k) :: st) I J R S uc us := by
  obtain ⟨p, l, e, Rm, s, m, args, below, meth, c, Q, E⟩ := X
  obtain ⟨hl0, hx, hb, hr, hml, hown, hts, hlocks, hK, hz0, hR, hStr⟩ := hX
  intro H locs ls hP hS hz hl
  have hin := n_in h0 h1 hn
  refine va_zald hx hb hK hP k 3 (aW_at E I J R hs) rfl hin.1 hd ?_
  rw [hin.2]
  exact kk H locs ls hP hS hz hl
theorem ww_lald (hX : aK l0 X cc nL own rt d mc ms) {k n : Nat} {i : Int} (hs : S[k]? = some (1, n)) (hn : n < 2147483648) (h0 : 0 ≤ i) (h1 : i < n) (hd : decode cc pc = .ok (.laload, 1)) (kk : WW X (pc + 1) lv (kL (J k i.toNat) :: st) I J R S uc us) : WW X pc lv (kI i :: kR (some k) :: st) I J R S uc us := by
  obtain ⟨p, l, e, Rm, s, m, args, below, meth, c, Q, E⟩ := X
  obtain ⟨hl0, hx, hb, hr, hml, hown, hts, hlocks, hK, hz0, hR, hStr⟩ := hX
  intro H locs ls hP hS hz hl
  have hin := n_in h0 h1 hn
  refine va_lald hx hb hK hP k 1 (aW_at E I J R hs) rfl hin.1 hd ?_
  rw [hin.2]
  exact kk H locs ls hP hS hz hl
theorem ww_aald (hX : aK l0 X cc nL own rt d mc ms) {k n t : Nat} {i : Int} (ht : t = 4 ∨ t = 5) (hs : S[k]? = some (t, n)) (hn : n < 2147483648) (h0 : 0 ≤ i) (h1 : i < n) (hd : decode cc pc = .ok (.aaload, 1)) (kk : WW X (pc + 1) lv (kR (R k i.toNat) :: st) I J R S uc us) : WW X pc lv (kI i :: kR (some k) :: st) I J R S uc us := by
  obtain ⟨p, l, e, Rm, s, m, args, below, meth, c, Q, E⟩ := X
  obtain ⟨hl0, hx, hb, hr, hml, hown, hts, hlocks, hK, hz0, hR, hStr⟩ := hX
  intro H locs ls hP hS hz hl
  have hin := n_in h0 h1 hn
  have kk := kk H locs ls hP hS hz hl
  rw [List.map_cons, aC_rf] at kk
  rcases ht with rfl | rfl
  · refine va_aldq hx hb hK hP k 4 (aW_at E I J R hs) rfl hin.1 hd ?_
    rw [hin.2]
    exact kk
  · refine va_aldq hx hb hK hP k 5 (aW_at E I J R hs) rfl hin.1 hd ?_
    rw [hin.2]
    exact kk
theorem ww_alen (hX : aK l0 X cc nL own rt d mc ms) {k n t : Nat} (ht : t < 6) (hs : S[k]? = some (t, n)) (hd : decode cc pc = .ok (.arraylength, 1)) (kk : WW X (pc + 1) lv (kI (n : Int) :: st) I J R S uc us) : WW X pc lv (kR (some k) :: st) I J R S uc us := by
  obtain ⟨p, l, e, Rm, s, m, args, below, meth, c, Q, E⟩ := X
  obtain ⟨hl0, hx, hb, hr, hml, hown, hts, hlocks, hK, hz0, hR, hStr⟩ := hX
  intro H locs ls hP hS hz hl
  have kk := kk H locs ls hP hS hz hl
  have hq := aW_at E I J R hs
  rcases (show t = 0 ∨ t = 1 ∨ t = 2 ∨ t = 3 ∨ t = 4 ∨ t = 5 by omega) with rfl | rfl | rfl | rfl | rfl | rfl
  · exact va_alen hx hb hK hP k 0 hq rfl (v := Int32.ofInt n) rfl hd kk
  · exact va_alen hx hb hK hP k 1 hq rfl (v := Int32.ofInt n) rfl hd kk
  · exact va_alen hx hb hK hP k 2 hq rfl (v := Int32.ofInt n) rfl hd kk
  · exact va_alen hx hb hK hP k 3 hq rfl (v := Int32.ofInt n) rfl hd kk
  · exact va_alen hx hb hK hP k 4 hq rfl (v := Int32.ofInt n) rfl hd kk
  · exact va_alen hx hb hK hP k 5 hq rfl (v := Int32.ofInt n) rfl hd kk
theorem ww_iast (hX : aK l0 X cc nL own rt d mc ms) {k n : Nat} {i x : Int} (hs : S[k]? = some (0, n)) (hn : n < 2147483648) (h0 : 0 ≤ i) (h1 : i < n) (hd : decode cc pc = .ok (.iastore, 1)) (kk : WW X (pc + 1) lv st (up2 I k i.toNat x) J R S uc us) : WW X pc lv (kI x :: kI i :: kR (some k) :: st) I J R S uc us := by
  obtain ⟨p, l, e, Rm, s, m, args, below, meth, c, Q, E⟩ := X
  obtain ⟨hl0, hx, hb, hr, hml, hown, hts, hlocks, hK, hz0, hR, hStr⟩ := hX
  intro H locs ls hP hS hz hl
  have hin := n_in h0 h1 hn
  refine W.iast hx hb (hP k _ (aW_at E I J R hs)) ((hK.2 0 _ rfl).1 n (fun j => .int (Int32.ofInt (I k j)))) (fun q => by cases q) (by show ¬ (_ < 0 ∨ (arrV _ _ _).slots.size ≤ _); rw [arrV_size]; exact hin.1) rfl rfl hd fun H1 e1 z1 oq => ?_
  refine kk H1 _ ls (aW_setP hP hs (fun a h => up2_off _ _ _ h) (fun _ _ => rfl) (fun _ _ => rfl) ?_ oq) (hS.put z1 oq (Nat.le_add_right _ _)) (z1.trans hz) hl
  show H1[E.1 + k]? = some (vp_cell _ _)
  rw [e1, vp_cell_i, vp_cell_i, arrV_store, hin.2]
  congr 2
  funext q
  by_cases hq : q = i.toNat
  · subst hq
    rw [up2_s]
    rw [updV, if_pos rfl]
  · rw [up2_n _ _ (Or.inr hq)]
    simp [updV, hq]
theorem ww_last (hX : aK l0 X cc nL own rt d mc ms) {k n : Nat} {i x : Int} (hs : S[k]? = some (1, n)) (hn : n < 2147483648) (h0 : 0 ≤ i) (h1 : i < n) (hd : decode cc pc = .ok (.lastore, 1)) (kk : WW X (pc + 1) lv st I (up2 J k i.toNat x) R S uc us) : WW X pc lv (kL x :: kI i :: kR (some k) :: st) I J R S uc us := by
  obtain ⟨p, l, e, Rm, s, m, args, below, meth, c, Q, E⟩ := X
  obtain ⟨hl0, hx, hb, hr, hml, hown, hts, hlocks, hK, hz0, hR, hStr⟩ := hX
  intro H locs ls hP hS hz hl
  have hin := n_in h0 h1 hn
  refine W.last hx hb (hP k _ (aW_at E I J R hs)) ((hK.2 1 _ rfl).1 n (fun j => .long (Int64.ofInt (J k j)))) (fun q => by cases q) (by show ¬ (_ < 0 ∨ (arrV _ _ _).slots.size ≤ _); rw [arrV_size]; exact hin.1) rfl rfl hd fun H1 e1 z1 oq => ?_
  refine kk H1 _ ls (aW_setP hP hs (fun _ _ => rfl) (fun a h => up2_off _ _ _ h) (fun _ _ => rfl) ?_ oq) (hS.put z1 oq (Nat.le_add_right _ _)) (z1.trans hz) hl
  show H1[E.1 + k]? = some (vp_cell _ _)
  rw [e1, vp_cell_l, vp_cell_l, arrV_store, hin.2]
  congr 2
  funext q
  by_cases hq : q = i.toNat
  · subst hq
    rw [up2_s]
    rw [updV, if_pos rfl]
  · rw [up2_n _ _ (Or.inr hq)]
    simp [updV, hq]
theorem ww_bast (hX : aK l0 X cc nL own rt d mc ms) {k n : Nat} {i x : Int} (hs : S[k]? = some (2, n)) (hn : n < 2147483648) (h0 : 0 ≤ i) (h1 : i < n) (hd : decode cc pc = .ok (.bastore, 1)) (kk : WW X (pc + 1) lv st (up2 I k i.toNat (i_b x)) J R S uc us) : WW X pc lv (kI x :: kI i :: kR (some k) :: st) I J R S uc us := by
  obtain ⟨p, l, e, Rm, s, m, args, below, meth, c, Q, E⟩ := X
  obtain ⟨hl0, hx, hb, hr, hml, hown, hts, hlocks, hK, hz0, hR, hStr⟩ := hX
  intro H locs ls hP hS hz hl
  have hin := n_in h0 h1 hn
  refine W.bast hx hb (hP k _ (aW_at E I J R hs)) ((hK.2 2 _ rfl).1 n (fun j => .int (Int32.ofInt (I k j)))) (fun q => by cases q) (by show ¬ (_ < 0 ∨ (arrV _ _ _).slots.size ≤ _); rw [arrV_size]; exact hin.1) rfl rfl hd fun H1 e1 z1 oq => ?_
  refine kk H1 _ ls (aW_setP hP hs (fun a h => up2_off _ _ _ h) (fun _ _ => rfl) (fun _ _ => rfl) ?_ oq) (hS.put z1 oq (Nat.le_add_right _ _)) (z1.trans hz) hl
  show H1[E.1 + k]? = some (vp_cell _ _)
  rw [e1, vp_cell_i, vp_cell_i, arrV_store, hin.2]
  congr 2
  funext q
  by_cases hq : q = i.toNat
  · subst hq
    rw [up2_s]
    rw [updV, if_pos rfl]
    show Value.int _ = Value.int (Int32.ofInt (i_b x))
    rw [i_b, n_of]
  · rw [up2_n _ _ (Or.inr hq)]
    simp [updV, hq]
theorem ww_zast (hX : aK l0 X cc nL own rt d mc ms) {k n : Nat} {i x : Int} (hs : S[k]? = some (3, n)) (hn : n < 2147483648) (h0 : 0 ≤ i) (h1 : i < n) (hx01 : x = 0 ∨ x = 1) (hd : decode cc pc = .ok (.bastore, 1)) (kk : WW X (pc + 1) lv st (up2 I k i.toNat x) J R S uc us) : WW X pc lv (kI x :: kI i :: kR (some k) :: st) I J R S uc us := by
  obtain ⟨p, l, e, Rm, s, m, args, below, meth, c, Q, E⟩ := X
  obtain ⟨hl0, hx, hb, hr, hml, hown, hts, hlocks, hK, hz0, hR, hStr⟩ := hX
  intro H locs ls hP hS hz hl
  have hin := n_in h0 h1 hn
  refine W.zast hx hb (hP k _ (aW_at E I J R hs)) ((hK.2 3 _ rfl).1 n (fun j => .int (Int32.ofInt (I k j)))) (fun q => by cases q) (by show ¬ (_ < 0 ∨ (arrV _ _ _).slots.size ≤ _); rw [arrV_size]; exact hin.1) rfl rfl hd fun H1 e1 z1 oq => ?_
  refine kk H1 _ ls (aW_setP hP hs (fun a h => up2_off _ _ _ h) (fun _ _ => rfl) (fun _ _ => rfl) ?_ oq) (hS.put z1 oq (Nat.le_add_right _ _)) (z1.trans hz) hl
  show H1[E.1 + k]? = some (vp_cell _ _)
  rw [e1, vp_cell_i, vp_cell_i, arrV_store, hin.2]
  congr 2
  funext q
  by_cases hq : q = i.toNat
  · subst hq
    rw [up2_s]
    rw [updV, if_pos rfl]
    rcases hx01 with rfl | rfl <;> rfl
  · rw [up2_n _ _ (Or.inr hq)]
    simp [updV, hq]
theorem aFs_new {E : aEn} {ci : Nat} (h4 : ∀ k, k < aN ci → aKd (aTy ci k) ≠ 4) : ∀ j, j < aN ci → defaultValue (aTy ci j) = vp_V (aFs E (fun _ => 0) (fun _ => 0) (fun _ => none) ci) j := by
  intro j hj
  unfold vp_V
  rw [List.getD_eq_getElem?_getD, aFs_at E _ _ _ hj]
  have := h4 j hj
  generalize aTy ci j = ty at this ⊢
  cases ty <;> first | rfl | (exact absurd rfl this)
theorem ww_new (hX : aK l0 X cc nL own rt d mc ms) {idx ci : Nat} {C : String} {T : u_T} (hc : aCl ci C T) (h1 : Cond.classLink own idx C ∈ aTb) (h2 : Cond.instantiable C (aN ci) ∈ aTb) (h3 : Cond.initialized C ∈ aTb) (hc1 : uc + 1 ≤ mc) (hs1 : us + aN ci ≤ ms) (hd : decode cc pc = .ok (.new idx, 3))
    (kk : WW X (pc + 3) lv (kR (some S.length) :: st) (upR I S.length (fun _ => 0)) (upR J S.length (fun _ => 0)) (upR R S.length (fun _ => none)) (S ++ [(ci + 6, 0)]) (uc + 1) (us + aN ci)) : WW X pc lv st I J R S uc us := by
  obtain ⟨p, l, e, Rm, s, m, args, below, meth, c, Q, E⟩ := X
  obtain ⟨hl0, hx, hb, hr, hml, hown, hts, hlocks, hK, hz0, hR, hStr⟩ := hX
  intro H locs ls hP hS hz hl
  obtain ⟨g1, g2, g3, g4, g5⟩ := hc
  have hKn := hK.1 ci _ g1
  refine W.newcK hx hb hown (hts _ h1) (hts _ h2) (hts _ h3) rfl hd (by rw [hR.2.2.1]; exact hc1) (by rw [hR.2.2.2]; exact hs1) hKn.2.1 rfl fun H1 kC hkC e1 z1 o1 => ?_
  have hk : ∀ (k : Nat) (x : Nat × va_E), (aW E I J R S)[k]? = some x → H1[x.1]? = H[x.1]? := fun k x hx => o1 x.1 ((hP k x hx).lt)
  have kk := kk H1 locs ls ?_ ⟨Nat.le_trans hS.1 (by omega), fun x h1 h2 => (o1 x (Nat.lt_of_lt_of_le h1 hS.1)).trans (hS.2.1 x h1 h2), hS.2.2⟩ (by rw [z1, hz, List.length_append]; rfl) hl
  · rw [List.map_cons, aC_R, ← hz] at kk
    exact kk
  · rw [← aW_push E (fun a h => upR_n _ _ h) (fun a h => upR_n _ _ h) (fun a h => upR_n _ _ h)]
    refine (hP.kept hk).app (fun k x hx => ?_)
    have hz9 : k < 1 := (List.getElem?_eq_some_iff.mp hx).1
    rw [show k = 0 by omega] at hx
    cases hx
    rw [upR_s, upR_s, upR_s, ← hz]
    exact ⟨_, g1, (u_born (aTy ci) hts g2 hKn hkC e1 g3).to (aFs_new g5)⟩
theorem ww_na_int (hX : aK l0 X cc nL own rt d mc ms) {i : Int} {N : Nat} (h1 : Cond.arrayClass .int ∈ aTb) (hi : i = (N : Int)) (hi1 : N ≤ 65536) (hc1 : uc + 1 ≤ mc) (hs1 : us + N ≤ ms) (hd : decode cc pc = .ok (.newarray .int, 2))
    (kk : WW X (pc + 2) lv (kR (some S.length) :: st) (upR I S.length (fun _ => 0)) J R (S ++ [(0, N)]) (uc + 1) (us + N)) : WW X pc lv (kI i :: st) I J R S uc us := by
  obtain ⟨p, l, e, Rm, s, m, args, below, meth, c, Q, E⟩ := X
  obtain ⟨hl0, hx, hb, hr, hml, hown, hts, hlocks, hK, hz0, hR, hStr⟩ := hX
  intro H locs ls hP hS hz hl
  have hw : (Int32.ofInt i).toInt = i := w32_id (by omega) (by omega)
  refine va_newaK (atype := .int) hx hb (hts _ h1) rfl hd rfl (N := N) (fun h => by have := (n_lt0 i).mp h; rw [show w32 i = i from hw] at this; omega) (show (Int32.ofInt i).toInt.toNat = N by rw [hw]; omega) (by show N * _ ≤ _; simp [componentBytes, newarray.typeOf]; omega) (by rw [hR.2.2.1]; exact hc1) (by rw [hR.2.2.2]; exact hs1) rfl fun H1 cA e1 z1 o1 hAr hNm => ?_
  have hcA : cA = E.2.2.2.1 0 := Option.some.inj (hNm.symm.trans (hK.2 0 _ rfl).2)
  subst hcA
  have hk : ∀ (k : Nat) (x : Nat × va_E), (aW E I J R S)[k]? = some x → H1[x.1]? = H[x.1]? := fun k x hx => o1 x.1 ((hP k x hx).lt)
  have kk := kk H1 locs ls ?_ ⟨Nat.le_trans hS.1 (by omega), fun x h1 h2 => (o1 x (Nat.lt_of_lt_of_le h1 hS.1)).trans (hS.2.1 x h1 h2), hS.2.2⟩ (by rw [z1, hz, List.length_append]; rfl) hl
  · rw [List.map_cons, aC_R, ← hz] at kk
    exact kk
  · rw [← aW_push E (fun a h => upR_n _ _ h) (fun _ _ => rfl) (fun _ _ => rfl)]
    refine (hP.kept hk).app (fun k x hx => ?_)
    have hz9 : k < 1 := (List.getElem?_eq_some_iff.mp hx).1
    rw [show k = 0 by omega] at hx
    cases hx
    rw [upR_s, ← hz]
    exact e1
theorem ww_na_long (hX : aK l0 X cc nL own rt d mc ms) {i : Int} {N : Nat} (h1 : Cond.arrayClass .long ∈ aTb) (hi : i = (N : Int)) (hi1 : N ≤ 65536) (hc1 : uc + 1 ≤ mc) (hs1 : us + N ≤ ms) (hd : decode cc pc = .ok (.newarray .long, 2))
    (kk : WW X (pc + 2) lv (kR (some S.length) :: st) I (upR J S.length (fun _ => 0)) R (S ++ [(1, N)]) (uc + 1) (us + N)) : WW X pc lv (kI i :: st) I J R S uc us := by
  obtain ⟨p, l, e, Rm, s, m, args, below, meth, c, Q, E⟩ := X
  obtain ⟨hl0, hx, hb, hr, hml, hown, hts, hlocks, hK, hz0, hR, hStr⟩ := hX
  intro H locs ls hP hS hz hl
  have hw : (Int32.ofInt i).toInt = i := w32_id (by omega) (by omega)
  refine va_newaK (atype := .long) hx hb (hts _ h1) rfl hd rfl (N := N) (fun h => by have := (n_lt0 i).mp h; rw [show w32 i = i from hw] at this; omega) (show (Int32.ofInt i).toInt.toNat = N by rw [hw]; omega) (by show N * _ ≤ _; simp [componentBytes, newarray.typeOf]; omega) (by rw [hR.2.2.1]; exact hc1) (by rw [hR.2.2.2]; exact hs1) rfl fun H1 cA e1 z1 o1 hAr hNm => ?_
  have hcA : cA = E.2.2.2.1 1 := Option.some.inj (hNm.symm.trans (hK.2 1 _ rfl).2)
  subst hcA
  have hk : ∀ (k : Nat) (x : Nat × va_E), (aW E I J R S)[k]? = some x → H1[x.1]? = H[x.1]? := fun k x hx => o1 x.1 ((hP k x hx).lt)
  have kk := kk H1 locs ls ?_ ⟨Nat.le_trans hS.1 (by omega), fun x h1 h2 => (o1 x (Nat.lt_of_lt_of_le h1 hS.1)).trans (hS.2.1 x h1 h2), hS.2.2⟩ (by rw [z1, hz, List.length_append]; rfl) hl
  · rw [List.map_cons, aC_R, ← hz] at kk
    exact kk
  · rw [← aW_push E (fun _ _ => rfl) (fun a h => upR_n _ _ h) (fun _ _ => rfl)]
    refine (hP.kept hk).app (fun k x hx => ?_)
    have hz9 : k < 1 := (List.getElem?_eq_some_iff.mp hx).1
    rw [show k = 0 by omega] at hx
    cases hx
    rw [upR_s, ← hz]
    exact e1
theorem ww_na_byte (hX : aK l0 X cc nL own rt d mc ms) {i : Int} {N : Nat} (h1 : Cond.arrayClass .byte ∈ aTb) (hi : i = (N : Int)) (hi1 : N ≤ 65536) (hc1 : uc + 1 ≤ mc) (hs1 : us + N ≤ ms) (hd : decode cc pc = .ok (.newarray .byte, 2))
    (kk : WW X (pc + 2) lv (kR (some S.length) :: st) (upR I S.length (fun _ => 0)) J R (S ++ [(2, N)]) (uc + 1) (us + N)) : WW X pc lv (kI i :: st) I J R S uc us := by
  obtain ⟨p, l, e, Rm, s, m, args, below, meth, c, Q, E⟩ := X
  obtain ⟨hl0, hx, hb, hr, hml, hown, hts, hlocks, hK, hz0, hR, hStr⟩ := hX
  intro H locs ls hP hS hz hl
  have hw : (Int32.ofInt i).toInt = i := w32_id (by omega) (by omega)
  refine va_newaK (atype := .byte) hx hb (hts _ h1) rfl hd rfl (N := N) (fun h => by have := (n_lt0 i).mp h; rw [show w32 i = i from hw] at this; omega) (show (Int32.ofInt i).toInt.toNat = N by rw [hw]; omega) (by show N * _ ≤ _; simp [componentBytes, newarray.typeOf]; omega) (by rw [hR.2.2.1]; exact hc1) (by rw [hR.2.2.2]; exact hs1) rfl fun H1 cA e1 z1 o1 hAr hNm => ?_
  have hcA : cA = E.2.2.2.1 2 := Option.some.inj (hNm.symm.trans (hK.2 2 _ rfl).2)
  subst hcA
  have hk : ∀ (k : Nat) (x : Nat × va_E), (aW E I J R S)[k]? = some x → H1[x.1]? = H[x.1]? := fun k x hx => o1 x.1 ((hP k x hx).lt)
  have kk := kk H1 locs ls ?_ ⟨Nat.le_trans hS.1 (by omega), fun x h1 h2 => (o1 x (Nat.lt_of_lt_of_le h1 hS.1)).trans (hS.2.1 x h1 h2), hS.2.2⟩ (by rw [z1, hz, List.length_append]; rfl) hl
  · rw [List.map_cons, aC_R, ← hz] at kk
    exact kk
  · rw [← aW_push E (fun a h => upR_n _ _ h) (fun _ _ => rfl) (fun _ _ => rfl)]
    refine (hP.kept hk).app (fun k x hx => ?_)
    have hz9 : k < 1 := (List.getElem?_eq_some_iff.mp hx).1
    rw [show k = 0 by omega] at hx
    cases hx
    rw [upR_s, ← hz]
    exact e1
theorem ww_na_bool (hX : aK l0 X cc nL own rt d mc ms) {i : Int} {N : Nat} (h1 : Cond.arrayClass .boolean ∈ aTb) (hi : i = (N : Int)) (hi1 : N ≤ 65536) (hc1 : uc + 1 ≤ mc) (hs1 : us + N ≤ ms) (hd : decode cc pc = .ok (.newarray .boolean, 2))
    (kk : WW X (pc + 2) lv (kR (some S.length) :: st) (upR I S.length (fun _ => 0)) J R (S ++ [(3, N)]) (uc + 1) (us + N)) : WW X pc lv (kI i :: st) I J R S uc us := by
  obtain ⟨p, l, e, Rm, s, m, args, below, meth, c, Q, E⟩ := X
  obtain ⟨hl0, hx, hb, hr, hml, hown, hts, hlocks, hK, hz0, hR, hStr⟩ := hX
  intro H locs ls hP hS hz hl
  have hw : (Int32.ofInt i).toInt = i := w32_id (by omega) (by omega)
  refine va_newaK (atype := .boolean) hx hb (hts _ h1) rfl hd rfl (N := N) (fun h => by have := (n_lt0 i).mp h; rw [show w32 i = i from hw] at this; omega) (show (Int32.ofInt i).toInt.toNat = N by rw [hw]; omega) (by show N * _ ≤ _; simp [componentBytes, newarray.typeOf]; omega) (by rw [hR.2.2.1]; exact hc1) (by rw [hR.2.2.2]; exact hs1) rfl fun H1 cA e1 z1 o1 hAr hNm => ?_
  have hcA : cA = E.2.2.2.1 3 := Option.some.inj (hNm.symm.trans (hK.2 3 _ rfl).2)
  subst hcA
  have hk : ∀ (k : Nat) (x : Nat × va_E), (aW E I J R S)[k]? = some x → H1[x.1]? = H[x.1]? := fun k x hx => o1 x.1 ((hP k x hx).lt)
  have kk := kk H1 locs ls ?_ ⟨Nat.le_trans hS.1 (by omega), fun x h1 h2 => (o1 x (Nat.lt_of_lt_of_le h1 hS.1)).trans (hS.2.1 x h1 h2), hS.2.2⟩ (by rw [z1, hz, List.length_append]; rfl) hl
  · rw [List.map_cons, aC_R, ← hz] at kk
    exact kk
  · rw [← aW_push E (fun a h => upR_n _ _ h) (fun _ _ => rfl) (fun _ _ => rfl)]
    refine (hP.kept hk).app (fun k x hx => ?_)
    have hz9 : k < 1 := (List.getElem?_eq_some_iff.mp hx).1
    rw [show k = 0 by omega] at hx
    cases hx
    rw [upR_s, ← hz]
    exact e1
theorem ww_anew (hX : aK l0 X cc nL own rt d mc ms) {idx t : Nat} {i : Int} {N : Nat} {C : String} (ht : (t = 4 ∧ C = "LitCoast$Law") ∨ (t = 5 ∧ C = "LitCoast$Coast")) (h1 : Cond.classLink own idx C ∈ aTb) (hi : i = (N : Int)) (hi1 : N ≤ 65536) (hc1 : uc + 1 ≤ mc) (hs1 : us + N ≤ ms) (hd : decode cc pc = .ok (.anewarray idx, 3))
    (kk : WW X (pc + 3) lv (kR (some S.length) :: st) I J (upR R S.length (fun _ => none)) (S ++ [(t, N)]) (uc + 1) (us + N)) : WW X pc lv (kI i :: st) I J R S uc us := by
  obtain ⟨p, l, e, Rm, s, m, args, below, meth, c, Q, E⟩ := X
  obtain ⟨hl0, hx, hb, hr, hml, hown, hts, hlocks, hK, hz0, hR, hStr⟩ := hX
  intro H locs ls hP hS hz hl
  have hw : (Int32.ofInt i).toInt = i := w32_id (by omega) (by omega)
  have hN : (Int32.ofInt i).toNatClampNeg = N := show (Int32.ofInt i).toInt.toNat = N by rw [hw]; omega
  have h2 : va_AO C s := ht.elim (fun h => by rw [h.2]; exact hStr.2.2.2.2.1) (fun h => by rw [h.2]; exact hStr.2.2.2.2.2.1)
  refine W.anew hx hb hown (hts _ h1) (va_AO.use h2) rfl hd rfl (fun h => by have := (n_lt0 i).mp h; rw [show w32 i = i from hw] at this; omega) (by rw [hN]; omega) (by rw [hR.2.2.1]; exact hc1) (by rw [hN, hR.2.2.2]; exact hs1) fun cA kA comp f1 f2 f3 f4 => ?_
  rw [hN]
  generalize hH1 : H.push ({ cls := cA, slots := Array.replicate N .null, vm := .none } : Cell) = H1
  have z1 : H1.size = H.size + 1 := by rw [← hH1, Array.size_push]
  have e1 : H1[H.size]? = some (arrV cA N (fun _ => .null)) := by rw [← hH1, Array.getElem?_push_size, ← arrV_new]
  have o1 : ∀ q : Nat, q < H.size → H1[q]? = H[q]? := fun q hq => by rw [← hH1, Array.getElem?_push, if_neg (Nat.ne_of_lt hq)]
  have hk : ∀ (k : Nat) (x : Nat × va_E), (aW E I J R S)[k]? = some x → H1[x.1]? = H[x.1]? := fun k x hx => o1 x.1 ((hP k x hx).lt)
  have kk := kk H1 locs ls ?_ ⟨Nat.le_trans hS.1 (by omega), fun x h1 h2 => (o1 x (Nat.lt_of_lt_of_le h1 hS.1)).trans (hS.2.1 x h1 h2), hS.2.2⟩ (by rw [z1, hz, List.length_append]; rfl) hl
  · rw [List.map_cons, aC_R, ← hz] at kk
    exact kk
  · rw [← aW_push E (fun _ _ => rfl) (fun _ _ => rfl) (fun a h => upR_n _ _ h)]
    refine (hP.kept hk).app (fun k x hx => ?_)
    have hz9 : k < 1 := (List.getElem?_eq_some_iff.mp hx).1
    rw [show k = 0 by omega] at hx
    cases hx
    rw [upR_s, ← hz]
    rcases ht with ⟨rfl, rfl⟩ | ⟨rfl, rfl⟩
    · obtain ⟨_, _, -, -, -, f9⟩ := (hK.2 4 _ rfl).2
      have hcA : cA = E.2.2.2.1 4 := Option.some.inj (f1.symm.trans f9)
      subst hcA
      exact e1
    · obtain ⟨_, _, -, -, -, f9⟩ := (hK.2 5 _ rfl).2
      have hcA : cA = E.2.2.2.1 5 := Option.some.inj (f1.symm.trans f9)
      subst hcA
      exact e1
theorem ww_aast4 (hX : aK l0 X cc nL own rt d mc ms) {k n v n9 : Nat} {i : Int} (hs : S[k]? = some (4, n)) (hn : n < 2147483648) (h0 : 0 ≤ i) (h1 : i < n) (hv : S[v]? = some (6 + 6, n9)) (hd : decode cc pc = .ok (.aastore, 1)) (kk : WW X (pc + 1) lv st I J (up2 R k i.toNat (some v)) S uc us) : WW X pc lv (kR (some v) :: kI i :: kR (some k) :: st) I J R S uc us := by
  obtain ⟨p, l, e, Rm, s, m, args, below, meth, c, Q, E⟩ := X
  obtain ⟨hl0, hx, hb, hr, hml, hown, hts, hlocks, hK, hz0, hR, hStr⟩ := hX
  intro H locs ls hP hS hz hl
  have hin := n_in h0 h1 hn
  have hlt : (Int32.ofInt i).toNatClampNeg < n := Nat.not_le.mp fun q => hin.1 (Or.inr q)
  have h09 : ¬ Int32.ofInt i < 0 := fun q => hin.1 (Or.inl q)
  obtain ⟨r', hr', cellV, g1, g2, g3, -⟩ := hP v _ (aW_at E I J R hv)
  have hcls := (hK.1 6 _ (rfl : vwCl[6]? = some (RX6, TX6, aN 6))).2
  obtain ⟨kA, comp, k1, k2, k3, -⟩ := (hK.2 4 _ rfl).2
  have hcomp : comp = E.2.1 6 := Option.some.inj (k3.symm.trans hcls.1)
  subst hcomp
  obtain ⟨kC, hkC, -⟩ := hcls.2
  refine W.aast hx hb (hP k _ (aW_at E I J R hs)) (fun q h => by cases h) (fun h => by cases h) k1 k2 rfl hkC ⟨h09, by show _ < (arrV _ _ _).slots.size; rw [arrV_size]; exact hlt⟩ g1 (fun q h => by rw [g3] at h; cases h) (by rw [g2]; exact hkC) (by rw [g2]; exact va_assign hcls) rfl rfl hd fun H1 e1 z1 oq => ?_
  refine kk H1 _ ls (aW_setP hP hs (fun _ _ => rfl) (fun _ _ => rfl) (fun a h => up2_off _ _ _ h) ?_ oq) (hS.put z1 oq (Nat.le_add_right _ _)) (z1.trans hz) hl
  show H1[E.1 + k]? = some (vp_cell _ _)
  rw [e1, vp_cell_q, vp_cell_q, arrV_store, hin.2]
  congr 2
  funext q
  by_cases hq : q = i.toNat
  · subst hq
    rw [up2_s, updV, if_pos rfl]
    rfl
  · rw [up2_n _ _ (Or.inr hq)]
    simp [updV, hq]
theorem ww_aast4N (hX : aK l0 X cc nL own rt d mc ms) {k n : Nat} {i : Int} (hs : S[k]? = some (4, n)) (hn : n < 2147483648) (h0 : 0 ≤ i) (h1 : i < n) (hd : decode cc pc = .ok (.aastore, 1)) (kk : WW X (pc + 1) lv st I J (up2 R k i.toNat none) S uc us) : WW X pc lv (kR none :: kI i :: kR (some k) :: st) I J R S uc us := by
  obtain ⟨p, l, e, Rm, s, m, args, below, meth, c, Q, E⟩ := X
  obtain ⟨hl0, hx, hb, hr, hml, hown, hts, hlocks, hK, hz0, hR, hStr⟩ := hX
  intro H locs ls hP hS hz hl
  have hin := n_in h0 h1 hn
  refine va_WaastN hx hb (hP k _ (aW_at E I J R hs)) ((hK.2 4 _ rfl).1 n (fun j => va_rf ((R k j).map (E.1 + ·)))) (fun h => by cases h) (by show ¬ (_ < 0 ∨ (arrV _ _ _).slots.size ≤ _); rw [arrV_size]; exact hin.1) rfl rfl hd fun H1 e1 z1 oq => ?_
  refine kk H1 _ ls (aW_setP hP hs (fun _ _ => rfl) (fun _ _ => rfl) (fun a h => up2_off _ _ _ h) ?_ oq) (hS.put z1 oq (Nat.le_add_right _ _)) (z1.trans hz) hl
  show H1[E.1 + k]? = some (vp_cell _ _)
  rw [e1, vp_cell_q, vp_cell_q, arrV_store, hin.2]
  congr 2
  funext q
  by_cases hq : q = i.toNat
  · subst hq
    rw [up2_s, updV, if_pos rfl]
    rfl
  · rw [up2_n _ _ (Or.inr hq)]
    simp [updV, hq]
theorem ww_aast5 (hX : aK l0 X cc nL own rt d mc ms) {k n v n9 : Nat} {i : Int} (hs : S[k]? = some (5, n)) (hn : n < 2147483648) (h0 : 0 ≤ i) (h1 : i < n) (hv : S[v]? = some (1 + 6, n9)) (hd : decode cc pc = .ok (.aastore, 1)) (kk : WW X (pc + 1) lv st I J (up2 R k i.toNat (some v)) S uc us) : WW X pc lv (kR (some v) :: kI i :: kR (some k) :: st) I J R S uc us := by
  obtain ⟨p, l, e, Rm, s, m, args, below, meth, c, Q, E⟩ := X
  obtain ⟨hl0, hx, hb, hr, hml, hown, hts, hlocks, hK, hz0, hR, hStr⟩ := hX
  intro H locs ls hP hS hz hl
  have hin := n_in h0 h1 hn
  have hlt : (Int32.ofInt i).toNatClampNeg < n := Nat.not_le.mp fun q => hin.1 (Or.inr q)
  have h09 : ¬ Int32.ofInt i < 0 := fun q => hin.1 (Or.inl q)
  obtain ⟨r', hr', cellV, g1, g2, g3, -⟩ := hP v _ (aW_at E I J R hv)
  have hcls := (hK.1 1 _ (rfl : vwCl[1]? = some (RX1, TX1, aN 1))).2
  obtain ⟨kA, comp, k1, k2, k3, -⟩ := (hK.2 5 _ rfl).2
  have hcomp : comp = E.2.1 1 := Option.some.inj (k3.symm.trans hcls.1)
  subst hcomp
  obtain ⟨kC, hkC, -⟩ := hcls.2
  refine W.aast hx hb (hP k _ (aW_at E I J R hs)) (fun q h => by cases h) (fun h => by cases h) k1 k2 rfl hkC ⟨h09, by show _ < (arrV _ _ _).slots.size; rw [arrV_size]; exact hlt⟩ g1 (fun q h => by rw [g3] at h; cases h) (by rw [g2]; exact hkC) (by rw [g2]; exact va_assign hcls) rfl rfl hd fun H1 e1 z1 oq => ?_
  refine kk H1 _ ls (aW_setP hP hs (fun _ _ => rfl) (fun _ _ => rfl) (fun a h => up2_off _ _ _ h) ?_ oq) (hS.put z1 oq (Nat.le_add_right _ _)) (z1.trans hz) hl
  show H1[E.1 + k]? = some (vp_cell _ _)
  rw [e1, vp_cell_q, vp_cell_q, arrV_store, hin.2]
  congr 2
  funext q
  by_cases hq : q = i.toNat
  · subst hq
    rw [up2_s, updV, if_pos rfl]
    rfl
  · rw [up2_n _ _ (Or.inr hq)]
    simp [updV, hq]
end WHR
