section
/-- ends that keep references and shapes -/
def cI (p : Int → aI1 → aI1 → Prop) (R : aR1) (S : aS1) : Option aV → aI1 → aI1 → aR1 → aS1 → Prop := fun r I J R' S' => ∃ x, r = some (kI x) ∧ R' = R ∧ S' = S ∧ p x I J
def cJ (p : Int → aI1 → aI1 → Prop) (R : aR1) (S : aS1) : Option aV → aI1 → aI1 → aR1 → aS1 → Prop := fun r I J R' S' => ∃ x, r = some (kL x) ∧ R' = R ∧ S' = S ∧ p x I J
def cV (p : aI1 → aI1 → Prop) (R : aR1) (S : aS1) : Option aV → aI1 → aI1 → aR1 → aS1 → Prop := fun r I J R' S' => r = none ∧ R' = R ∧ S' = S ∧ p I J
/-- ends of all kinds -/
def dI (p : Int → aI1 → aI1 → aR1 → aS1 → Prop) : Option aV → aI1 → aI1 → aR1 → aS1 → Prop := fun r I J R S => ∃ x, r = some (kI x) ∧ p x I J R S
def dV (p : aI1 → aI1 → aR1 → aS1 → Prop) : Option aV → aI1 → aI1 → aR1 → aS1 → Prop := fun r I J R S => r = none ∧ p I J R S
def dR (p : Option Nat → aI1 → aI1 → aR1 → aS1 → Prop) : Option aV → aI1 → aI1 → aR1 → aS1 → Prop := fun r I J R S => ∃ x, r = some (kR x) ∧ p x I J R S
theorem w32_mod (x : Int) : w32 x = (x + 2147483648) % 4294967296 - 2147483648 := by
  have h1 := w32_r x
  have h2 := Int.bmod_emod (x := x) (m := 4294967296)
  rw [← w32_bmod] at h2
  omega
theorem w64_mod (x : Int) : w64 x = (x + 9223372036854775808) % 18446744073709551616 - 9223372036854775808 := by
  have h1 := w64_r x
  have h2 := Int.bmod_emod (x := x) (m := 18446744073709551616)
  rw [← w64_bmod] at h2
  omega
section WC2
variable {l0 : Launch} {X : aX} {cc : ByteArray} {nL : Nat} {own : String} {rt : Option FieldType} {d mc ms : Nat} {pc : Nat} {lv : List (Option aV)} {st : List aV} {I J : aI1} {R : aR1} {S : aS1} {uc us : Nat}
theorem ww_nmI {a : Int} (k : ∀ x : Int, x = a → WW X pc lv (kI x :: st) I J R S uc us) : WW X pc lv (kI a :: st) I J R S uc us := k a rfl
theorem ww_nmL {a : Int} (k : ∀ x : Int, x = a → WW X pc lv (kL x :: st) I J R S uc us) : WW X pc lv (kL a :: st) I J R S uc us := k a rfl
theorem ww_nmH (k : ∀ I' : aI1, I' = I → WW X pc lv st I' J R S uc us) : WW X pc lv st I J R S uc us := k I rfl
theorem ww_nmK (k : ∀ J' : aI1, J' = J → WW X pc lv st I J' R S uc us) : WW X pc lv st I J R S uc us := k J rfl
theorem ww_toI {a b : Int} (h : a = b) (k : WW X pc lv (kI b :: st) I J R S uc us) : WW X pc lv (kI a :: st) I J R S uc us := by rw [h]; exact k
theorem ww_toL {a b : Int} (h : a = b) (k : WW X pc lv (kL b :: st) I J R S uc us) : WW X pc lv (kL a :: st) I J R S uc us := by rw [h]; exact k
theorem vI0 (hX : aK l0 X cc nL own rt d mc ms) {idx ci b nb d' : Nat} {M : aM} {p : Int → aI1 → aI1 → Prop} (hsi : aSV own idx M 0 ci) (hbs : S[b]? = some (ci + 6, nb)) (hM : CT l0 d' 0 0 M [kR (some b)] I J R S (cI p R S)) (hd1 : d' + 1 ≤ d) (hc : uc ≤ mc) (hs : us ≤ ms) (hcat : aCat st ≤ 8) (hd : decode cc pc = .ok (.invokevirtual idx, 3)) (kk : ∀ x I' J', p x I' J' → WW X (pc + 3) lv (kI x :: st) I' J' R S uc us) : WW X pc lv (kR (some b) :: st) I J R S uc us :=
  ww_callV hX (av := []) hsi hbs hM rfl hd1 hc hs hcat hd (fun r I' J' R' S' h => by obtain ⟨x, rfl, rfl, rfl, h⟩ := h; exact kk x I' J' h)
theorem vV0 (hX : aK l0 X cc nL own rt d mc ms) {idx ci b nb d' : Nat} {M : aM} {p : aI1 → aI1 → Prop} (hsi : aSV own idx M 0 ci) (hbs : S[b]? = some (ci + 6, nb)) (hM : CT l0 d' 0 0 M [kR (some b)] I J R S (cV p R S)) (hd1 : d' + 1 ≤ d) (hc : uc ≤ mc) (hs : us ≤ ms) (hcat : aCat st ≤ 8) (hd : decode cc pc = .ok (.invokevirtual idx, 3)) (kk : ∀ I' J', p I' J' → WW X (pc + 3) lv st I' J' R S uc us) : WW X pc lv (kR (some b) :: st) I J R S uc us :=
  ww_callV hX (av := []) hsi hbs hM rfl hd1 hc hs hcat hd (fun r I' J' R' S' h => by obtain ⟨rfl, rfl, rfl, h⟩ := h; exact kk I' J' h)
theorem vI1 (hX : aK l0 X cc nL own rt d mc ms) {idx ci b nb d' : Nat} {M : aM} {a1 : aV} {p : Int → aI1 → aI1 → Prop} (hsi : aSV own idx M 1 ci) (hbs : S[b]? = some (ci + 6, nb)) (hM : CT l0 d' 0 0 M [kR (some b), a1] I J R S (cI p R S)) (hd1 : d' + 1 ≤ d) (hc : uc ≤ mc) (hs : us ≤ ms) (hcat : aCat st ≤ 8) (hd : decode cc pc = .ok (.invokevirtual idx, 3)) (kk : ∀ x I' J', p x I' J' → WW X (pc + 3) lv (kI x :: st) I' J' R S uc us) : WW X pc lv (a1 :: kR (some b) :: st) I J R S uc us :=
  ww_callV hX (av := [a1]) hsi hbs hM rfl hd1 hc hs hcat hd (fun r I' J' R' S' h => by obtain ⟨x, rfl, rfl, rfl, h⟩ := h; exact kk x I' J' h)
theorem vJ1 (hX : aK l0 X cc nL own rt d mc ms) {idx ci b nb d' : Nat} {M : aM} {a1 : aV} {p : Int → aI1 → aI1 → Prop} (hsi : aSV own idx M 1 ci) (hbs : S[b]? = some (ci + 6, nb)) (hM : CT l0 d' 0 0 M [kR (some b), a1] I J R S (cJ p R S)) (hd1 : d' + 1 ≤ d) (hc : uc ≤ mc) (hs : us ≤ ms) (hcat : aCat st ≤ 8) (hd : decode cc pc = .ok (.invokevirtual idx, 3)) (kk : ∀ x I' J', p x I' J' → WW X (pc + 3) lv (kL x :: st) I' J' R S uc us) : WW X pc lv (a1 :: kR (some b) :: st) I J R S uc us :=
  ww_callV hX (av := [a1]) hsi hbs hM rfl hd1 hc hs hcat hd (fun r I' J' R' S' h => by obtain ⟨x, rfl, rfl, rfl, h⟩ := h; exact kk x I' J' h)
theorem vV1 (hX : aK l0 X cc nL own rt d mc ms) {idx ci b nb d' : Nat} {M : aM} {a1 : aV} {p : aI1 → aI1 → Prop} (hsi : aSV own idx M 1 ci) (hbs : S[b]? = some (ci + 6, nb)) (hM : CT l0 d' 0 0 M [kR (some b), a1] I J R S (cV p R S)) (hd1 : d' + 1 ≤ d) (hc : uc ≤ mc) (hs : us ≤ ms) (hcat : aCat st ≤ 8) (hd : decode cc pc = .ok (.invokevirtual idx, 3)) (kk : ∀ I' J', p I' J' → WW X (pc + 3) lv st I' J' R S uc us) : WW X pc lv (a1 :: kR (some b) :: st) I J R S uc us :=
  ww_callV hX (av := [a1]) hsi hbs hM rfl hd1 hc hs hcat hd (fun r I' J' R' S' h => by obtain ⟨rfl, rfl, rfl, h⟩ := h; exact kk I' J' h)
theorem vI2 (hX : aK l0 X cc nL own rt d mc ms) {idx ci b nb d' : Nat} {M : aM} {a1 a2 : aV} {p : Int → aI1 → aI1 → Prop} (hsi : aSV own idx M 2 ci) (hbs : S[b]? = some (ci + 6, nb)) (hM : CT l0 d' 0 0 M [kR (some b), a1, a2] I J R S (cI p R S)) (hd1 : d' + 1 ≤ d) (hc : uc ≤ mc) (hs : us ≤ ms) (hcat : aCat st ≤ 8) (hd : decode cc pc = .ok (.invokevirtual idx, 3)) (kk : ∀ x I' J', p x I' J' → WW X (pc + 3) lv (kI x :: st) I' J' R S uc us) : WW X pc lv (a2 :: a1 :: kR (some b) :: st) I J R S uc us :=
  ww_callV hX (av := [a1, a2]) hsi hbs hM rfl hd1 hc hs hcat hd (fun r I' J' R' S' h => by obtain ⟨x, rfl, rfl, rfl, h⟩ := h; exact kk x I' J' h)
theorem vJ2 (hX : aK l0 X cc nL own rt d mc ms) {idx ci b nb d' : Nat} {M : aM} {a1 a2 : aV} {p : Int → aI1 → aI1 → Prop} (hsi : aSV own idx M 2 ci) (hbs : S[b]? = some (ci + 6, nb)) (hM : CT l0 d' 0 0 M [kR (some b), a1, a2] I J R S (cJ p R S)) (hd1 : d' + 1 ≤ d) (hc : uc ≤ mc) (hs : us ≤ ms) (hcat : aCat st ≤ 8) (hd : decode cc pc = .ok (.invokevirtual idx, 3)) (kk : ∀ x I' J', p x I' J' → WW X (pc + 3) lv (kL x :: st) I' J' R S uc us) : WW X pc lv (a2 :: a1 :: kR (some b) :: st) I J R S uc us :=
  ww_callV hX (av := [a1, a2]) hsi hbs hM rfl hd1 hc hs hcat hd (fun r I' J' R' S' h => by obtain ⟨x, rfl, rfl, rfl, h⟩ := h; exact kk x I' J' h)
theorem vV2 (hX : aK l0 X cc nL own rt d mc ms) {idx ci b nb d' : Nat} {M : aM} {a1 a2 : aV} {p : aI1 → aI1 → Prop} (hsi : aSV own idx M 2 ci) (hbs : S[b]? = some (ci + 6, nb)) (hM : CT l0 d' 0 0 M [kR (some b), a1, a2] I J R S (cV p R S)) (hd1 : d' + 1 ≤ d) (hc : uc ≤ mc) (hs : us ≤ ms) (hcat : aCat st ≤ 8) (hd : decode cc pc = .ok (.invokevirtual idx, 3)) (kk : ∀ I' J', p I' J' → WW X (pc + 3) lv st I' J' R S uc us) : WW X pc lv (a2 :: a1 :: kR (some b) :: st) I J R S uc us :=
  ww_callV hX (av := [a1, a2]) hsi hbs hM rfl hd1 hc hs hcat hd (fun r I' J' R' S' h => by obtain ⟨rfl, rfl, rfl, h⟩ := h; exact kk I' J' h)
theorem vI3 (hX : aK l0 X cc nL own rt d mc ms) {idx ci b nb d' : Nat} {M : aM} {a1 a2 a3 : aV} {p : Int → aI1 → aI1 → Prop} (hsi : aSV own idx M 3 ci) (hbs : S[b]? = some (ci + 6, nb)) (hM : CT l0 d' 0 0 M [kR (some b), a1, a2, a3] I J R S (cI p R S)) (hd1 : d' + 1 ≤ d) (hc : uc ≤ mc) (hs : us ≤ ms) (hcat : aCat st ≤ 8) (hd : decode cc pc = .ok (.invokevirtual idx, 3)) (kk : ∀ x I' J', p x I' J' → WW X (pc + 3) lv (kI x :: st) I' J' R S uc us) : WW X pc lv (a3 :: a2 :: a1 :: kR (some b) :: st) I J R S uc us :=
  ww_callV hX (av := [a1, a2, a3]) hsi hbs hM rfl hd1 hc hs hcat hd (fun r I' J' R' S' h => by obtain ⟨x, rfl, rfl, rfl, h⟩ := h; exact kk x I' J' h)
theorem vJ3 (hX : aK l0 X cc nL own rt d mc ms) {idx ci b nb d' : Nat} {M : aM} {a1 a2 a3 : aV} {p : Int → aI1 → aI1 → Prop} (hsi : aSV own idx M 3 ci) (hbs : S[b]? = some (ci + 6, nb)) (hM : CT l0 d' 0 0 M [kR (some b), a1, a2, a3] I J R S (cJ p R S)) (hd1 : d' + 1 ≤ d) (hc : uc ≤ mc) (hs : us ≤ ms) (hcat : aCat st ≤ 8) (hd : decode cc pc = .ok (.invokevirtual idx, 3)) (kk : ∀ x I' J', p x I' J' → WW X (pc + 3) lv (kL x :: st) I' J' R S uc us) : WW X pc lv (a3 :: a2 :: a1 :: kR (some b) :: st) I J R S uc us :=
  ww_callV hX (av := [a1, a2, a3]) hsi hbs hM rfl hd1 hc hs hcat hd (fun r I' J' R' S' h => by obtain ⟨x, rfl, rfl, rfl, h⟩ := h; exact kk x I' J' h)
theorem vV3 (hX : aK l0 X cc nL own rt d mc ms) {idx ci b nb d' : Nat} {M : aM} {a1 a2 a3 : aV} {p : aI1 → aI1 → Prop} (hsi : aSV own idx M 3 ci) (hbs : S[b]? = some (ci + 6, nb)) (hM : CT l0 d' 0 0 M [kR (some b), a1, a2, a3] I J R S (cV p R S)) (hd1 : d' + 1 ≤ d) (hc : uc ≤ mc) (hs : us ≤ ms) (hcat : aCat st ≤ 8) (hd : decode cc pc = .ok (.invokevirtual idx, 3)) (kk : ∀ I' J', p I' J' → WW X (pc + 3) lv st I' J' R S uc us) : WW X pc lv (a3 :: a2 :: a1 :: kR (some b) :: st) I J R S uc us :=
  ww_callV hX (av := [a1, a2, a3]) hsi hbs hM rfl hd1 hc hs hcat hd (fun r I' J' R' S' h => by obtain ⟨rfl, rfl, rfl, h⟩ := h; exact kk I' J' h)
theorem vI4 (hX : aK l0 X cc nL own rt d mc ms) {idx ci b nb d' : Nat} {M : aM} {a1 a2 a3 a4 : aV} {p : Int → aI1 → aI1 → Prop} (hsi : aSV own idx M 4 ci) (hbs : S[b]? = some (ci + 6, nb)) (hM : CT l0 d' 0 0 M [kR (some b), a1, a2, a3, a4] I J R S (cI p R S)) (hd1 : d' + 1 ≤ d) (hc : uc ≤ mc) (hs : us ≤ ms) (hcat : aCat st ≤ 8) (hd : decode cc pc = .ok (.invokevirtual idx, 3)) (kk : ∀ x I' J', p x I' J' → WW X (pc + 3) lv (kI x :: st) I' J' R S uc us) : WW X pc lv (a4 :: a3 :: a2 :: a1 :: kR (some b) :: st) I J R S uc us :=
  ww_callV hX (av := [a1, a2, a3, a4]) hsi hbs hM rfl hd1 hc hs hcat hd (fun r I' J' R' S' h => by obtain ⟨x, rfl, rfl, rfl, h⟩ := h; exact kk x I' J' h)
theorem vV4 (hX : aK l0 X cc nL own rt d mc ms) {idx ci b nb d' : Nat} {M : aM} {a1 a2 a3 a4 : aV} {p : aI1 → aI1 → Prop} (hsi : aSV own idx M 4 ci) (hbs : S[b]? = some (ci + 6, nb)) (hM : CT l0 d' 0 0 M [kR (some b), a1, a2, a3, a4] I J R S (cV p R S)) (hd1 : d' + 1 ≤ d) (hc : uc ≤ mc) (hs : us ≤ ms) (hcat : aCat st ≤ 8) (hd : decode cc pc = .ok (.invokevirtual idx, 3)) (kk : ∀ I' J', p I' J' → WW X (pc + 3) lv st I' J' R S uc us) : WW X pc lv (a4 :: a3 :: a2 :: a1 :: kR (some b) :: st) I J R S uc us :=
  ww_callV hX (av := [a1, a2, a3, a4]) hsi hbs hM rfl hd1 hc hs hcat hd (fun r I' J' R' S' h => by obtain ⟨rfl, rfl, rfl, h⟩ := h; exact kk I' J' h)
theorem vI5 (hX : aK l0 X cc nL own rt d mc ms) {idx ci b nb d' : Nat} {M : aM} {a1 a2 a3 a4 a5 : aV} {p : Int → aI1 → aI1 → Prop} (hsi : aSV own idx M 5 ci) (hbs : S[b]? = some (ci + 6, nb)) (hM : CT l0 d' 0 0 M [kR (some b), a1, a2, a3, a4, a5] I J R S (cI p R S)) (hd1 : d' + 1 ≤ d) (hc : uc ≤ mc) (hs : us ≤ ms) (hcat : aCat st ≤ 8) (hd : decode cc pc = .ok (.invokevirtual idx, 3)) (kk : ∀ x I' J', p x I' J' → WW X (pc + 3) lv (kI x :: st) I' J' R S uc us) : WW X pc lv (a5 :: a4 :: a3 :: a2 :: a1 :: kR (some b) :: st) I J R S uc us :=
  ww_callV hX (av := [a1, a2, a3, a4, a5]) hsi hbs hM rfl hd1 hc hs hcat hd (fun r I' J' R' S' h => by obtain ⟨x, rfl, rfl, rfl, h⟩ := h; exact kk x I' J' h)
theorem vJ5 (hX : aK l0 X cc nL own rt d mc ms) {idx ci b nb d' : Nat} {M : aM} {a1 a2 a3 a4 a5 : aV} {p : Int → aI1 → aI1 → Prop} (hsi : aSV own idx M 5 ci) (hbs : S[b]? = some (ci + 6, nb)) (hM : CT l0 d' 0 0 M [kR (some b), a1, a2, a3, a4, a5] I J R S (cJ p R S)) (hd1 : d' + 1 ≤ d) (hc : uc ≤ mc) (hs : us ≤ ms) (hcat : aCat st ≤ 8) (hd : decode cc pc = .ok (.invokevirtual idx, 3)) (kk : ∀ x I' J', p x I' J' → WW X (pc + 3) lv (kL x :: st) I' J' R S uc us) : WW X pc lv (a5 :: a4 :: a3 :: a2 :: a1 :: kR (some b) :: st) I J R S uc us :=
  ww_callV hX (av := [a1, a2, a3, a4, a5]) hsi hbs hM rfl hd1 hc hs hcat hd (fun r I' J' R' S' h => by obtain ⟨x, rfl, rfl, rfl, h⟩ := h; exact kk x I' J' h)
theorem vV5 (hX : aK l0 X cc nL own rt d mc ms) {idx ci b nb d' : Nat} {M : aM} {a1 a2 a3 a4 a5 : aV} {p : aI1 → aI1 → Prop} (hsi : aSV own idx M 5 ci) (hbs : S[b]? = some (ci + 6, nb)) (hM : CT l0 d' 0 0 M [kR (some b), a1, a2, a3, a4, a5] I J R S (cV p R S)) (hd1 : d' + 1 ≤ d) (hc : uc ≤ mc) (hs : us ≤ ms) (hcat : aCat st ≤ 8) (hd : decode cc pc = .ok (.invokevirtual idx, 3)) (kk : ∀ I' J', p I' J' → WW X (pc + 3) lv st I' J' R S uc us) : WW X pc lv (a5 :: a4 :: a3 :: a2 :: a1 :: kR (some b) :: st) I J R S uc us :=
  ww_callV hX (av := [a1, a2, a3, a4, a5]) hsi hbs hM rfl hd1 hc hs hcat hd (fun r I' J' R' S' h => by obtain ⟨rfl, rfl, rfl, h⟩ := h; exact kk I' J' h)
theorem sI1 (hX : aK l0 X cc nL own rt d mc ms) {idx d' : Nat} {M : aM} {a1 : aV} {p : Int → aI1 → aI1 → Prop} (hsi : aSS own idx M 1) (hM : CT l0 d' 0 0 M [a1] I J R S (cI p R S)) (hd1 : d' + 1 ≤ d) (hc : uc ≤ mc) (hs : us ≤ ms) (hcat : aCat st ≤ 8) (hd : decode cc pc = .ok (.invokestatic idx, 3)) (kk : ∀ x I' J', p x I' J' → WW X (pc + 3) lv (kI x :: st) I' J' R S uc us) : WW X pc lv (a1 :: st) I J R S uc us :=
  ww_callS hX (av := [a1]) hsi hM rfl hd1 hc hs hcat hd (fun r I' J' R' S' h => by obtain ⟨x, rfl, rfl, rfl, h⟩ := h; exact kk x I' J' h)
theorem sI2 (hX : aK l0 X cc nL own rt d mc ms) {idx d' : Nat} {M : aM} {a1 a2 : aV} {p : Int → aI1 → aI1 → Prop} (hsi : aSS own idx M 2) (hM : CT l0 d' 0 0 M [a1, a2] I J R S (cI p R S)) (hd1 : d' + 1 ≤ d) (hc : uc ≤ mc) (hs : us ≤ ms) (hcat : aCat st ≤ 8) (hd : decode cc pc = .ok (.invokestatic idx, 3)) (kk : ∀ x I' J', p x I' J' → WW X (pc + 3) lv (kI x :: st) I' J' R S uc us) : WW X pc lv (a2 :: a1 :: st) I J R S uc us :=
  ww_callS hX (av := [a1, a2]) hsi hM rfl hd1 hc hs hcat hd (fun r I' J' R' S' h => by obtain ⟨x, rfl, rfl, rfl, h⟩ := h; exact kk x I' J' h)
theorem sJ2 (hX : aK l0 X cc nL own rt d mc ms) {idx d' : Nat} {M : aM} {a1 a2 : aV} {p : Int → aI1 → aI1 → Prop} (hsi : aSS own idx M 2) (hM : CT l0 d' 0 0 M [a1, a2] I J R S (cJ p R S)) (hd1 : d' + 1 ≤ d) (hc : uc ≤ mc) (hs : us ≤ ms) (hcat : aCat st ≤ 8) (hd : decode cc pc = .ok (.invokestatic idx, 3)) (kk : ∀ x I' J', p x I' J' → WW X (pc + 3) lv (kL x :: st) I' J' R S uc us) : WW X pc lv (a2 :: a1 :: st) I J R S uc us :=
  ww_callS hX (av := [a1, a2]) hsi hM rfl hd1 hc hs hcat hd (fun r I' J' R' S' h => by obtain ⟨x, rfl, rfl, rfl, h⟩ := h; exact kk x I' J' h)
theorem sV2 (hX : aK l0 X cc nL own rt d mc ms) {idx d' : Nat} {M : aM} {a1 a2 : aV} {p : aI1 → aI1 → Prop} (hsi : aSS own idx M 2) (hM : CT l0 d' 0 0 M [a1, a2] I J R S (cV p R S)) (hd1 : d' + 1 ≤ d) (hc : uc ≤ mc) (hs : us ≤ ms) (hcat : aCat st ≤ 8) (hd : decode cc pc = .ok (.invokestatic idx, 3)) (kk : ∀ I' J', p I' J' → WW X (pc + 3) lv st I' J' R S uc us) : WW X pc lv (a2 :: a1 :: st) I J R S uc us :=
  ww_callS hX (av := [a1, a2]) hsi hM rfl hd1 hc hs hcat hd (fun r I' J' R' S' h => by obtain ⟨rfl, rfl, rfl, h⟩ := h; exact kk I' J' h)
theorem sI3 (hX : aK l0 X cc nL own rt d mc ms) {idx d' : Nat} {M : aM} {a1 a2 a3 : aV} {p : Int → aI1 → aI1 → Prop} (hsi : aSS own idx M 3) (hM : CT l0 d' 0 0 M [a1, a2, a3] I J R S (cI p R S)) (hd1 : d' + 1 ≤ d) (hc : uc ≤ mc) (hs : us ≤ ms) (hcat : aCat st ≤ 8) (hd : decode cc pc = .ok (.invokestatic idx, 3)) (kk : ∀ x I' J', p x I' J' → WW X (pc + 3) lv (kI x :: st) I' J' R S uc us) : WW X pc lv (a3 :: a2 :: a1 :: st) I J R S uc us :=
  ww_callS hX (av := [a1, a2, a3]) hsi hM rfl hd1 hc hs hcat hd (fun r I' J' R' S' h => by obtain ⟨x, rfl, rfl, rfl, h⟩ := h; exact kk x I' J' h)
theorem sV3 (hX : aK l0 X cc nL own rt d mc ms) {idx d' : Nat} {M : aM} {a1 a2 a3 : aV} {p : aI1 → aI1 → Prop} (hsi : aSS own idx M 3) (hM : CT l0 d' 0 0 M [a1, a2, a3] I J R S (cV p R S)) (hd1 : d' + 1 ≤ d) (hc : uc ≤ mc) (hs : us ≤ ms) (hcat : aCat st ≤ 8) (hd : decode cc pc = .ok (.invokestatic idx, 3)) (kk : ∀ I' J', p I' J' → WW X (pc + 3) lv st I' J' R S uc us) : WW X pc lv (a3 :: a2 :: a1 :: st) I J R S uc us :=
  ww_callS hX (av := [a1, a2, a3]) hsi hM rfl hd1 hc hs hcat hd (fun r I' J' R' S' h => by obtain ⟨rfl, rfl, rfl, h⟩ := h; exact kk I' J' h)
theorem sV4 (hX : aK l0 X cc nL own rt d mc ms) {idx d' : Nat} {M : aM} {a1 a2 a3 a4 : aV} {p : aI1 → aI1 → Prop} (hsi : aSS own idx M 4) (hM : CT l0 d' 0 0 M [a1, a2, a3, a4] I J R S (cV p R S)) (hd1 : d' + 1 ≤ d) (hc : uc ≤ mc) (hs : us ≤ ms) (hcat : aCat st ≤ 8) (hd : decode cc pc = .ok (.invokestatic idx, 3)) (kk : ∀ I' J', p I' J' → WW X (pc + 3) lv st I' J' R S uc us) : WW X pc lv (a4 :: a3 :: a2 :: a1 :: st) I J R S uc us :=
  ww_callS hX (av := [a1, a2, a3, a4]) hsi hM rfl hd1 hc hs hcat hd (fun r I' J' R' S' h => by obtain ⟨rfl, rfl, rfl, h⟩ := h; exact kk I' J' h)
theorem rI (hX : aK l0 X cc nL own (some .int) d mc ms) {p : Int → aI1 → aI1 → Prop} (hT : aT X (cI p R S) mc ms) {x : Int} (hc : uc ≤ mc) (hs : us ≤ ms) (hd : decode cc pc = .ok (.ireturn, 1)) (hp : p x I J) : WW X pc lv [kI x] I J R S uc us :=
  ww_iret hX hT hc hs hd ⟨x, rfl, rfl, rfl, hp⟩
theorem rZ (hX : aK l0 X cc nL own (some .boolean) d mc ms) {p : Int → aI1 → aI1 → Prop} (hT : aT X (cI p R S) mc ms) {x : Int} (hc : uc ≤ mc) (hs : us ≤ ms) (hd : decode cc pc = .ok (.ireturn, 1)) (h01 : x = 0 ∨ x = 1) (hp : p x I J) : WW X pc lv [kI x] I J R S uc us :=
  ww_zret hX hT hc hs hd h01 ⟨x, rfl, rfl, rfl, hp⟩
theorem rJ (hX : aK l0 X cc nL own (some .long) d mc ms) {p : Int → aI1 → aI1 → Prop} (hT : aT X (cJ p R S) mc ms) {x : Int} (hc : uc ≤ mc) (hs : us ≤ ms) (hd : decode cc pc = .ok (.lreturn, 1)) (hp : p x I J) : WW X pc lv [kL x] I J R S uc us :=
  ww_lret hX hT hc hs hd ⟨x, rfl, rfl, rfl, hp⟩
theorem rV (hX : aK l0 X cc nL own none d mc ms) {p : aI1 → aI1 → Prop} (hT : aT X (cV p R S) mc ms) (hc : uc ≤ mc) (hs : us ≤ ms) (hd : decode cc pc = .ok (.return_, 1)) (hp : p I J) : WW X pc lv [] I J R S uc us :=
  ww_vret hX hT hc hs hd ⟨rfl, rfl, rfl, hp⟩
end WC2
end
section
/-! which cell is which: what stands from the two constructors on (0 .. 48 the class, 49 .. 72 the reference) -/
def layR : List (Nat × Nat × Nat) := [(0, 0, 1), (0, 1, 7), (0, 2, 8), (0, 3, 10), (0, 4, 15), (0, 5, 18), (0, 6, 31), (0, 7, 33), (0, 8, 37), (0, 9, 46), (0, 10, 47), (0, 11, 48), (1, 0, 2), (1, 1, 3), (1, 2, 4), (1, 3, 5), (1, 4, 6), (8, 0, 9), (10, 1, 8), (10, 2, 11), (10, 3, 12), (10, 4, 13), (10, 5, 14), (15, 0, 16), (15, 1, 17), (18, 0, 1), (18, 1, 19), (18, 2, 20), (18, 3, 21), (18, 4, 22), (18, 5, 25), (18, 6, 28), (18, 7, 29), (18, 8, 30), (22, 0, 24), (22, 1, 23), (25, 0, 27), (25, 1, 26), (31, 0, 18), (31, 1, 32), (33, 0, 34), (33, 4, 18), (33, 5, 1), (33, 6, 35), (33, 7, 36), (37, 0, 38), (37, 1, 41), (37, 2, 42), (37, 3, 43), (37, 4, 44), (37, 5, 45), (38, 0, 40), (38, 1, 39), (49, 2, 50), (49, 3, 51), (49, 4, 52), (49, 5, 53), (49, 7, 54), (49, 8, 55), (49, 9, 56), (49, 12, 57), (49, 13, 58), (49, 14, 59), (49, 22, 60), (49, 23, 61), (49, 24, 62), (49, 26, 63), (49, 27, 64), (49, 29, 65), (49, 30, 66), (49, 32, 67), (49, 34, 68), (49, 35, 69), (49, 36, 70), (49, 37, 71), (49, 38, 72)]
def layS : List (Nat × Nat × Nat) := [(0, 16, 0), (1, 7, 0), (2, 0, 8), (3, 0, 256), (4, 4, 6), (5, 0, 24), (6, 0, 16), (7, 5, 2), (8, 15, 0), (9, 0, 400), (10, 13, 0), (11, 0, 401), (12, 0, 401), (13, 0, 400), (14, 0, 25), (15, 6, 0), (16, 0, 8), (17, 1, 64), (18, 10, 0), (19, 0, 256), (20, 0, 9), (21, 0, 8), (22, 11, 0), (23, 0, 8), (24, 0, 256), (25, 11, 0), (26, 0, 8), (27, 0, 256), (28, 1, 256), (29, 1, 8), (30, 0, 9), (31, 14, 0), (32, 1, 2304), (33, 9, 0), (34, 0, 16), (35, 1, 256), (36, 0, 256), (37, 8, 0), (38, 11, 0), (39, 0, 8), (40, 0, 8), (41, 0, 8), (42, 0, 8), (43, 0, 36), (44, 0, 288), (45, 3, 9), (46, 0, 30), (47, 0, 24), (48, 0, 7), (49, 17, 0), (50, 0, 7), (51, 0, 5117), (52, 0, 10234), (53, 3, 2), (54, 2, 60), (55, 2, 400), (56, 0, 5), (57, 0, 401), (58, 0, 401), (59, 0, 401), (60, 0, 8), (61, 0, 256), (62, 1, 256), (63, 3, 256), (64, 0, 10), (65, 0, 256), (66, 0, 8), (67, 0, 30), (68, 1, 256), (69, 1, 256), (70, 0, 4352), (71, 0, 4352), (72, 0, 24)]
def LY (R : aR1) (S : aS1) : Prop := (∀ q ∈ layR, R q.1 q.2.1 = some q.2.2) ∧ (∀ q ∈ layS, S[q.1]? = some q.2)
theorem xr_0_0 {R : aR1} {S : aS1} (h : LY R S) : R 0 0 = some 1 := h.1 (0, 0, 1) (List.mem_of_getElem? (i := 0) rfl)
theorem xr_0_1 {R : aR1} {S : aS1} (h : LY R S) : R 0 1 = some 7 := h.1 (0, 1, 7) (List.mem_of_getElem? (i := 1) rfl)
theorem xr_0_2 {R : aR1} {S : aS1} (h : LY R S) : R 0 2 = some 8 := h.1 (0, 2, 8) (List.mem_of_getElem? (i := 2) rfl)
theorem xr_0_3 {R : aR1} {S : aS1} (h : LY R S) : R 0 3 = some 10 := h.1 (0, 3, 10) (List.mem_of_getElem? (i := 3) rfl)
theorem xr_0_4 {R : aR1} {S : aS1} (h : LY R S) : R 0 4 = some 15 := h.1 (0, 4, 15) (List.mem_of_getElem? (i := 4) rfl)
theorem xr_0_5 {R : aR1} {S : aS1} (h : LY R S) : R 0 5 = some 18 := h.1 (0, 5, 18) (List.mem_of_getElem? (i := 5) rfl)
theorem xr_0_6 {R : aR1} {S : aS1} (h : LY R S) : R 0 6 = some 31 := h.1 (0, 6, 31) (List.mem_of_getElem? (i := 6) rfl)
theorem xr_0_7 {R : aR1} {S : aS1} (h : LY R S) : R 0 7 = some 33 := h.1 (0, 7, 33) (List.mem_of_getElem? (i := 7) rfl)
theorem xr_0_8 {R : aR1} {S : aS1} (h : LY R S) : R 0 8 = some 37 := h.1 (0, 8, 37) (List.mem_of_getElem? (i := 8) rfl)
theorem xr_0_9 {R : aR1} {S : aS1} (h : LY R S) : R 0 9 = some 46 := h.1 (0, 9, 46) (List.mem_of_getElem? (i := 9) rfl)
theorem xr_0_10 {R : aR1} {S : aS1} (h : LY R S) : R 0 10 = some 47 := h.1 (0, 10, 47) (List.mem_of_getElem? (i := 10) rfl)
theorem xr_0_11 {R : aR1} {S : aS1} (h : LY R S) : R 0 11 = some 48 := h.1 (0, 11, 48) (List.mem_of_getElem? (i := 11) rfl)
theorem xr_1_0 {R : aR1} {S : aS1} (h : LY R S) : R 1 0 = some 2 := h.1 (1, 0, 2) (List.mem_of_getElem? (i := 12) rfl)
theorem xr_1_1 {R : aR1} {S : aS1} (h : LY R S) : R 1 1 = some 3 := h.1 (1, 1, 3) (List.mem_of_getElem? (i := 13) rfl)
theorem xr_1_2 {R : aR1} {S : aS1} (h : LY R S) : R 1 2 = some 4 := h.1 (1, 2, 4) (List.mem_of_getElem? (i := 14) rfl)
theorem xr_1_3 {R : aR1} {S : aS1} (h : LY R S) : R 1 3 = some 5 := h.1 (1, 3, 5) (List.mem_of_getElem? (i := 15) rfl)
theorem xr_1_4 {R : aR1} {S : aS1} (h : LY R S) : R 1 4 = some 6 := h.1 (1, 4, 6) (List.mem_of_getElem? (i := 16) rfl)
theorem xr_8_0 {R : aR1} {S : aS1} (h : LY R S) : R 8 0 = some 9 := h.1 (8, 0, 9) (List.mem_of_getElem? (i := 17) rfl)
theorem xr_10_1 {R : aR1} {S : aS1} (h : LY R S) : R 10 1 = some 8 := h.1 (10, 1, 8) (List.mem_of_getElem? (i := 18) rfl)
theorem xr_10_2 {R : aR1} {S : aS1} (h : LY R S) : R 10 2 = some 11 := h.1 (10, 2, 11) (List.mem_of_getElem? (i := 19) rfl)
theorem xr_10_3 {R : aR1} {S : aS1} (h : LY R S) : R 10 3 = some 12 := h.1 (10, 3, 12) (List.mem_of_getElem? (i := 20) rfl)
theorem xr_10_4 {R : aR1} {S : aS1} (h : LY R S) : R 10 4 = some 13 := h.1 (10, 4, 13) (List.mem_of_getElem? (i := 21) rfl)
theorem xr_10_5 {R : aR1} {S : aS1} (h : LY R S) : R 10 5 = some 14 := h.1 (10, 5, 14) (List.mem_of_getElem? (i := 22) rfl)
theorem xr_15_0 {R : aR1} {S : aS1} (h : LY R S) : R 15 0 = some 16 := h.1 (15, 0, 16) (List.mem_of_getElem? (i := 23) rfl)
theorem xr_15_1 {R : aR1} {S : aS1} (h : LY R S) : R 15 1 = some 17 := h.1 (15, 1, 17) (List.mem_of_getElem? (i := 24) rfl)
theorem xr_18_0 {R : aR1} {S : aS1} (h : LY R S) : R 18 0 = some 1 := h.1 (18, 0, 1) (List.mem_of_getElem? (i := 25) rfl)
theorem xr_18_1 {R : aR1} {S : aS1} (h : LY R S) : R 18 1 = some 19 := h.1 (18, 1, 19) (List.mem_of_getElem? (i := 26) rfl)
theorem xr_18_2 {R : aR1} {S : aS1} (h : LY R S) : R 18 2 = some 20 := h.1 (18, 2, 20) (List.mem_of_getElem? (i := 27) rfl)
theorem xr_18_3 {R : aR1} {S : aS1} (h : LY R S) : R 18 3 = some 21 := h.1 (18, 3, 21) (List.mem_of_getElem? (i := 28) rfl)
theorem xr_18_4 {R : aR1} {S : aS1} (h : LY R S) : R 18 4 = some 22 := h.1 (18, 4, 22) (List.mem_of_getElem? (i := 29) rfl)
theorem xr_18_5 {R : aR1} {S : aS1} (h : LY R S) : R 18 5 = some 25 := h.1 (18, 5, 25) (List.mem_of_getElem? (i := 30) rfl)
theorem xr_18_6 {R : aR1} {S : aS1} (h : LY R S) : R 18 6 = some 28 := h.1 (18, 6, 28) (List.mem_of_getElem? (i := 31) rfl)
theorem xr_18_7 {R : aR1} {S : aS1} (h : LY R S) : R 18 7 = some 29 := h.1 (18, 7, 29) (List.mem_of_getElem? (i := 32) rfl)
theorem xr_18_8 {R : aR1} {S : aS1} (h : LY R S) : R 18 8 = some 30 := h.1 (18, 8, 30) (List.mem_of_getElem? (i := 33) rfl)
theorem xr_22_0 {R : aR1} {S : aS1} (h : LY R S) : R 22 0 = some 24 := h.1 (22, 0, 24) (List.mem_of_getElem? (i := 34) rfl)
theorem xr_22_1 {R : aR1} {S : aS1} (h : LY R S) : R 22 1 = some 23 := h.1 (22, 1, 23) (List.mem_of_getElem? (i := 35) rfl)
theorem xr_25_0 {R : aR1} {S : aS1} (h : LY R S) : R 25 0 = some 27 := h.1 (25, 0, 27) (List.mem_of_getElem? (i := 36) rfl)
theorem xr_25_1 {R : aR1} {S : aS1} (h : LY R S) : R 25 1 = some 26 := h.1 (25, 1, 26) (List.mem_of_getElem? (i := 37) rfl)
theorem xr_31_0 {R : aR1} {S : aS1} (h : LY R S) : R 31 0 = some 18 := h.1 (31, 0, 18) (List.mem_of_getElem? (i := 38) rfl)
theorem xr_31_1 {R : aR1} {S : aS1} (h : LY R S) : R 31 1 = some 32 := h.1 (31, 1, 32) (List.mem_of_getElem? (i := 39) rfl)
theorem xr_33_0 {R : aR1} {S : aS1} (h : LY R S) : R 33 0 = some 34 := h.1 (33, 0, 34) (List.mem_of_getElem? (i := 40) rfl)
theorem xr_33_4 {R : aR1} {S : aS1} (h : LY R S) : R 33 4 = some 18 := h.1 (33, 4, 18) (List.mem_of_getElem? (i := 41) rfl)
theorem xr_33_5 {R : aR1} {S : aS1} (h : LY R S) : R 33 5 = some 1 := h.1 (33, 5, 1) (List.mem_of_getElem? (i := 42) rfl)
theorem xr_33_6 {R : aR1} {S : aS1} (h : LY R S) : R 33 6 = some 35 := h.1 (33, 6, 35) (List.mem_of_getElem? (i := 43) rfl)
theorem xr_33_7 {R : aR1} {S : aS1} (h : LY R S) : R 33 7 = some 36 := h.1 (33, 7, 36) (List.mem_of_getElem? (i := 44) rfl)
theorem xr_37_0 {R : aR1} {S : aS1} (h : LY R S) : R 37 0 = some 38 := h.1 (37, 0, 38) (List.mem_of_getElem? (i := 45) rfl)
theorem xr_37_1 {R : aR1} {S : aS1} (h : LY R S) : R 37 1 = some 41 := h.1 (37, 1, 41) (List.mem_of_getElem? (i := 46) rfl)
theorem xr_37_2 {R : aR1} {S : aS1} (h : LY R S) : R 37 2 = some 42 := h.1 (37, 2, 42) (List.mem_of_getElem? (i := 47) rfl)
theorem xr_37_3 {R : aR1} {S : aS1} (h : LY R S) : R 37 3 = some 43 := h.1 (37, 3, 43) (List.mem_of_getElem? (i := 48) rfl)
theorem xr_37_4 {R : aR1} {S : aS1} (h : LY R S) : R 37 4 = some 44 := h.1 (37, 4, 44) (List.mem_of_getElem? (i := 49) rfl)
theorem xr_37_5 {R : aR1} {S : aS1} (h : LY R S) : R 37 5 = some 45 := h.1 (37, 5, 45) (List.mem_of_getElem? (i := 50) rfl)
theorem xr_38_0 {R : aR1} {S : aS1} (h : LY R S) : R 38 0 = some 40 := h.1 (38, 0, 40) (List.mem_of_getElem? (i := 51) rfl)
theorem xr_38_1 {R : aR1} {S : aS1} (h : LY R S) : R 38 1 = some 39 := h.1 (38, 1, 39) (List.mem_of_getElem? (i := 52) rfl)
theorem xr_49_2 {R : aR1} {S : aS1} (h : LY R S) : R 49 2 = some 50 := h.1 (49, 2, 50) (List.mem_of_getElem? (i := 53) rfl)
theorem xr_49_3 {R : aR1} {S : aS1} (h : LY R S) : R 49 3 = some 51 := h.1 (49, 3, 51) (List.mem_of_getElem? (i := 54) rfl)
theorem xr_49_4 {R : aR1} {S : aS1} (h : LY R S) : R 49 4 = some 52 := h.1 (49, 4, 52) (List.mem_of_getElem? (i := 55) rfl)
theorem xr_49_5 {R : aR1} {S : aS1} (h : LY R S) : R 49 5 = some 53 := h.1 (49, 5, 53) (List.mem_of_getElem? (i := 56) rfl)
theorem xr_49_7 {R : aR1} {S : aS1} (h : LY R S) : R 49 7 = some 54 := h.1 (49, 7, 54) (List.mem_of_getElem? (i := 57) rfl)
theorem xr_49_8 {R : aR1} {S : aS1} (h : LY R S) : R 49 8 = some 55 := h.1 (49, 8, 55) (List.mem_of_getElem? (i := 58) rfl)
theorem xr_49_9 {R : aR1} {S : aS1} (h : LY R S) : R 49 9 = some 56 := h.1 (49, 9, 56) (List.mem_of_getElem? (i := 59) rfl)
theorem xr_49_12 {R : aR1} {S : aS1} (h : LY R S) : R 49 12 = some 57 := h.1 (49, 12, 57) (List.mem_of_getElem? (i := 60) rfl)
theorem xr_49_13 {R : aR1} {S : aS1} (h : LY R S) : R 49 13 = some 58 := h.1 (49, 13, 58) (List.mem_of_getElem? (i := 61) rfl)
theorem xr_49_14 {R : aR1} {S : aS1} (h : LY R S) : R 49 14 = some 59 := h.1 (49, 14, 59) (List.mem_of_getElem? (i := 62) rfl)
theorem xr_49_22 {R : aR1} {S : aS1} (h : LY R S) : R 49 22 = some 60 := h.1 (49, 22, 60) (List.mem_of_getElem? (i := 63) rfl)
theorem xr_49_23 {R : aR1} {S : aS1} (h : LY R S) : R 49 23 = some 61 := h.1 (49, 23, 61) (List.mem_of_getElem? (i := 64) rfl)
theorem xr_49_24 {R : aR1} {S : aS1} (h : LY R S) : R 49 24 = some 62 := h.1 (49, 24, 62) (List.mem_of_getElem? (i := 65) rfl)
theorem xr_49_26 {R : aR1} {S : aS1} (h : LY R S) : R 49 26 = some 63 := h.1 (49, 26, 63) (List.mem_of_getElem? (i := 66) rfl)
theorem xr_49_27 {R : aR1} {S : aS1} (h : LY R S) : R 49 27 = some 64 := h.1 (49, 27, 64) (List.mem_of_getElem? (i := 67) rfl)
theorem xr_49_29 {R : aR1} {S : aS1} (h : LY R S) : R 49 29 = some 65 := h.1 (49, 29, 65) (List.mem_of_getElem? (i := 68) rfl)
theorem xr_49_30 {R : aR1} {S : aS1} (h : LY R S) : R 49 30 = some 66 := h.1 (49, 30, 66) (List.mem_of_getElem? (i := 69) rfl)
theorem xr_49_32 {R : aR1} {S : aS1} (h : LY R S) : R 49 32 = some 67 := h.1 (49, 32, 67) (List.mem_of_getElem? (i := 70) rfl)
theorem xr_49_34 {R : aR1} {S : aS1} (h : LY R S) : R 49 34 = some 68 := h.1 (49, 34, 68) (List.mem_of_getElem? (i := 71) rfl)
theorem xr_49_35 {R : aR1} {S : aS1} (h : LY R S) : R 49 35 = some 69 := h.1 (49, 35, 69) (List.mem_of_getElem? (i := 72) rfl)
theorem xr_49_36 {R : aR1} {S : aS1} (h : LY R S) : R 49 36 = some 70 := h.1 (49, 36, 70) (List.mem_of_getElem? (i := 73) rfl)
theorem xr_49_37 {R : aR1} {S : aS1} (h : LY R S) : R 49 37 = some 71 := h.1 (49, 37, 71) (List.mem_of_getElem? (i := 74) rfl)
theorem xr_49_38 {R : aR1} {S : aS1} (h : LY R S) : R 49 38 = some 72 := h.1 (49, 38, 72) (List.mem_of_getElem? (i := 75) rfl)
theorem xs_0 {R : aR1} {S : aS1} (h : LY R S) : S[0]? = some (16, 0) := h.2 (0, 16, 0) (List.mem_of_getElem? (i := 0) rfl)
theorem xs_1 {R : aR1} {S : aS1} (h : LY R S) : S[1]? = some (7, 0) := h.2 (1, 7, 0) (List.mem_of_getElem? (i := 1) rfl)
theorem xs_2 {R : aR1} {S : aS1} (h : LY R S) : S[2]? = some (0, 8) := h.2 (2, 0, 8) (List.mem_of_getElem? (i := 2) rfl)
theorem xs_3 {R : aR1} {S : aS1} (h : LY R S) : S[3]? = some (0, 256) := h.2 (3, 0, 256) (List.mem_of_getElem? (i := 3) rfl)
theorem xs_4 {R : aR1} {S : aS1} (h : LY R S) : S[4]? = some (4, 6) := h.2 (4, 4, 6) (List.mem_of_getElem? (i := 4) rfl)
theorem xs_5 {R : aR1} {S : aS1} (h : LY R S) : S[5]? = some (0, 24) := h.2 (5, 0, 24) (List.mem_of_getElem? (i := 5) rfl)
theorem xs_6 {R : aR1} {S : aS1} (h : LY R S) : S[6]? = some (0, 16) := h.2 (6, 0, 16) (List.mem_of_getElem? (i := 6) rfl)
theorem xs_7 {R : aR1} {S : aS1} (h : LY R S) : S[7]? = some (5, 2) := h.2 (7, 5, 2) (List.mem_of_getElem? (i := 7) rfl)
theorem xs_8 {R : aR1} {S : aS1} (h : LY R S) : S[8]? = some (15, 0) := h.2 (8, 15, 0) (List.mem_of_getElem? (i := 8) rfl)
theorem xs_9 {R : aR1} {S : aS1} (h : LY R S) : S[9]? = some (0, 400) := h.2 (9, 0, 400) (List.mem_of_getElem? (i := 9) rfl)
theorem xs_10 {R : aR1} {S : aS1} (h : LY R S) : S[10]? = some (13, 0) := h.2 (10, 13, 0) (List.mem_of_getElem? (i := 10) rfl)
theorem xs_11 {R : aR1} {S : aS1} (h : LY R S) : S[11]? = some (0, 401) := h.2 (11, 0, 401) (List.mem_of_getElem? (i := 11) rfl)
theorem xs_12 {R : aR1} {S : aS1} (h : LY R S) : S[12]? = some (0, 401) := h.2 (12, 0, 401) (List.mem_of_getElem? (i := 12) rfl)
theorem xs_13 {R : aR1} {S : aS1} (h : LY R S) : S[13]? = some (0, 400) := h.2 (13, 0, 400) (List.mem_of_getElem? (i := 13) rfl)
theorem xs_14 {R : aR1} {S : aS1} (h : LY R S) : S[14]? = some (0, 25) := h.2 (14, 0, 25) (List.mem_of_getElem? (i := 14) rfl)
theorem xs_15 {R : aR1} {S : aS1} (h : LY R S) : S[15]? = some (6, 0) := h.2 (15, 6, 0) (List.mem_of_getElem? (i := 15) rfl)
theorem xs_16 {R : aR1} {S : aS1} (h : LY R S) : S[16]? = some (0, 8) := h.2 (16, 0, 8) (List.mem_of_getElem? (i := 16) rfl)
theorem xs_17 {R : aR1} {S : aS1} (h : LY R S) : S[17]? = some (1, 64) := h.2 (17, 1, 64) (List.mem_of_getElem? (i := 17) rfl)
theorem xs_18 {R : aR1} {S : aS1} (h : LY R S) : S[18]? = some (10, 0) := h.2 (18, 10, 0) (List.mem_of_getElem? (i := 18) rfl)
theorem xs_19 {R : aR1} {S : aS1} (h : LY R S) : S[19]? = some (0, 256) := h.2 (19, 0, 256) (List.mem_of_getElem? (i := 19) rfl)
theorem xs_20 {R : aR1} {S : aS1} (h : LY R S) : S[20]? = some (0, 9) := h.2 (20, 0, 9) (List.mem_of_getElem? (i := 20) rfl)
theorem xs_21 {R : aR1} {S : aS1} (h : LY R S) : S[21]? = some (0, 8) := h.2 (21, 0, 8) (List.mem_of_getElem? (i := 21) rfl)
theorem xs_22 {R : aR1} {S : aS1} (h : LY R S) : S[22]? = some (11, 0) := h.2 (22, 11, 0) (List.mem_of_getElem? (i := 22) rfl)
theorem xs_23 {R : aR1} {S : aS1} (h : LY R S) : S[23]? = some (0, 8) := h.2 (23, 0, 8) (List.mem_of_getElem? (i := 23) rfl)
theorem xs_24 {R : aR1} {S : aS1} (h : LY R S) : S[24]? = some (0, 256) := h.2 (24, 0, 256) (List.mem_of_getElem? (i := 24) rfl)
theorem xs_25 {R : aR1} {S : aS1} (h : LY R S) : S[25]? = some (11, 0) := h.2 (25, 11, 0) (List.mem_of_getElem? (i := 25) rfl)
theorem xs_26 {R : aR1} {S : aS1} (h : LY R S) : S[26]? = some (0, 8) := h.2 (26, 0, 8) (List.mem_of_getElem? (i := 26) rfl)
theorem xs_27 {R : aR1} {S : aS1} (h : LY R S) : S[27]? = some (0, 256) := h.2 (27, 0, 256) (List.mem_of_getElem? (i := 27) rfl)
theorem xs_28 {R : aR1} {S : aS1} (h : LY R S) : S[28]? = some (1, 256) := h.2 (28, 1, 256) (List.mem_of_getElem? (i := 28) rfl)
theorem xs_29 {R : aR1} {S : aS1} (h : LY R S) : S[29]? = some (1, 8) := h.2 (29, 1, 8) (List.mem_of_getElem? (i := 29) rfl)
theorem xs_30 {R : aR1} {S : aS1} (h : LY R S) : S[30]? = some (0, 9) := h.2 (30, 0, 9) (List.mem_of_getElem? (i := 30) rfl)
theorem xs_31 {R : aR1} {S : aS1} (h : LY R S) : S[31]? = some (14, 0) := h.2 (31, 14, 0) (List.mem_of_getElem? (i := 31) rfl)
theorem xs_32 {R : aR1} {S : aS1} (h : LY R S) : S[32]? = some (1, 2304) := h.2 (32, 1, 2304) (List.mem_of_getElem? (i := 32) rfl)
theorem xs_33 {R : aR1} {S : aS1} (h : LY R S) : S[33]? = some (9, 0) := h.2 (33, 9, 0) (List.mem_of_getElem? (i := 33) rfl)
theorem xs_34 {R : aR1} {S : aS1} (h : LY R S) : S[34]? = some (0, 16) := h.2 (34, 0, 16) (List.mem_of_getElem? (i := 34) rfl)
theorem xs_35 {R : aR1} {S : aS1} (h : LY R S) : S[35]? = some (1, 256) := h.2 (35, 1, 256) (List.mem_of_getElem? (i := 35) rfl)
theorem xs_36 {R : aR1} {S : aS1} (h : LY R S) : S[36]? = some (0, 256) := h.2 (36, 0, 256) (List.mem_of_getElem? (i := 36) rfl)
theorem xs_37 {R : aR1} {S : aS1} (h : LY R S) : S[37]? = some (8, 0) := h.2 (37, 8, 0) (List.mem_of_getElem? (i := 37) rfl)
theorem xs_38 {R : aR1} {S : aS1} (h : LY R S) : S[38]? = some (11, 0) := h.2 (38, 11, 0) (List.mem_of_getElem? (i := 38) rfl)
theorem xs_39 {R : aR1} {S : aS1} (h : LY R S) : S[39]? = some (0, 8) := h.2 (39, 0, 8) (List.mem_of_getElem? (i := 39) rfl)
theorem xs_40 {R : aR1} {S : aS1} (h : LY R S) : S[40]? = some (0, 8) := h.2 (40, 0, 8) (List.mem_of_getElem? (i := 40) rfl)
theorem xs_41 {R : aR1} {S : aS1} (h : LY R S) : S[41]? = some (0, 8) := h.2 (41, 0, 8) (List.mem_of_getElem? (i := 41) rfl)
theorem xs_42 {R : aR1} {S : aS1} (h : LY R S) : S[42]? = some (0, 8) := h.2 (42, 0, 8) (List.mem_of_getElem? (i := 42) rfl)
theorem xs_43 {R : aR1} {S : aS1} (h : LY R S) : S[43]? = some (0, 36) := h.2 (43, 0, 36) (List.mem_of_getElem? (i := 43) rfl)
theorem xs_44 {R : aR1} {S : aS1} (h : LY R S) : S[44]? = some (0, 288) := h.2 (44, 0, 288) (List.mem_of_getElem? (i := 44) rfl)
theorem xs_45 {R : aR1} {S : aS1} (h : LY R S) : S[45]? = some (3, 9) := h.2 (45, 3, 9) (List.mem_of_getElem? (i := 45) rfl)
theorem xs_46 {R : aR1} {S : aS1} (h : LY R S) : S[46]? = some (0, 30) := h.2 (46, 0, 30) (List.mem_of_getElem? (i := 46) rfl)
theorem xs_47 {R : aR1} {S : aS1} (h : LY R S) : S[47]? = some (0, 24) := h.2 (47, 0, 24) (List.mem_of_getElem? (i := 47) rfl)
theorem xs_48 {R : aR1} {S : aS1} (h : LY R S) : S[48]? = some (0, 7) := h.2 (48, 0, 7) (List.mem_of_getElem? (i := 48) rfl)
theorem xs_49 {R : aR1} {S : aS1} (h : LY R S) : S[49]? = some (17, 0) := h.2 (49, 17, 0) (List.mem_of_getElem? (i := 49) rfl)
theorem xs_50 {R : aR1} {S : aS1} (h : LY R S) : S[50]? = some (0, 7) := h.2 (50, 0, 7) (List.mem_of_getElem? (i := 50) rfl)
theorem xs_51 {R : aR1} {S : aS1} (h : LY R S) : S[51]? = some (0, 5117) := h.2 (51, 0, 5117) (List.mem_of_getElem? (i := 51) rfl)
theorem xs_52 {R : aR1} {S : aS1} (h : LY R S) : S[52]? = some (0, 10234) := h.2 (52, 0, 10234) (List.mem_of_getElem? (i := 52) rfl)
theorem xs_53 {R : aR1} {S : aS1} (h : LY R S) : S[53]? = some (3, 2) := h.2 (53, 3, 2) (List.mem_of_getElem? (i := 53) rfl)
theorem xs_54 {R : aR1} {S : aS1} (h : LY R S) : S[54]? = some (2, 60) := h.2 (54, 2, 60) (List.mem_of_getElem? (i := 54) rfl)
theorem xs_55 {R : aR1} {S : aS1} (h : LY R S) : S[55]? = some (2, 400) := h.2 (55, 2, 400) (List.mem_of_getElem? (i := 55) rfl)
theorem xs_56 {R : aR1} {S : aS1} (h : LY R S) : S[56]? = some (0, 5) := h.2 (56, 0, 5) (List.mem_of_getElem? (i := 56) rfl)
theorem xs_57 {R : aR1} {S : aS1} (h : LY R S) : S[57]? = some (0, 401) := h.2 (57, 0, 401) (List.mem_of_getElem? (i := 57) rfl)
theorem xs_58 {R : aR1} {S : aS1} (h : LY R S) : S[58]? = some (0, 401) := h.2 (58, 0, 401) (List.mem_of_getElem? (i := 58) rfl)
theorem xs_59 {R : aR1} {S : aS1} (h : LY R S) : S[59]? = some (0, 401) := h.2 (59, 0, 401) (List.mem_of_getElem? (i := 59) rfl)
theorem xs_60 {R : aR1} {S : aS1} (h : LY R S) : S[60]? = some (0, 8) := h.2 (60, 0, 8) (List.mem_of_getElem? (i := 60) rfl)
theorem xs_61 {R : aR1} {S : aS1} (h : LY R S) : S[61]? = some (0, 256) := h.2 (61, 0, 256) (List.mem_of_getElem? (i := 61) rfl)
theorem xs_62 {R : aR1} {S : aS1} (h : LY R S) : S[62]? = some (1, 256) := h.2 (62, 1, 256) (List.mem_of_getElem? (i := 62) rfl)
theorem xs_63 {R : aR1} {S : aS1} (h : LY R S) : S[63]? = some (3, 256) := h.2 (63, 3, 256) (List.mem_of_getElem? (i := 63) rfl)
theorem xs_64 {R : aR1} {S : aS1} (h : LY R S) : S[64]? = some (0, 10) := h.2 (64, 0, 10) (List.mem_of_getElem? (i := 64) rfl)
theorem xs_65 {R : aR1} {S : aS1} (h : LY R S) : S[65]? = some (0, 256) := h.2 (65, 0, 256) (List.mem_of_getElem? (i := 65) rfl)
theorem xs_66 {R : aR1} {S : aS1} (h : LY R S) : S[66]? = some (0, 8) := h.2 (66, 0, 8) (List.mem_of_getElem? (i := 66) rfl)
theorem xs_67 {R : aR1} {S : aS1} (h : LY R S) : S[67]? = some (0, 30) := h.2 (67, 0, 30) (List.mem_of_getElem? (i := 67) rfl)
theorem xs_68 {R : aR1} {S : aS1} (h : LY R S) : S[68]? = some (1, 256) := h.2 (68, 1, 256) (List.mem_of_getElem? (i := 68) rfl)
theorem xs_69 {R : aR1} {S : aS1} (h : LY R S) : S[69]? = some (1, 256) := h.2 (69, 1, 256) (List.mem_of_getElem? (i := 69) rfl)
theorem xs_70 {R : aR1} {S : aS1} (h : LY R S) : S[70]? = some (0, 4352) := h.2 (70, 0, 4352) (List.mem_of_getElem? (i := 70) rfl)
theorem xs_71 {R : aR1} {S : aS1} (h : LY R S) : S[71]? = some (0, 4352) := h.2 (71, 0, 4352) (List.mem_of_getElem? (i := 71) rfl)
theorem xs_72 {R : aR1} {S : aS1} (h : LY R S) : S[72]? = some (0, 24) := h.2 (72, 0, 24) (List.mem_of_getElem? (i := 72) rfl)
end
