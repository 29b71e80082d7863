def LawsOK (I : aI1) (R : aR1) (S : aS1) (t : Nat) : Prop := ∀ i, i < 6 → ∀ w, R t i = some w → LawOK I R S w
/-- a Coast's ranges -/
def CoR (I : aI1) (c : Nat) : Prop := (1 ≤ I c 5 ∧ I c 5 ≤ 8) ∧ (2 ≤ I c 6 ∧ I c 6 ≤ 8) ∧ (0 ≤ I c 8 ∧ I c 8 ≤ FU (I c 5)) ∧ (0 ≤ I c 9 ∧ I c 9 ≤ 6) ∧ (0 ≤ I c 10 ∧ I c 10 ≤ 24) ∧ (0 ≤ I c 11 ∧ I c 11 ≤ 16) ∧ (∀ s, s < 256 → -1 ≤ I (c + 2) s ∧ I (c + 2) s ≤ 7)
/-- an image -/
def CoastOK (I : aI1) (R : aR1) (S : aS1) (c : Nat) : Prop := 73 ≤ c ∧ CoSh R S c ∧ CoR I c ∧ LawsOK I R S (c + 3)
/-- the class's state -/
def CI (I : aI1) (R : aR1) (S : aS1) : Prop := LY R S ∧ CX I ∧ LawsOK I R S 4 ∧ ∀ i, i < 2 → ∀ c, R 7 i = some c → CoastOK I R S c
def SX (S S' : aS1) : Prop := ∀ (k : Nat) (sh : Nat × Nat), S[k]? = some sh → S'[k]? = some sh
theorem SX_rf {S : aS1} : SX S S := fun _ _ h => h
theorem SX_app {S T : aS1} {x : Nat × Nat} (h : SX S T) : SX S (T ++ [x]) := fun k sh hk => sz_l (h k sh hk)
theorem lay_73 : (∀ q ∈ layR, q.1 < 73 ∧ q.1 ≠ 4 ∧ q.1 ≠ 7) := by decide
theorem LY_ext {R R' : aR1} {S S' : aS1} (h : LY R S) (hR : ∀ a, a < 73 → a ≠ 4 → a ≠ 7 → R' a = R a) (hS : SX S S') : LY R' S' :=
  ⟨fun q hq => by rw [hR q.1 (lay_73 q hq).1 (lay_73 q hq).2.1 (lay_73 q hq).2.2]; exact h.1 q hq, fun q hq => hS _ _ (h.2 q hq)⟩
theorem LawOK_ext {I I' : aI1} {R R' : aR1} {S S' : aS1} {w : Nat} (h : LawOK I R S w) (h0 : I' w = I w) (h1 : I' (w + 1) = I (w + 1)) (h2 : I' (w + 2) = I (w + 2)) (hR : R' w = R w) (hS : SX S S') : LawOK I' R' S' w := by
  obtain ⟨a, b, c, d, e, ⟨n1, q1, q2, q3⟩, ⟨n2, r1, r2, r3⟩⟩ := h
  exact ⟨a, hS _ _ b, by rw [hR]; exact c, by rw [hR]; exact d, by rw [h0]; exact e, ⟨n1, q1, hS _ _ q2, by rw [h1]; exact q3⟩, ⟨n2, r1, hS _ _ r2, by rw [h2]; exact r3⟩⟩
theorem CoSh_ext {R R' : aR1} {S S' : aS1} {c : Nat} (h : CoSh R S c) (hR : R' c = R c) (hS : SX S S') : CoSh R' S' c := by
  unfold CoSh at h ⊢
  rw [hR]
  exact ⟨hS _ _ h.1, hS _ _ h.2.1, hS _ _ h.2.2.1, hS _ _ h.2.2.2.1, hS _ _ h.2.2.2.2.1, hS _ _ h.2.2.2.2.2.1, h.2.2.2.2.2.2⟩
theorem CoR_ext {I I' : aI1} {c : Nat} (h : CoR I c) (h0 : I' c = I c) (h2 : I' (c + 2) = I (c + 2)) : CoR I' c := by
  unfold CoR at h ⊢
  rw [h0, h2]
  exact h
theorem law_off {I : aI1} {R : aR1} {S : aS1} {w c : Nat} (hl : LawOK I R S w) (hc : CoSh R S c) : w + 2 < c ∨ c + 5 < w := by
  obtain ⟨a, b, -, -, -, ⟨n1, -, q2, -⟩, ⟨n2, -, r2, -⟩⟩ := hl
  obtain ⟨c0, c1, c2, c3, c4, c5, -⟩ := hc
  rcases (show (w + 2 < c ∨ c + 5 < w) ∨ w + 2 = c ∨ w + 1 = c ∨ w = c ∨ w = c + 1 ∨ w = c + 2 ∨ w = c + 3 ∨ w = c + 4 ∨ w = c + 5 by omega) with h | h | h | h | h | h | h | h | h
  · exact h
  · rw [h, c0] at r2; simp at r2
  · rw [h, c0] at q2; simp at q2
  · rw [h, c0] at b; simp at b
  · rw [h, c1] at b; simp at b
  · rw [h, c2] at b; simp at b
  · rw [h, c3] at b; simp at b
  · rw [h, c4] at b; simp at b
  · rw [h, c5] at b; simp at b
theorem coast_off {R R' : aR1} {S : aS1} {c e : Nat} (hc : CoSh R S c) (he : CoSh R' S e) (hne : c ≠ e) : c + 5 < e ∨ e + 5 < c := by
  obtain ⟨c0, c1, c2, c3, c4, c5, -⟩ := hc
  obtain ⟨e0, e1, e2, e3, e4, e5, -⟩ := he
  rcases (show (c + 5 < e ∨ e + 5 < c) ∨ e = c + 1 ∨ e = c + 2 ∨ e = c + 3 ∨ e = c + 4 ∨ e = c + 5 ∨ c = e + 1 ∨ c = e + 2 ∨ c = e + 3 ∨ c = e + 4 ∨ c = e + 5 by omega) with h | h | h | h | h | h | h | h | h | h | h
  · exact h
  · rw [h, c1] at e0; simp at e0
  · rw [h, c2] at e0; simp at e0
  · rw [h, c3] at e0; simp at e0
  · rw [h, c4] at e0; simp at e0
  · rw [h, c5] at e0; simp at e0
  · rw [h, e1] at c0; simp at c0
  · rw [h, e2] at c0; simp at c0
  · rw [h, e3] at c0; simp at c0
  · rw [h, e4] at c0; simp at c0
  · rw [h, e5] at c0; simp at c0
theorem LawsOK_hi {I I' : aI1} {R R' : aR1} {S S' : aS1} {t t' : Nat} (h : LawsOK I R S t) (ht : ∀ i, i < 6 → R' t' i = R t i) (hI : ∀ k, 73 ≤ k → k < S.length → I' k = I k) (hR : ∀ k, 73 ≤ k → k < S.length → R' k = R k) (hS : SX S S') : LawsOK I' R' S' t' := fun i hi w hw => by
  rw [ht i hi] at hw
  have hl := h i hi w hw
  have g : ∀ {k : Nat} {sh : Nat × Nat}, S[k]? = some sh → k < S.length := fun hk => (List.getElem?_eq_some_iff.mp hk).1
  have hl' := hl
  obtain ⟨a, b, -, -, -, ⟨n1, -, q2, -⟩, ⟨n2, -, r2, -⟩⟩ := hl'
  exact LawOK_ext hl (hI _ a (g b)) (hI _ (by omega) (g q2)) (hI _ (by omega) (g r2)) (hR _ a (g b)) hS
theorem CoastOK_hi {I I' : aI1} {R R' : aR1} {S S' : aS1} {c : Nat} (h : CoastOK I R S c) (hI : ∀ k, 73 ≤ k → k < S.length → I' k = I k) (hR : ∀ k, 73 ≤ k → k < S.length → R' k = R k) (hS : SX S S') : CoastOK I' R' S' c := by
  obtain ⟨h0, h1, h2, h3⟩ := h
  have g : ∀ {k : Nat} {sh : Nat × Nat}, S[k]? = some sh → k < S.length := fun hk => (List.getElem?_eq_some_iff.mp hk).1
  exact ⟨h0, CoSh_ext h1 (hR _ h0 (g h1.1)) hS, CoR_ext h2 (hI _ h0 (g h1.1)) (hI _ (by omega) (g h1.2.2.1)), LawsOK_hi h3 (fun i hi => by rw [hR _ (by omega) (g h1.2.2.2.1)]) hI hR hS⟩
/-- a call that changes cells below 49 alone, and no reference -/
theorem CI_low {I I' : aI1} {R : aR1} {S : aS1} (h : CI I R S) (hk : Kp 0 49 I I') (hx : CX I') : CI I' R S :=
  ⟨h.1, hx, LawsOK_hi h.2.2.1 (fun _ _ => rfl) (fun k h1 _ => hk k (by omega)) (fun _ _ _ => rfl) SX_rf, fun i hi c hc => CoastOK_hi (h.2.2.2 i hi c hc) (fun k h1 _ => hk k (by omega)) (fun _ _ _ => rfl) SX_rf⟩
theorem CX_copy {I I' : aI1} {R R' : aR1} {c : Nat} (h : CX I) (hc : CoR I c) (e : ∀ k, k ≠ 1 → k ≠ 2 → k ≠ 3 → k ≠ 5 → k ≠ 6 → I' k = I k) (he : CoEq I I' R R' 1 c) : CX I' := by
  have f : ∀ k, 6 < k ∨ k = 0 → I' k = I k := fun k hk => e k (by omega) (by omega) (by omega) (by omega) (by omega)
  refine ⟨?_, LR_of h.2.1 (f _ (by decide)) (f _ (by decide)) (f _ (by decide)) (f _ (by decide)), FI_of h.2.2 (f _ (by decide))⟩
  obtain ⟨-, g3, -, -, -, g1⟩ := he
  have h := h.1
  unfold XI at h ⊢
  rw [f 0 (by decide), f 8 (by decide), f 9 (by decide), g1 5 (by decide) (by decide), g1 6 (by decide) (by decide), g1 8 (by decide) (by decide), g1 9 (by decide) (by decide), g1 10 (by decide) (by decide), g1 11 (by decide) (by decide)]
  exact ⟨hc.1, hc.2.1, hc.2.2.1, hc.2.2.2.1, hc.2.2.2.2.1, hc.2.2.2.2.2.1, h.2.2.2.2.2.2.1, h.2.2.2.2.2.2.2.1, h.2.2.2.2.2.2.2.2.1, fun s hs => by rw [g3 s hs]; exact hc.2.2.2.2.2.2 s hs, h.2.2.2.2.2.2.2.2.2.2⟩
