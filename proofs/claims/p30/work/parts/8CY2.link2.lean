/-! NIGHTS, JUDGED TRAILS and FAILING of class and reference are alike -/
def LK9 (m n K g : Int) (code k o o2 L T L' M : Nat → Int) : Prop := (0 ≤ m ∧ m ≤ 3) ∧ (1 ≤ n ∧ n ≤ 8) ∧ 2 ≤ K ∧ (∀ t : Nat, (t : Int) < FU n + 1 → code t = k t) ∧ (m = 1 → ∀ t : Nat, (t : Int) ≤ FU n → o t = oilS o2 t n.toNat) ∧ (∀ l, l < 8 → o2 l = k (256 + l)) ∧ (m = 2 → zLV code g (FU n + 1) K (-1) L) ∧ (m = 3 → MTc code g n K T) ∧ zLV k g (FU n + 1) K (-1) L' ∧ MRc k g n K M
theorem NX_l9 {m n K g s x : Int} {code k o o2 L T L' M : Nat → Int} (h : LK9 m n K g code k o o2 L T L' M) (hs : 0 ≤ s ∧ s ≤ FU n) (hx : ¬ x = -1) : NX (bC m o L T) code g s (FU n + 1) x = NX (bR m s n K k L' M) k g s (FU n + 1) x := by
  obtain ⟨h1, h2, h3, h4, h5, h6, h7, h8, h9, h10⟩ := h
  exact NX_lk h1 h2.1 h2.2 h3 h4 h5 h6 h7 h8 h9 h10 hs hx
theorem NX_r9 {bt : Nat → Nat → Bool} {code : Nat → Int} {g s N x B : Int} (h0 : 0 ≤ s) (hB : 0 ≤ B) (hN : N = B + 1) : -1 ≤ NX bt code g s N x ∧ NX bt code g s N x ≤ B := by
  rcases NX_r (bt := bt) (code := code) (g := g) (N := N) (x := x) h0 with h | h
  · omega
  · have h1 := h.1
    have h2 := h.2.1
    omega
theorem dN_cg {nx nx' : Int → Int → Int} {a K B : Int} (hK : 0 < K) (hB : 0 ≤ B) (h : ∀ s x, 0 ≤ s → s ≤ B → 0 ≤ x → x < K → nx s x = nx' s x ∧ nx s x ≤ B) : ∀ j : Nat, (∀ i : Nat, i < j → 0 ≤ dN nx a K i) → dN nx a K j = dN nx' a K j ∧ dN nx a K j ≤ B := by
  intro j
  induction j with
  | zero => exact fun _ => ⟨rfl, hB⟩
  | succ j ih =>
    intro hp
    have ih2 := ih (fun i hi => hp i (by omega))
    have h0 := hp j (by omega)
    have g := h (dN nx a K j) (dS a (j + 1) % K) h0 ih2.2 (Int.emod_nonneg _ (by omega)) (Int.emod_lt_of_pos _ hK)
    show nx (dN nx a K j) (dS a (j + 1) % K) = nx' (dN nx' a K j) (dS a (j + 1) % K) ∧ nx (dN nx a K j) (dS a (j + 1) % K) ≤ B
    rw [← ih2.1]
    exact g
theorem NGc_cg {nx nx' : Int → Int → Int} {a K B b n u : Int} {F : Nat → Int} (hK : 0 < K) (hB : 0 ≤ B) (h : ∀ s x, 0 ≤ s → s ≤ B → 0 ≤ x → x < K → nx s x = nx' s x ∧ nx s x ≤ B) (k : NGc nx a K b F n u) : NGc nx' a K b F n u := by
  obtain ⟨h1, h2, h3⟩ := k
  have hp : ∀ i : Nat, (i : Int) ≤ n → 0 ≤ dN nx a K i := fun i hi => by
    cases i with
    | zero => exact Int.le_refl 0
    | succ i => exact (h2 i (by omega)).2
  have he : ∀ j : Nat, (j : Int) ≤ n + 1 → dN nx a K j = dN nx' a K j := fun j hj => (dN_cg hK hB h j (fun i hi => hp i (by omega))).1
  refine ⟨h1, fun j hj => ?_, ?_⟩
  · rw [← he (j + 1) (by omega)]
    exact h2 j hj
  · rcases h3 with h3 | ⟨h3, h4, h5⟩
    · exact Or.inl h3
    · exact Or.inr ⟨h3, by rw [← he (n.toNat + 1) (by omega)]; exact h4, h5⟩
