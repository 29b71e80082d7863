/-! what a law tells -/
def zTd (td : Int) (r : Option Int) : Prop := (∀ x, r = some x → td = x ∧ -1000000000 ≤ x ∧ x ≤ 1000000000) ∧ (r = none → td = -1)
theorem zTd_b {td : Int} {r : Option Int} (h : zTd td r) : -1000000000 ≤ td ∧ td ≤ 1000000000 := by
  cases r with
  | none => have := h.2 rfl; omega
  | some x => have := h.1 x rfl; omega
def zGv (K : Int) : Option Int → Int
  | none => -1
  | some x => if 0 ≤ x ∧ x < K then x else -1
theorem zGv_of {td x K : Int} {r : Option Int} (h : zTd td r) (h1 : 0 ≤ td ∧ td < K → x = td) (h2 : ¬ (0 ≤ td ∧ td < K) → x = -1) : x = zGv K r := by
  cases r with
  | none =>
    have := h.2 rfl
    exact h2 (by omega)
  | some w =>
    obtain ⟨rfl, -⟩ := h.1 w rfl
    unfold zGv
    by_cases hc : 0 ≤ td ∧ td < K
    · exact (h1 hc).trans (if_pos hc).symm
    · exact (h2 hc).trans (if_neg hc).symm
theorem zTl_snoc {q : zQ} {en : zE} : ∀ dn : List zQ, zTl (dn ++ [q]) en = (match zCv q en with
    | some x => some x
    | none => zTl dn en)
  | [] => by
    show zTl [q] en = _
    rw [zTl_c0 (q := q) (qs := []) (en := en) rfl]
    cases zCv q en <;> rfl
  | p :: dn => by
    have h1 := zTl_snoc (q := q) (en := en) dn
    show zTl (p :: (dn ++ [q])) en = _
    cases hc : zCv q en with
    | some x =>
      rw [hc] at h1
      exact zTl_c1 h1
    | none =>
      rw [hc] at h1
      have h1 : zTl (dn ++ [q]) en = zTl dn en := h1
      show (match zTl (dn ++ [q]) en with
        | some x => some x
        | none => zCv p en) = zTl (p :: dn) en
      rw [h1]
      rfl
theorem zTd_s {td td' x : Int} {q : zQ} {dn : List zQ} {en : zE} (h0 : zTd td (zTl dn en)) (h1 : ∀ w, zCv q en = some w → td' = w ∧ -1000000000 ≤ w ∧ w ≤ 1000000000) (h2 : zCv q en = none → td' = td) : zTd td' (zTl (dn ++ [q]) en) := by
  rw [zTl_snoc]
  cases hc : zCv q en with
  | some w =>
    have := h1 w hc
    exact ⟨fun u hu => (by cases hu; exact this), fun hn => (by cases hn)⟩
  | none =>
    rw [h2 hc]
    exact h0
theorem zTd_s0 {td td' sum B1 : Int} {q : zQ} {D : zD} {dn : List zQ} {en : zE} (h0 : zTd td (zTl dn en)) (hq : q = (D, none)) (h1 : zRv 1 0 B1 sum (D en)) (hx : B1 = 0 → td' = sum) (hy : ¬ B1 = 0 → td' = td) : zTd td' (zTl (dn ++ [q]) en) := by
  obtain ⟨g1, g2⟩ := h1.1 rfl rfl
  subst hq
  refine zTd_s (x := 0) h0 (fun w hw => ?_) (fun hn => ?_)
  · have hw : D en = some w := hw
    obtain ⟨n1, n2, n3⟩ := g1 w hw
    have := hx n2
    omega
  · have hn : D en = none := hn
    have := g2 hn
    exact hy (by omega)
theorem zTd_s1 {td td' sum is B1 B2 : Int} {q : zQ} {D F : zD} {dn : List zQ} {en : zE} (h0 : zTd td (zTl dn en)) (hq : q = (D, some F)) (h1 : zRv 1 0 B1 sum (D en)) (h2 : zRv 1 0 B2 is (F en)) (hi : 0 ≤ is ∧ is ≤ 1) (hx : is = 1 → B2 = 0 → B1 = 0 → td' = sum) (hy : ¬ (is = 1 ∧ B2 = 0 ∧ B1 = 0) → td' = td) : zTd td' (zTl (dn ++ [q]) en) := by
  obtain ⟨g1, g2⟩ := h1.1 rfl rfl
  obtain ⟨k1, k2⟩ := h2.1 rfl rfl
  subst hq
  have e : zCv (D, some F) en = (match F en with
    | none => none
    | some w => if w = 0 then none else D en) := rfl
  cases hF : F en with
  | none =>
    rw [hF] at e
    have e : zCv (D, some F) en = none := e
    have := k2 hF
    refine zTd_s (x := 0) h0 (fun w hw => ?_) (fun hn => hy (by omega))
    rw [e] at hw
    cases hw
  | some f =>
    rw [hF] at e
    have e : zCv (D, some F) en = if f = 0 then none else D en := e
    obtain ⟨m1, m2, -⟩ := k1 f hF
    by_cases hf : f = 0
    · rw [if_pos hf] at e
      refine zTd_s (x := 0) h0 (fun w hw => ?_) (fun hn => hy (by omega))
      rw [e] at hw
      cases hw
    · rw [if_neg hf] at e
      refine zTd_s (x := 0) h0 (fun w hw => ?_) (fun hn => ?_)
      · rw [e] at hw
        obtain ⟨n1, n2, n3⟩ := g1 w hw
        have := hx (by omega) m2 n2
        omega
      · rw [e] at hn
        have := g2 hn
        exact hy (by omega)
def zDs (c vl : Nat → Int) (d b : Nat) (D : zD) (q : zQ) : Prop := (¬ c d = 2 ∧ b = d ∧ q = (D, none)) ∨ (c d = 2 ∧ ∃ F, zG (zT c vl 8) (d + 1) b F ∧ q = (D, some F))
theorem zDs_n {c vl : Nat → Int} {d b : Nat} {D : zD} {q : zQ} (h : zDs c vl d b D q) (hc : ¬ c d = 2) : b = d ∧ q = (D, none) := by
  rcases h with h | h
  · exact h.2
  · exact absurd h.1 hc
theorem zDs_s {c vl : Nat → Int} {d b : Nat} {D : zD} {q : zQ} (h : zDs c vl d b D q) (hc : c d = 2) : ∃ F, zG (zT c vl 8) (d + 1) b F ∧ q = (D, some F) := by
  rcases h with h | h
  · exact absurd hc h.1
  · exact h.2
theorem zDs_le {c vl : Nat → Int} {d b : Nat} {D : zD} {q : zQ} (h : zDs c vl d b D q) : d ≤ b := by
  rcases h with h | ⟨-, F, h1, -⟩
  · omega
  · have := zG_lt (zT_lt 8) h1
    omega
def zRs (c vl : Nat → Int) (T p : Nat) (rs : List zQ) : Prop := (rs = [] ∧ T ≤ p) ∨ ∃ m l, zLw c vl T m p l = .inr rs
theorem zRs_st {c vl : Nat → Int} {T p : Nat} {rs : List zQ} (h : zRs c vl T p rs) (hT : p < T) : ∃ q b rs', rs = q :: rs' ∧ c p = 1 ∧ (b = T ∨ c b = 159) ∧ (∃ d D, zG (zS c vl 8) (p + 1) d D ∧ zDs c vl d b D q) ∧ zRs c vl T (b + 1) rs' := by
  rcases h with ⟨-, h⟩ | ⟨m, l, h⟩
  · omega
  · cases m with
    | zero => cases h
    | succ m =>
      cases hc : zCl c vl p l with
      | inl f => rw [zLw_f hc] at h; cases h
      | inr q =>
        have hk : c p = 1 ∧ ∃ d D, zG (zS c vl 8) (p + 1) d D ∧ zDs c vl d q.1 D q.2.2 := by
          by_cases h1 : c p = 1
          · cases hs : zS c vl 8 (p + 1) l with
            | inl f => rw [zCl_f h1 hs] at hc; cases hc
            | inr r =>
              by_cases h2 : c r.1 = 2
              · cases ht : zT c vl 8 (r.1 + 1) r.2.1 with
                | inl f => rw [zCl_g h1 hs h2 ht] at hc; cases hc
                | inr u =>
                  rw [zCl_s h1 hs h2 ht] at hc
                  cases hc
                  exact ⟨h1, r.1, r.2.2, ⟨l, r.2.1, hs⟩, Or.inr ⟨h2, u.2.2, ⟨r.2.1, u.2.1, ht⟩, rfl⟩⟩
              · rw [zCl_n h1 hs h2] at hc
                cases hc
                exact ⟨h1, r.1, r.2.2, ⟨l, r.2.1, hs⟩, Or.inl ⟨h2, rfl, rfl⟩⟩
          · rw [zCl_0 h1] at hc; cases hc
        by_cases hT2 : q.1 = T
        · rw [zLw_e hc hT2] at h
          cases h
          exact ⟨q.2.2, q.1, [], rfl, hk.1, Or.inl hT2, hk.2, Or.inl ⟨rfl, by omega⟩⟩
        · by_cases h9 : c q.1 = 159
          · rw [zLw_s hc hT2 h9] at h
            cases hw : zLw c vl T m (q.1 + 1) q.2.1 with
            | inl f => rw [hw] at h; cases h
            | inr rs' =>
              rw [hw] at h
              cases h
              exact ⟨q.2.2, q.1, rs', rfl, hk.1, Or.inr h9, hk.2, Or.inr ⟨m, _, hw⟩⟩
          · rw [zLw_n hc hT2 h9] at h; cases h
