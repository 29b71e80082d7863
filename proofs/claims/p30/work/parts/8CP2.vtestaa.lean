/-! TESTS -/
def zJ3 (op : Int) (r1 r2 : Option Int) : Option Int := match r1 with
  | none => none
  | some a => if (op = 3 ∧ ¬ a = 0) ∨ (op = 4 ∧ a = 0) then some a else r2
theorem zJB_3 {op : Int} {D F : zD} {en : zE} : zJB op D F en = zJ3 op (D en) (F en) := rfl
theorem zRv_jb {la la2 B0 B6 B7 v w x op : Int} {r r' : Option Int} (hB : B0 = 0 ∨ B0 = 1) (h1 : zRv la B0 B6 v r) (h2 : zRv la2 B6 B7 w r') (hl : la2 = 1 ↔ (la = 1 ∧ ((op = 4 ∧ v = 1) ∨ (op = 3 ∧ v = 0)))) (hv : 0 ≤ v ∧ v ≤ 1) (hw : 0 ≤ w ∧ w ≤ 1) (hx : (0 ≤ x ∧ x ≤ 1) ∧ ((op = 4 ∧ (x = 1 ↔ v = 1 ∧ w = 1)) ∨ (op = 3 ∧ (x = 1 ↔ v = 1 ∨ w = 1)))) : zRv la B0 B7 x (zJ3 op r r') := by
  by_cases hc : la = 1 ∧ B0 = 0
  · obtain ⟨rfl, rfl⟩ := hc
    refine ⟨fun _ _ => ?_, fun h => absurd ⟨rfl, rfl⟩ h⟩
    obtain ⟨g1, g2⟩ := h1.1 rfl rfl
    cases r with
    | none =>
      have e6 := g2 rfl
      have e7 := h2.2 (by omega)
      exact ⟨fun u hu => (by cases hu), fun _ => by omega⟩
    | some a =>
      obtain ⟨rfl, e6, a1, a2⟩ := g1 a rfl
      by_cases hs : (op = 3 ∧ ¬ v = 0) ∨ (op = 4 ∧ v = 0)
      · have e : zJ3 op (some v) r' = some v := if_pos hs
        have e7 := h2.2 (by omega)
        rw [e]
        exact ⟨fun u hu => (by cases hu; exact ⟨by omega, by omega, a1, a2⟩), fun hn => (by cases hn)⟩
      · have e : zJ3 op (some v) r' = r' := if_neg hs
        obtain ⟨k1, k2⟩ := h2.1 (by omega) e6
        rw [e]
        refine ⟨fun u hu => ?_, k2⟩
        obtain ⟨n1, n2, n3, n4⟩ := k1 u hu
        exact ⟨by omega, n2, n3, n4⟩
  · refine ⟨fun g1 g2 => absurd ⟨g1, g2⟩ hc, fun _ => ?_⟩
    have e6 := h1.2 hc
    have e7 := h2.2 (by omega)
    omega
theorem zRv_fl {la B B' v x f : Int} {D Dp : zD} {en : zE} (hD : D = if f = 1 then zFl Dp else Dp) (h : zRv la B B' v (Dp en)) (hv : 0 ≤ v ∧ v ≤ 1) (h1 : f = 1 → x = 1 - v) (h2 : ¬ f = 1 → x = v) : zRv la B B' x (D en) := by
  rw [hD]
  by_cases hf : f = 1
  · rw [if_pos hf]
    refine ⟨fun g1 g2 => ?_, h.2⟩
    obtain ⟨k1, k2⟩ := h.1 g1 g2
    cases hp : Dp en with
    | none =>
      rw [zFl_n hp]
      exact ⟨fun u hu => (by cases hu), fun _ => k2 hp⟩
    | some a =>
      rw [zFl_s hp]
      obtain ⟨n1, n2, n3, n4⟩ := k1 a hp
      have := h1 hf
      exact ⟨fun u hu => (by cases hu; exact ⟨by omega, n2, by omega, by omega⟩), fun hn => (by cases hn)⟩
  · rw [if_neg hf, h2 hf]
    exact h
theorem zRv_cm {la B0 B6 B7 v w x op : Int} {r r' : Option Int} (hla : 0 ≤ la ∧ la ≤ 1) (hB : B0 = 0 ∨ B0 = 1) (h1 : zRv la B0 B6 v r) (h2 : zRv la B6 B7 w r') (ho : 160 ≤ op ∧ op ≤ 162) (hx : -1000000000 ≤ v → v ≤ 1000000000 → -1000000000 ≤ w → w ≤ 1000000000 → la = 1 → B7 = 0 → (0 ≤ x ∧ x ≤ 1) ∧ (op = 160 → (x = 1 ↔ v < w)) ∧ (op = 162 → (x = 1 ↔ w < v)) ∧ (op = 161 → (x = 1 ↔ v = w))) : zRv la B0 B7 x (zJ2 op r r') := by
  by_cases hc : la = 1 ∧ B0 = 0
  · obtain ⟨rfl, rfl⟩ := hc
    refine ⟨fun _ _ => ?_, fun h => absurd ⟨rfl, rfl⟩ h⟩
    obtain ⟨g1, g2⟩ := h1.1 rfl rfl
    cases r with
    | none =>
      have e6 := g2 rfl
      have e7 := h2.2 (by omega)
      exact ⟨fun u hu => (by cases hu), fun _ => by omega⟩
    | some a =>
      obtain ⟨rfl, e6, a1, a2⟩ := g1 a rfl
      obtain ⟨k1, k2⟩ := h2.1 rfl e6
      cases r' with
      | none =>
        exact ⟨fun u hu => (by cases hu), fun _ => k2 rfl⟩
      | some b =>
        obtain ⟨rfl, e7, b1, b2⟩ := k1 b rfl
        obtain ⟨x1, x2, x3, x4⟩ := hx a1 a2 b1 b2 rfl e7
        have e9 : zJv op v w = x := by
          unfold zJv
          rw [if_neg (by omega), if_neg (by omega), if_neg (by omega), if_neg (by omega), if_neg (by omega)]
          repeat' split
          all_goals omega
        have e : zJ2 op (some v) (some w) = some x := by
          refine (if_neg (by omega)).trans ?_
          rw [e9]
          exact if_pos (by omega)
        rw [e]
        exact ⟨fun u hu => (by cases hu; exact ⟨rfl, e7, by omega, by omega⟩), fun hn => (by cases hn)⟩
  · refine ⟨fun g1 g2 => absurd ⟨g1, g2⟩ hc, fun _ => ?_⟩
    have e6 := h1.2 hc
    have e7 := h2.2 (by omega)
    omega
theorem zCm_lt {S : zP} {c : Nat → Int} (hS : ∀ t l q, S t l = .inr q → t < q.1) (t l : Nat) (q : Nat × Nat × zD) (h : zCm S c t l = .inr q) : t < q.1 := by
  cases h1 : S t l with
  | inl f => rw [zCm_f h1] at h; cases h
  | inr p =>
    by_cases h2 : 160 ≤ c p.1 ∧ c p.1 ≤ 162
    · cases h3 : S (p.1 + 1) p.2.1 with
      | inl f => rw [zCm_g h1 h2 h3] at h; cases h
      | inr r =>
        rw [zCm_s h1 h2 h3] at h
        cases h
        have h4 := hS _ _ _ h1
        have h5 := hS _ _ _ h3
        show t < r.1
        omega
    · rw [zCm_n h1 h2] at h; cases h
theorem zNt_le {c : Nat → Int} : ∀ (n t : Nat) (f : Int), t ≤ (zNt c n t f).1
  | 0, t, _ => Nat.le_refl t
  | n + 1, t, f => by
    by_cases h : c t = 5
    · rw [zNt_s h]
      have := zNt_le (c := c) n (t + 1) (1 - f)
      omega
    · rw [zNt_n h]
      exact Nat.le_refl t
theorem zPos_lt {c vl : Nat → Int} {m : Nat} (hP : ∀ mp, m = mp + 1 → ∀ t l q, zT c vl mp t l = .inr q → t < q.1) (t l : Nat) (q : Nat × Nat × zD) (h : zPos (zTu c vl m) (zS c vl m) c t l = .inr q) : t < q.1 := by
  by_cases hc : c t = 140
  · rw [zPos_b hc] at h
    cases m with
    | zero => cases h
    | succ m =>
      have h : zBr (some (zT c vl m)) c 141 t l = .inr q := h
      obtain ⟨p, p1, p2, p3⟩ := zBr_G h
      have := hP m rfl _ _ _ p1
      omega
  · rw [zPos_c hc] at h
    exact zCm_lt (zS_lt m) t l q h
