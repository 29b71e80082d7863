theorem l_div_t {a b : Int} (h1 : -1000000000 ≤ a) (h2 : a ≤ 1000000000) (h3 : -1000000000 ≤ b) (h4 : b ≤ 1000000000) : l_div a b = a.tdiv b := by
  have e1 : (Int64.ofInt a).toInt = a := w64_id (by omega) (by omega)
  have e2 : (Int64.ofInt b).toInt = b := w64_id (by omega) (by omega)
  have h5 := tdiv_le (b := b) h1 h2
  unfold l_div
  rw [Int64.toInt_div, e1, e2, Int.bmod_eq_of_le (by omega) (by omega)]
theorem l_rem_t {a b : Int} (h1 : -1000000000 ≤ a) (h2 : a ≤ 1000000000) (h3 : -1000000000 ≤ b) (h4 : b ≤ 1000000000) : l_rem a b = a.tmod b := by
  have e1 : (Int64.ofInt a).toInt = a := w64_id (by omega) (by omega)
  have e2 : (Int64.ofInt b).toInt = b := w64_id (by omega) (by omega)
  have h5 := tdiv_le (b := b) h1 h2
  have h6 := tmod_le (b := b) h1 h2
  have h7 : a.tmod b = a - b * a.tdiv b := Int.tmod_def a b
  have h8 : (Int64.ofInt a / Int64.ofInt b).toInt = a.tdiv b := by rw [Int64.toInt_div, e1, e2, Int.bmod_eq_of_le (by omega) (by omega)]
  unfold l_rem
  rw [Int64.toInt_sub, Int64.toInt_mul, h8, e1, e2, Int.mul_comm (a.tdiv b) b]
  have h9 : b * a.tdiv b = a - a.tmod b := by omega
  rw [h9, Int.bmod_eq_of_le (n := a - a.tmod b) (by omega) (by omega), show a - (a - a.tmod b) = a.tmod b by omega, Int.bmod_eq_of_le (by omega) (by omega)]
theorem mul_le9 {a b : Int} (h1 : -1000000000 ≤ a) (h2 : a ≤ 1000000000) (h3 : -1000000000 ≤ b) (h4 : b ≤ 1000000000) : -1000000000000000000 ≤ a * b ∧ a * b ≤ 1000000000000000000 := by
  have h5 : (a * b).natAbs = a.natAbs * b.natAbs := Int.natAbs_mul a b
  have h6 : a.natAbs * b.natAbs ≤ 1000000000 * 1000000000 := Nat.mul_le_mul (by omega) (by omega)
  omega
/-! what parses, taken apart -/
def zHR (P : zP) (ops : List Int) (jn : Int → zD → zD → zD) (c : Nat → Int) (p : Nat) (D9 : zD) (b : Nat) (D : zD) : Prop := ∃ n l9 l', 400 ≤ n + p ∧ zRest P ops jn c n p l9 D9 = .inr (b, l', D)
theorem zG_sq {P : zP} {ops : List Int} {jn : Int → zD → zD → zD} {c : Nat → Int} {a b : Nat} {D : zD} (h : zG (zSeq P ops jn c) a b D) : ∃ p D1, zG P a p D1 ∧ zHR P ops jn c p D1 b D := by
  obtain ⟨l, l', h⟩ := h
  cases hp : P a l with
  | inl f => rw [zSeq_f hp] at h; cases h
  | inr q =>
    rw [zSeq_s hp] at h
    exact ⟨q.1, q.2.2, ⟨l, q.2.1, hp⟩, 400, q.2.1, l', by omega, h⟩
theorem zHR_op {P : zP} {ops : List Int} {jn : Int → zD → zD → zD} {c : Nat → Int} {p b : Nat} {D9 D : zD} (h : zHR P ops jn c p D9 b D) (hP : ∀ t l q, P t l = .inr q → t < q.1) (hc : c p ∈ ops) (hp4 : p < 400) : ∃ d F, zG P (p + 1) d F ∧ p + 1 < d ∧ zHR P ops jn c d (jn (c p) D9 F) b D := by
  obtain ⟨n, l9, l', hn, h⟩ := h
  obtain ⟨m, rfl⟩ : ∃ m, n = m + 1 := ⟨n - 1, by omega⟩
  cases hp : P (p + 1) l9 with
  | inl f => rw [zRest_f hc hp] at h; cases h
  | inr q =>
    rw [zRest_s hc hp] at h
    have h2 := hP _ _ _ hp
    exact ⟨q.1, q.2.2, ⟨l9, q.2.1, hp⟩, h2, m, q.2.1, l', by omega, h⟩
theorem zHR_no {P : zP} {ops : List Int} {jn : Int → zD → zD → zD} {c : Nat → Int} {p b : Nat} {D9 D : zD} (h : zHR P ops jn c p D9 b D) (hc : ¬ c p ∈ ops) : p = b ∧ D9 = D := by
  obtain ⟨n, l9, l', hn, h⟩ := h
  rw [zRest_no hc] at h
  cases h
  exact ⟨rfl, rfl⟩
theorem zHR_le {P : zP} {ops : List Int} {jn : Int → zD → zD → zD} {c : Nat → Int} (hP : ∀ t l q, P t l = .inr q → t < q.1) : ∀ (n p l : Nat) (D : zD) (q : Nat × Nat × zD), zRest P ops jn c n p l D = .inr q → p ≤ q.1
  | 0, p, l, D, q, h => by cases h; exact Nat.le_refl _
  | n + 1, p, l, D, q, h => by
    by_cases hc : c p ∈ ops
    · cases hp : P (p + 1) l with
      | inl f => rw [zRest_f hc hp] at h; cases h
      | inr r =>
        rw [zRest_s hc hp] at h
        have h1 := hP _ _ _ hp
        have h2 := zHR_le hP n r.1 r.2.1 _ q h
        omega
    · rw [zRest_no hc] at h
      cases h
      exact Nat.le_refl _
theorem zHR_l {P : zP} {ops : List Int} {jn : Int → zD → zD → zD} {c : Nat → Int} {p b : Nat} {D9 D : zD} (hP : ∀ t l q, P t l = .inr q → t < q.1) (h : zHR P ops jn c p D9 b D) : p ≤ b := by
  obtain ⟨n, l9, l', hn, h⟩ := h
  exact zHR_le hP n p l9 D9 _ h
theorem zSeq_lt {P : zP} {ops : List Int} {jn : Int → zD → zD → zD} {c : Nat → Int} (hP : ∀ t l q, P t l = .inr q → t < q.1) (t l : Nat) (q : Nat × Nat × zD) (h : zSeq P ops jn c t l = .inr q) : t < q.1 := by
  cases hp : P t l with
  | inl f => rw [zSeq_f hp] at h; cases h
  | inr r =>
    rw [zSeq_s hp] at h
    have h1 := hP _ _ _ hp
    have h2 := zHR_le hP 400 r.1 r.2.1 _ q h
    omega
theorem zPart_lt {c vl : Nat → Int} : ∀ (m t l : Nat) (q : Nat × Nat × zD), zPart (zSu c vl m) c vl t l = .inr q → t < q.1
  | 0, t, l, q, h => by
    by_cases hc : c t = 191
    · rw [zPart_b hc] at h; cases h
    · rw [zPart_l hc] at h
      have := (zLe_G h).2
      omega
  | m + 1, t, l, q, h => by
    by_cases hc : c t = 191
    · rw [zPart_b hc] at h
      obtain ⟨p, p1, p2, p3⟩ := zBr_G h
      have := zSeq_lt (zSeq_lt (zPart_lt m)) (t + 1) l p p1
      omega
    · rw [zPart_l hc] at h
      have := (zLe_G h).2
      omega
theorem zTm_lt {c vl : Nat → Int} (m t l : Nat) (q : Nat × Nat × zD) (h : zTm (zSu c vl m) c vl t l = .inr q) : t < q.1 := zSeq_lt (zPart_lt m) t l q h
