/-! TOKENS of a TEXT as pure words: bytes f j, j < n -/
def zKl (x : Int) : Int := if 97 ≤ x ∧ x ≤ 122 then 1 else if 48 ≤ x ∧ x ≤ 57 then 2 else 0
theorem zKl_1 {x : Int} : zKl x = 1 ↔ 97 ≤ x ∧ x ≤ 122 := by
  unfold zKl
  repeat' split
  all_goals omega
theorem zKl_2 {x : Int} : zKl x = 2 ↔ 48 ≤ x ∧ x ≤ 57 := by
  unfold zKl
  repeat' split
  all_goals omega
theorem zKl_r (x : Int) : zKl x = 0 ∨ zKl x = 1 ∨ zKl x = 2 := by
  unfold zKl
  repeat' split
  all_goals omega
def zEnd (f : Nat → Int) (n : Nat) (c : Int) : Nat → Nat → Nat
  | 0, s => s
  | m + 1, s => if (s < n ∧ zKl (f s) = c) ∧ ¬ c = 0 then zEnd f n c m (s + 1) else s
theorem zEnd_s {f : Nat → Int} {n m s : Nat} {c : Int} (h1 : s < n) (h2 : zKl (f s) = c) (h3 : ¬ c = 0) : zEnd f n c (m + 1) s = zEnd f n c m (s + 1) := if_pos ⟨⟨h1, h2⟩, h3⟩
theorem zEnd_e {f : Nat → Int} {n s : Nat} {c : Int} (h : ¬ ((s < n ∧ zKl (f s) = c) ∧ ¬ c = 0)) : ∀ m, zEnd f n c m s = s
  | 0 => rfl
  | m + 1 => if_neg h
theorem zEnd_r {f : Nat → Int} {n : Nat} {c : Int} : ∀ m s, s ≤ n → s ≤ zEnd f n c m s ∧ zEnd f n c m s ≤ n
  | 0, s, h => ⟨Nat.le_refl _, h⟩
  | m + 1, s, h => by
    by_cases g : (s < n ∧ zKl (f s) = c) ∧ ¬ c = 0
    · rw [zEnd_s g.1.1 g.1.2 g.2]
      have := zEnd_r (f := f) (n := n) (c := c) m (s + 1) (by omega)
      omega
    · rw [zEnd_e g]
      omega
def zSt (f : Nat → Int) (n k : Nat) : Nat := zEnd f n (zKl (f k)) (n - (k + 1)) (k + 1)
theorem zSt_r {f : Nat → Int} {n k : Nat} (h : k < n) : k < zSt f n k ∧ zSt f n k ≤ n := by
  have := zEnd_r (f := f) (n := n) (c := zKl (f k)) (n - (k + 1)) (k + 1) (by omega)
  unfold zSt
  omega
/-- on the way to the stop -/
def zSW (f : Nat → Int) (n a q : Nat) : Prop := zEnd f n (zKl (f a)) (n - q) q = zSt f n a
theorem zSW_0 {f : Nat → Int} {n a : Nat} : zSW f n a (a + 1) := rfl
theorem zSW_s {f : Nat → Int} {n a q : Nat} (h : zSW f n a q) (hq : q < n) (hk : zKl (f q) = zKl (f a)) (h0 : ¬ zKl (f a) = 0) : zSW f n a (q + 1) := by
  unfold zSW at h ⊢
  rw [show n - q = (n - (q + 1)) + 1 by omega, zEnd_s hq hk h0] at h
  exact h
theorem zSW_e {f : Nat → Int} {n a q : Nat} (h : zSW f n a q) (he : ¬ ((q < n ∧ zKl (f q) = zKl (f a)) ∧ ¬ zKl (f a) = 0)) : q = zSt f n a := by
  unfold zSW at h
  rw [zEnd_e he] at h
  exact h
def zTs (f : Nat → Int) (n : Nat) : Nat → Nat → List (Nat × Nat)
  | 0, _ => []
  | m + 1, k => if k < n then (if f k = 32 then zTs f n m (k + 1) else (k, zSt f n k) :: zTs f n m (zSt f n k)) else []
theorem zTs_0 {f : Nat → Int} {n : Nat} : ∀ m k, ¬ k < n → zTs f n m k = []
  | 0, _, _ => rfl
  | m + 1, k, h => if_neg h
theorem zTs_fu {f : Nat → Int} {n : Nat} : ∀ m p k, n - k ≤ m → n - k ≤ p → zTs f n m k = zTs f n p k
  | 0, p, k, h, _ => by rw [zTs_0 p k (by omega)]; rfl
  | m + 1, 0, k, _, h => by rw [zTs_0 (m + 1) k (by omega)]; rfl
  | m + 1, p + 1, k, h, g => by
    show (if k < n then (if f k = 32 then zTs f n m (k + 1) else (k, zSt f n k) :: zTs f n m (zSt f n k)) else []) = (if k < n then (if f k = 32 then zTs f n p (k + 1) else (k, zSt f n k) :: zTs f n p (zSt f n k)) else [])
    by_cases hk : k < n
    · rw [if_pos hk, if_pos hk]
      have := zSt_r (f := f) hk
      rw [zTs_fu m p (k + 1) (by omega) (by omega), zTs_fu m p (zSt f n k) (by omega) (by omega)]
    · rw [if_neg hk, if_neg hk]
def zTk (f : Nat → Int) (n k : Nat) : List (Nat × Nat) := zTs f n (n - k) k
theorem zTk_0 {f : Nat → Int} {n k : Nat} (h : ¬ k < n) : zTk f n k = [] := zTs_0 _ _ h
theorem zTk_b {f : Nat → Int} {n k : Nat} (h : k < n) (hb : f k = 32) : zTk f n k = zTk f n (k + 1) := by
  unfold zTk
  rw [show n - k = (n - (k + 1)) + 1 by omega]
  exact (if_pos h).trans (if_pos hb)
theorem zTk_t {f : Nat → Int} {n k : Nat} (h : k < n) (hb : ¬ f k = 32) : zTk f n k = (k, zSt f n k) :: zTk f n (zSt f n k) := by
  unfold zTk
  have := zSt_r (f := f) h
  rw [show n - k = (n - (k + 1)) + 1 by omega]
  refine (if_pos h).trans ((if_neg hb).trans ?_)
  rw [zTs_fu (n - (k + 1)) (n - zSt f n k) (zSt f n k) (by omega) (by omega)]
theorem zTs_ord {f : Nat → Int} {n : Nat} : ∀ (m k t : Nat) (q : Nat × Nat), (zTs f n m k)[t]? = some q → k ≤ q.1 ∧ q.1 < q.2 ∧ q.2 ≤ n ∧ (∀ r, (zTs f n m k)[t + 1]? = some r → q.2 ≤ r.1)
  | 0, k, t, q, h => by
    have h9 : (([] : List (Nat × Nat)))[t]? = some q := h
    simp at h9
  | m + 1, k, t, q, h => by
    by_cases hk : k < n
    · by_cases hb : f k = 32
      · have e : zTs f n (m + 1) k = zTs f n m (k + 1) := (if_pos hk).trans (if_pos hb)
        rw [e] at h ⊢
        obtain ⟨h1, h2, h3, h4⟩ := zTs_ord m (k + 1) t q h
        exact ⟨by omega, h2, h3, h4⟩
      · have e : zTs f n (m + 1) k = (k, zSt f n k) :: zTs f n m (zSt f n k) := (if_pos hk).trans (if_neg hb)
        have hs := zSt_r (f := f) hk
        rw [e] at h ⊢
        cases t with
        | zero =>
          have h9 : (k, zSt f n k) = q := by simpa using h
          subst h9
          refine ⟨Nat.le_refl _, hs.1, hs.2, fun r hr => ?_⟩
          have h8 : (zTs f n m (zSt f n k))[0]? = some r := by simpa using hr
          exact (zTs_ord m (zSt f n k) 0 r h8).1
        | succ t =>
          have h8 : (zTs f n m (zSt f n k))[t]? = some q := by simpa using h
          obtain ⟨h1, h2, h3, h4⟩ := zTs_ord m (zSt f n k) t q h8
          exact ⟨by omega, h2, h3, fun r hr => h4 r (by simpa using hr)⟩
    · rw [zTs_0 _ _ hk] at h
      simp at h
theorem zTk_ord {f : Nat → Int} {n k t : Nat} {q : Nat × Nat} (h : (zTk f n k)[t]? = some q) : k ≤ q.1 ∧ q.1 < q.2 ∧ q.2 ≤ n ∧ (∀ r, (zTk f n k)[t + 1]? = some r → q.2 ≤ r.1) := zTs_ord _ k t q h
/-! words -/
def zWs : List (List Int) := [[114, 101, 97, 100, 115], [105, 102], [111, 114], [97, 110, 100], [110, 111, 116], [115, 116, 97, 116, 101], [108, 105, 116], [115, 117, 109], [109, 105, 120], [102, 105, 114, 115, 116], [108, 97, 115, 116], [108, 97, 109, 112, 115], [110, 101, 119, 115]]
abbrev zWm (f : Nat → Int) (a s : Nat) (w : List Int) : Prop := s = a + w.length ∧ ∀ i, i < w.length → f (a + i) = w.getD i 0
def zWo (f : Nat → Int) (a s : Nat) : List (List Int) → Int → Int
  | [], _ => 0
  | w :: ws, c => if zWm f a s w then c else zWo f a s ws (c + 1)
theorem zWo_at {f : Nat → Int} {a s : Nat} : ∀ (ws : List (List Int)) (c : Int) (j : Nat), j < ws.length → (∀ i, i < j → ¬ zWm f a s (ws.getD i [])) → zWm f a s (ws.getD j []) → zWo f a s ws c = c + j
  | [], _, _, h, _, _ => absurd h (Nat.not_lt_zero _)
  | w :: ws, c, 0, _, _, h => by
    refine (if_pos (show zWm f a s w from h)).trans ?_
    omega
  | w :: ws, c, j + 1, h, g, k => by
    have h0 : ¬ zWm f a s w := g 0 (by omega)
    refine (if_neg h0).trans ?_
    rw [zWo_at ws (c + 1) j (by simpa using h) (fun i hi => g (i + 1) (by omega)) k]
    omega
theorem zWo_no {f : Nat → Int} {a s : Nat} : ∀ (ws : List (List Int)) (c : Int), (∀ i, i < ws.length → ¬ zWm f a s (ws.getD i [])) → zWo f a s ws c = 0
  | [], _, _ => rfl
  | w :: ws, c, g => by
    have h0 : ¬ zWm f a s w := g 0 (by simp)
    exact (if_neg h0).trans (zWo_no ws (c + 1) (fun i hi => g (i + 1) (by simpa using hi)))
theorem zWo_in {f : Nat → Int} {a s : Nat} : ∀ (ws : List (List Int)) (c : Int), zWo f a s ws c = 0 ∨ ∃ j : Nat, j < ws.length ∧ zWo f a s ws c = c + j ∧ zWm f a s (ws.getD j [])
  | [], _ => Or.inl rfl
  | w :: ws, c => by
    by_cases h : zWm f a s w
    · refine Or.inr ⟨0, by simp, (if_pos h).trans ?_, h⟩
      omega
    · have e : zWo f a s (w :: ws) c = zWo f a s ws (c + 1) := if_neg h
      rw [e]
      rcases zWo_in ws (c + 1) with g | ⟨j, h1, h2, h3⟩
      · exact Or.inl g
      · exact Or.inr ⟨j + 1, by simpa using h1, by rw [h2]; omega, h3⟩
def zWn (f : Nat → Int) (a s j : Nat) : Prop := ∀ i, i < j → ¬ zWm f a s (zWs.getD i [])
theorem zWn_0 {f : Nat → Int} {a s : Nat} : zWn f a s 0 := fun _ h => absurd h (Nat.not_lt_zero _)
theorem zWn_s {f : Nat → Int} {a s j : Nat} (h : zWn f a s j) (g : ¬ zWm f a s (zWs.getD j [])) : zWn f a s (j + 1) := fun i hi => by
  by_cases e : i = j
  · rw [e]; exact g
  · exact h i (by omega)
/-- the code of a word: 0 for others -/
def zWc (f : Nat → Int) (a s : Nat) : Int := zWo f a s zWs 1
theorem zWc_at {f : Nat → Int} {a s j : Nat} (h : zWn f a s j) (hj : j < 13) (g : zWm f a s (zWs.getD j [])) : zWc f a s = j + 1 := by
  have := zWo_at zWs 1 j hj h g
  unfold zWc
  omega
theorem zWc_no {f : Nat → Int} {a s : Nat} (h : zWn f a s 13) : zWc f a s = 0 := zWo_no zWs 1 h
theorem zWc_r (f : Nat → Int) (a s : Nat) : (0 ≤ zWc f a s ∧ zWc f a s ≤ 13) ∧ (zWc f a s = 3 ∨ zWc f a s = 4 → a + 2 ≤ s) := by
  unfold zWc
  rcases zWo_in (f := f) (a := a) (s := s) zWs 1 with g | ⟨j, h1, h2, h3⟩
  · rw [g]
    exact ⟨by omega, fun h => absurd h (by decide)⟩
  · have h1 : j < 13 := h1
    rw [h2]
    refine ⟨by omega, fun h => ?_⟩
    have hs := h3.1
    rcases h with h | h
    · obtain rfl : j = 2 := by omega
      have : (zWs.getD 2 []).length = 2 := rfl
      omega
    · obtain rfl : j = 3 := by omega
      have : (zWs.getD 3 []).length = 3 := rfl
      omega
/-! numbers -/
def zNu (f : Nat → Int) (a : Nat) : Nat → Int
  | 0 => 0
  | m + 1 => if zNu f a m > 1000000 then zNu f a m else 10 * zNu f a m + f (a + m) - 48
theorem zNu_t {f : Nat → Int} {a m : Nat} (h : zNu f a m > 1000000) : zNu f a (m + 1) = zNu f a m := if_pos h
theorem zNu_f {f : Nat → Int} {a m : Nat} (h : ¬ zNu f a m > 1000000) : zNu f a (m + 1) = 10 * zNu f a m + f (a + m) - 48 := if_neg h
theorem zNu_r {f : Nat → Int} {a : Nat} : ∀ m, (∀ i, i < m → 48 ≤ f (a + i) ∧ f (a + i) ≤ 57) → 0 ≤ zNu f a m ∧ zNu f a m ≤ 10000009
  | 0, _ => ⟨Int.le_refl _, by show (0 : Int) ≤ 10000009; decide⟩
  | m + 1, h => by
    have h1 := zNu_r m (fun i hi => h i (by omega))
    have h2 := h m (by omega)
    by_cases g : zNu f a m > 1000000
    · rw [zNu_t g]; exact h1
    · rw [zNu_f g]; omega
theorem zNu_m {f : Nat → Int} {a m : Nat} (h : ∀ i, i < m + 1 → 48 ≤ f (a + i) ∧ f (a + i) ≤ 57) : min (zNu f a (m + 1)) 1001 = min (10 * min (zNu f a m) 1001 + f (a + m) - 48) 1001 := by
  have h1 := zNu_r m (fun i hi => h i (by omega))
  have h2 := h m (by omega)
  by_cases g : zNu f a m > 1000000
  · rw [zNu_t g]; omega
  · rw [zNu_f g]; omega
/-! codes and values of TOKENS -/
def zCo (f : Nat → Int) (a s : Nat) : Int := if zKl (f a) = 1 then zWc f a s else if zKl (f a) = 2 then 50 else 100 + f a
def zVa (f : Nat → Int) (a s : Nat) : Int := if zKl (f a) = 2 then zNu f a (s - a) else 0
theorem zCo_1 {f : Nat → Int} {a s : Nat} (h : zKl (f a) = 1) : zCo f a s = zWc f a s := if_pos h
theorem zCo_2 {f : Nat → Int} {a s : Nat} (h : zKl (f a) = 2) : zCo f a s = 50 := (if_neg (by omega)).trans (if_pos h)
theorem zCo_0 {f : Nat → Int} {a s : Nat} (h : zKl (f a) = 0) : zCo f a s = 100 + f a := (if_neg (by omega)).trans (if_neg (by omega))
theorem zVa_2 {f : Nat → Int} {a s : Nat} (h : zKl (f a) = 2) : zVa f a s = zNu f a (s - a) := if_pos h
theorem zVa_0 {f : Nat → Int} {a s : Nat} (h : ¬ zKl (f a) = 2) : zVa f a s = 0 := if_neg h
def zCd (f : Nat → Int) (L : List (Nat × Nat)) (t : Nat) : Int := match L[t]? with
  | some q => zCo f q.1 q.2
  | none => 0
def zVl (f : Nat → Int) (L : List (Nat × Nat)) (t : Nat) : Int := match L[t]? with
  | some q => zVa f q.1 q.2
  | none => 0
def zPc (n : Nat) (L : List (Nat × Nat)) (t : Nat) : Int := match L[t]? with
  | some q => (q.1 : Int)
  | none => (n : Int)
theorem zCd_s {f : Nat → Int} {L : List (Nat × Nat)} {t : Nat} {q : Nat × Nat} (h : L[t]? = some q) : zCd f L t = zCo f q.1 q.2 := by
  unfold zCd
  rw [h]
theorem zCd_n {f : Nat → Int} {L : List (Nat × Nat)} {t : Nat} (h : L[t]? = none) : zCd f L t = 0 := by
  unfold zCd
  rw [h]
theorem zVl_s {f : Nat → Int} {L : List (Nat × Nat)} {t : Nat} {q : Nat × Nat} (h : L[t]? = some q) : zVl f L t = zVa f q.1 q.2 := by
  unfold zVl
  rw [h]
theorem zVl_n {f : Nat → Int} {L : List (Nat × Nat)} {t : Nat} (h : L[t]? = none) : zVl f L t = 0 := by
  unfold zVl
  rw [h]
theorem zPc_s {n : Nat} {L : List (Nat × Nat)} {t : Nat} {q : Nat × Nat} (h : L[t]? = some q) : zPc n L t = q.1 := by
  unfold zPc
  rw [h]
theorem zPc_n {n : Nat} {L : List (Nat × Nat)} {t : Nat} (h : L[t]? = none) : zPc n L t = n := by
  unfold zPc
  rw [h]
/-! the class's rows of TOKENS -/
def zKo (f : Nat → Int) (a s : Nat) (k : Int) : Prop := zKd k (zCo f a s) (zVa f a s) ∧ ¬ k = 256 ∧ (zCo f a s = 3 ∨ zCo f a s = 4 → a + 2 ≤ s)
theorem zKo_w {f : Nat → Int} {a s : Nat} {k : Int} (h : zKl (f a) = 1) (hk : (zWc f a s = 0 ∧ k = 257) ∨ (1 ≤ zWc f a s ∧ zWc f a s ≤ 5 ∧ k = 257 + zWc f a s) ∨ (6 ≤ zWc f a s ∧ k = 5 - zWc f a s)) : zKo f a s k := by
  obtain ⟨h1, h2⟩ := zWc_r f a s
  unfold zKo zKd
  rw [zCo_1 h]
  exact ⟨by omega, by omega, h2⟩
theorem zKo_n {f : Nat → Int} {a s : Nat} {k : Int} (h : zKl (f a) = 2) (hd : ∀ i, i < s - a → 48 ≤ f (a + i) ∧ f (a + i) ≤ 57) (hk : k = 300 + min (zNu f a (s - a)) 1001) : zKo f a s k := by
  have h1 := zNu_r (s - a) hd
  unfold zKo zKd
  rw [zCo_2 h, zVa_2 h]
  exact ⟨by omega, by omega, by omega⟩
theorem zKo_b {f : Nat → Int} {a s : Nat} {k : Int} (h : zKl (f a) = 0) (hb : 0 ≤ f a ∧ f a ≤ 255) (hk : k = f a) : zKo f a s k := by
  unfold zKo zKd
  rw [zCo_0 h]
  exact ⟨by omega, by omega, by omega⟩
def zDn (f : Nat → Int) (dn : List (Nat × Nat)) (F G : Nat → Int) : Prop := ∀ t p, dn[t]? = some p → G t = p.1 ∧ zKo f p.1 p.2 (F t)
theorem zDn_0 {f F G : Nat → Int} : zDn f [] F G := fun t p h => by simp at h
theorem zDn_ad {f F G : Nat → Int} {dn : List (Nat × Nat)} {a s : Nat} {k v : Int} (h : zDn f dn F G) (hk : zKo f a s k) (hv : v = a) : zDn f (dn ++ [(a, s)]) (up1 F dn.length k) (up1 G dn.length v) := fun t p hp => by
  by_cases ht : t < dn.length
  · rw [List.getElem?_append_left ht] at hp
    rw [up1_n _ _ (by omega), up1_n _ _ (by omega)]
    exact h t p hp
  · have h2 : t = dn.length := by
      have := (List.getElem?_eq_some_iff.mp hp).1
      rw [List.length_append, List.length_singleton] at this
      omega
    subst h2
    rw [List.getElem?_append_right (Nat.le_refl _), Nat.sub_self] at hp
    cases hp
    rw [up1_s, up1_s]
    exact ⟨hv, hk⟩
theorem zTK_mk {f : Nat → Int} {n : Nat} {I : aI1} {L : List (Nat × Nat)} (hL : L = zTk f n 0) (hn : n ≤ 400) (h : zDn f L (I 11) (I 12)) (h6 : I 10 6 = L.length) (hT : L.length ≤ 400) (e1 : I 11 L.length = 256) (e2 : I 12 L.length = n) : zTK I (zCd f L) (zVl f L) L.length ∧ ∀ t, t ≤ L.length → I 12 t = zPc n L t := by
  have hN : L[L.length]? = none := List.getElem?_eq_none (Nat.le_refl _)
  have hs : ∀ t, t < L.length → ∃ q, L[t]? = some q := fun t ht => ⟨L[t], List.getElem?_eq_getElem ht⟩
  have hp : ∀ t, t ≤ L.length → I 12 t = zPc n L t := fun t ht => by
    by_cases e : t = L.length
    · rw [e, e2, zPc_n hN]
    · obtain ⟨q, hq⟩ := hs t (by omega)
      rw [zPc_s hq]
      exact (h t q hq).1
  have ho : ∀ t q, L[t]? = some q → q.1 < q.2 ∧ q.2 ≤ n ∧ (q.2 : Int) ≤ zPc n L (t + 1) := fun t q hq => by
    have hq2 := hq
    rw [hL] at hq2
    obtain ⟨-, o1, o2, o3⟩ := zTk_ord hq2
    refine ⟨o1, o2, ?_⟩
    cases hr : L[t + 1]? with
    | none => rw [zPc_n hr]; omega
    | some r =>
      rw [zPc_s hr]
      rw [hL] at hr
      have := o3 r hr
      omega
  refine ⟨⟨h6, hT, fun t ht => ?_, ⟨e1, zCd_n hN⟩, fun t ht => ?_, fun t ht => ?_⟩, hp⟩
  · by_cases e : t = L.length
    · rw [e, e1, zCd_n hN]
      exact Or.inl ⟨rfl, Or.inl rfl⟩
    · obtain ⟨q, hq⟩ := hs t (by omega)
      rw [zCd_s hq, zVl_s hq]
      exact (h t q hq).2.1
  · obtain ⟨q, hq⟩ := hs t ht
    obtain ⟨o1, o2, o3⟩ := ho t q hq
    obtain ⟨k1, k2, k3, k4⟩ := h t q hq
    rw [hp (t + 1) (by omega), k1, zCd_s hq]
    exact ⟨k3, by omega, fun hc => by have := k4 hc; omega⟩
  · rw [hp t ht]
    by_cases e : t = L.length
    · rw [e, zPc_n hN]
      omega
    · obtain ⟨q, hq⟩ := hs t (by omega)
      obtain ⟨o1, o2, o3⟩ := ho t q hq
      rw [zPc_s hq]
      omega
