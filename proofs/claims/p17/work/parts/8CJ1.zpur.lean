section
/-! Laws: what a text tells, as pure words. zE: what is asked of a STATE; zD: what is told by it (none: BROKEN). -/
abbrev zE : Type := Nat → Int
abbrev zD : Type := zE → Option Int
abbrev zR : Type := Nat ⊕ (Nat × Nat × zD)
abbrev zP : Type := Nat → Nat → zR
def zJv (op a b : Int) : Int := if op = 143 then a + b else if op = 145 then a - b else if op = 142 then a * b else if op = 147 then a.tdiv b else if op = 137 then a.tmod b else if op = 160 then (if a < b then 1 else 0) else if op = 162 then (if b < a then 1 else 0) else (if a = b then 1 else 0)
def zJn (op a b : Int) : Option Int := if (op = 147 ∨ op = 137) ∧ b = 0 then none else if zJv op a b ≤ 1000000000 ∧ -1000000000 ≤ zJv op a b then some (zJv op a b) else none
def zJD (op : Int) (D F : zD) : zD := fun en => match D en with
  | none => none
  | some a => match F en with
    | none => none
    | some b => zJn op a b
def zJB (op : Int) (D F : zD) : zD := fun en => match D en with
  | none => none
  | some a => if (op = 3 ∧ ¬ a = 0) ∨ (op = 4 ∧ a = 0) then some a else F en
def zFl (D : zD) : zD := fun en => match D en with
  | none => none
  | some a => some (1 - a)
theorem zJD_n {op : Int} {D F : zD} {en : zE} (h : D en = none) : zJD op D F en = none := by
  unfold zJD
  rw [h]
theorem zJD_sn {op : Int} {D F : zD} {en : zE} {a : Int} (h : D en = some a) (g : F en = none) : zJD op D F en = none := by
  unfold zJD
  rw [h, g]
theorem zJD_s {op : Int} {D F : zD} {en : zE} {a b : Int} (h : D en = some a) (g : F en = some b) : zJD op D F en = zJn op a b := by
  unfold zJD
  rw [h, g]
theorem zJB_n {op : Int} {D F : zD} {en : zE} (h : D en = none) : zJB op D F en = none := by
  unfold zJB
  rw [h]
theorem zJB_t {op : Int} {D F : zD} {en : zE} {a : Int} (h : D en = some a) (g : (op = 3 ∧ ¬ a = 0) ∨ (op = 4 ∧ a = 0)) : zJB op D F en = some a := by
  unfold zJB
  rw [h]
  exact if_pos g
theorem zJB_f {op : Int} {D F : zD} {en : zE} {a : Int} (h : D en = some a) (g : ¬ ((op = 3 ∧ ¬ a = 0) ∨ (op = 4 ∧ a = 0))) : zJB op D F en = F en := by
  unfold zJB
  rw [h]
  exact if_neg g
theorem zFl_n {D : zD} {en : zE} (h : D en = none) : zFl D en = none := by
  unfold zFl
  rw [h]
theorem zFl_s {D : zD} {en : zE} {a : Int} (h : D en = some a) : zFl D en = some (1 - a) := by
  unfold zFl
  rw [h]
/-- a TEST tells 1 or 0 -/
def zBl (D : zD) : Prop := ∀ (en : zE) (w : Int), D en = some w → w = 0 ∨ w = 1
theorem zBl_jd {op : Int} {D F : zD} (ho : 160 ≤ op ∧ op ≤ 162) : zBl (zJD op D F) := fun en w h => by
  cases hD : D en with
  | none => rw [zJD_n hD] at h; cases h
  | some a =>
    cases hF : F en with
    | none => rw [zJD_sn hD hF] at h; cases h
    | some b =>
      rw [zJD_s hD hF] at h
      unfold zJn at h
      rw [if_neg (by omega)] at h
      split at h
      · cases h
        unfold zJv
        rw [if_neg (by omega), if_neg (by omega), if_neg (by omega), if_neg (by omega), if_neg (by omega)]
        repeat' split
        all_goals first | exact Or.inl rfl | exact Or.inr rfl
      · cases h
theorem zBl_jb {op : Int} {D F : zD} (h1 : zBl D) (h2 : zBl F) : zBl (zJB op D F) := fun en w h => by
  cases hD : D en with
  | none => rw [zJB_n hD] at h; cases h
  | some a =>
    by_cases hc : (op = 3 ∧ ¬ a = 0) ∨ (op = 4 ∧ a = 0)
    · rw [zJB_t hD hc] at h
      cases h
      exact h1 en _ hD
    · rw [zJB_f hD hc] at h
      exact h2 en w h
theorem zBl_fl {D : zD} (h1 : zBl D) : zBl (zFl D) := fun en w h => by
  cases hD : D en with
  | none => rw [zFl_n hD] at h; cases h
  | some a =>
    rw [zFl_s hD] at h
    cases h
    have := h1 en a hD
    omega
/-! the parser: codes cd and values vl of TOKENS -/
def zLf (cd vl : Nat → Int) (t : Nat) : Option zD := if cd t = 50 ∧ vl t ≤ 1000 then some (fun _ => some (vl t)) else if 6 ≤ cd t ∧ cd t ≤ 13 then some (fun en => some (en (cd t - 6).toNat)) else none
def zBr (P : Option zP) (cd : Nat → Int) (cl : Int) (t l : Nat) : zR := match P with
  | none => .inl t
  | some P => match P (t + 1) l with
    | .inl f => .inl f
    | .inr q => if cd q.1 = cl then .inr (q.1 + 1, q.2) else .inl q.1
def zLe (cd vl : Nat → Int) (t l : Nat) : zR := match zLf cd vl t with
  | none => .inl t
  | some D => if l < 50 then .inr (t + 1, l + 1, D) else .inl t
def zPart (P : Option zP) (cd vl : Nat → Int) : zP := fun t l => if cd t = 191 then zBr P cd 193 t l else zLe cd vl t l
def zRest (P : zP) (ops : List Int) (jn : Int → zD → zD → zD) (cd : Nat → Int) : Nat → Nat → Nat → zD → zR
  | 0, t, l, D => .inr (t, l, D)
  | n + 1, t, l, D => if cd t ∈ ops then (match P (t + 1) l with
      | .inl f => .inl f
      | .inr q => zRest P ops jn cd n q.1 q.2.1 (jn (cd t) D q.2.2)) else .inr (t, l, D)
def zSeq (P : zP) (ops : List Int) (jn : Int → zD → zD → zD) (cd : Nat → Int) : zP := fun t l => match P t l with
  | .inl f => .inl f
  | .inr q => zRest P ops jn cd 400 q.1 q.2.1 q.2.2
def zTm (P : Option zP) (cd vl : Nat → Int) : zP := zSeq (zPart P cd vl) [142, 147, 137] zJD cd
def zSo (P : Option zP) (cd vl : Nat → Int) : zP := zSeq (zTm P cd vl) [143, 145] zJD cd
def zSu (cd vl : Nat → Int) : Nat → Option zP
  | 0 => none
  | k + 1 => some (zSo (zSu cd vl k) cd vl)
def zCm (S : zP) (cd : Nat → Int) (t l : Nat) : zR := match S t l with
  | .inl f => .inl f
  | .inr q => if 160 ≤ cd q.1 ∧ cd q.1 ≤ 162 then (match S (q.1 + 1) q.2.1 with
      | .inl f => .inl f
      | .inr r => .inr (r.1, r.2.1, zJD (cd q.1) q.2.2 r.2.2)) else .inl q.1
def zPos (P : Option zP) (S : zP) (cd : Nat → Int) : zP := fun t l => if cd t = 140 then zBr P cd 141 t l else zCm S cd t l
def zNt (cd : Nat → Int) : Nat → Nat → Int → Nat × Int
  | 0, t, f => (t, f)
  | n + 1, t, f => if cd t = 5 then zNt cd n (t + 1) (1 - f) else (t, f)
def zFp (f : Int) : zR → zR
  | .inl a => .inl a
  | .inr q => .inr (q.1, q.2.1, if f = 1 then zFl q.2.2 else q.2.2)
def zPl (P : Option zP) (S : zP) (cd : Nat → Int) : zP := fun t l => zFp (zNt cd 400 t 0).2 (zPos P S cd (zNt cd 400 t 0).1 l)
def zBo (P : Option zP) (S : zP) (cd : Nat → Int) : zP := zSeq (zPl P S cd) [4] zJB cd
def zTo (P : Option zP) (S : zP) (cd : Nat → Int) : zP := zSeq (zBo P S cd) [3] zJB cd
def zTu (cd vl : Nat → Int) : Nat → Option zP
  | 0 => none
  | k + 1 => some (zTo (zTu cd vl k) (zSo (zSu cd vl k) cd vl) cd)
/-- SUM and TEST with m brackets left -/
def zS (cd vl : Nat → Int) (m : Nat) : zP := zSo (zSu cd vl m) cd vl
def zT (cd vl : Nat → Int) (m : Nat) : zP := zTo (zTu cd vl m) (zS cd vl m) cd
abbrev zQ : Type := zD × Option zD
def zCl (cd vl : Nat → Int) (t l : Nat) : Nat ⊕ (Nat × Nat × zQ) := if cd t = 1 then (match zS cd vl 8 (t + 1) l with
  | .inl f => .inl f
  | .inr q => if cd q.1 = 2 then (match zT cd vl 8 (q.1 + 1) q.2.1 with
      | .inl f => .inl f
      | .inr r => .inr (r.1, r.2.1, q.2.2, some r.2.2)) else .inr (q.1, q.2.1, q.2.2, none)) else .inl t
def zLw (cd vl : Nat → Int) (T : Nat) : Nat → Nat → Nat → Nat ⊕ List zQ
  | 0, t, _ => .inl t
  | n + 1, t, l => match zCl cd vl t l with
    | .inl f => .inl f
    | .inr q => if q.1 = T then .inr [q.2.2] else if cd q.1 = 159 then (match zLw cd vl T n (q.1 + 1) q.2.1 with
        | .inl f => .inl f
        | .inr qs => .inr (q.2.2 :: qs)) else .inl q.1
/-- what a CLAUSE tells, if it HOLDS; the last that HOLDS -/
def zCv (q : zQ) (en : zE) : Option Int := match q.2 with
  | none => q.1 en
  | some F => match F en with
    | none => none
    | some w => if w = 0 then none else q.1 en
def zTl : List zQ → zE → Option Int
  | [], _ => none
  | q :: qs, en => match zTl qs en with
    | some x => some x
    | none => zCv q en
theorem zTl_no : ∀ (qs : List zQ) (en : zE), (∀ (i : Nat) (q : zQ), qs[i]? = some q → zCv q en = none) → zTl qs en = none
  | [], _, _ => rfl
  | q :: qs, en, h => by
    have h1 := zTl_no qs en (fun i r hr => h (i + 1) r (by simpa using hr))
    unfold zTl
    rw [h1]
    exact h 0 q rfl
theorem zTl_at : ∀ (qs : List zQ) (en : zE) (i : Nat) (q : zQ) (x : Int), qs[i]? = some q → zCv q en = some x → (∀ (j : Nat) (r : zQ), i < j → qs[j]? = some r → zCv r en = none) → zTl qs en = some x
  | [], _, _, _, _, h, _, _ => by simp at h
  | p :: qs, en, 0, q, x, h, h1, h2 => by
    have e : p = q := by simpa using h
    subst e
    have h3 := zTl_no qs en (fun i r hr => h2 (i + 1) r (by omega) (by simpa using hr))
    unfold zTl
    rw [h3]
    exact h1
  | p :: qs, en, i + 1, q, x, h, h1, h2 => by
    have h3 := zTl_at qs en i q x (by simpa using h) h1 (fun j r hj hr => h2 (j + 1) r (by omega) (by simpa using hr))
    unfold zTl
    rw [h3]
theorem zTl_c1 {q : zQ} {qs : List zQ} {en : zE} {x : Int} (h : zTl qs en = some x) : zTl (q :: qs) en = some x := by
  unfold zTl
  rw [h]
theorem zTl_c0 {q : zQ} {qs : List zQ} {en : zE} (h : zTl qs en = none) : zTl (q :: qs) en = zCv q en := by
  show (match zTl qs en with
    | some x => some x
    | none => zCv q en) = _
  rw [h]
/-! steps on a stack -/
def zOc (x : Int) : Int := if x = -11 then 143 else if x = -12 then 145 else if x = -13 then 142 else if x = -14 then 147 else if x = -15 then 137 else if x = -16 then 160 else if x = -17 then 162 else 161
/-- one step from place a: none: stuck; some none: BROKEN -/
def zst (sp : Nat → Int) (en : zE) (B a : Nat) (s : List Int) : Option (Option (Nat × List Int)) :=
  if -8 ≤ sp a then (if s.length < 64 then some (some (a + 1, (if 0 ≤ sp a then sp a else en (-1 - sp a).toNat) :: s)) else none)
  else match s with
  | [] => none
  | v :: s1 =>
    if sp a = -19 then (if v = 0 ∨ v = 1 then some (some (a + 1, (1 - v) :: s1)) else none)
    else if sp a = -20 ∨ sp a = -21 then
      (if a + 1 < B then (if (sp a = -20 ∧ ¬ v = 0) ∨ (sp a = -21 ∧ v = 0) then some (some (max (a + 2) (sp (a + 1)).toNat, v :: s1)) else some (some (a + 2, s1))) else none)
    else match s1 with
    | [] => none
    | u :: s2 => match zJn (zOc (sp a)) u v with
      | none => some none
      | some w => some (some (a + 1, w :: s2))
theorem zst_p {sp : Nat → Int} {en : zE} {B a : Nat} {s : List Int} (h : -8 ≤ sp a) (hs : s.length < 64) : zst sp en B a s = some (some (a + 1, (if 0 ≤ sp a then sp a else en (-1 - sp a).toNat) :: s)) := by
  unfold zst
  rw [if_pos h, if_pos hs]
theorem zst_f {sp : Nat → Int} {en : zE} {B a : Nat} {s : List Int} {v : Int} (h : sp a = -19) (hv : v = 0 ∨ v = 1) : zst sp en B a (v :: s) = some (some (a + 1, (1 - v) :: s)) := by
  unfold zst
  rw [if_neg (by omega)]
  show (if sp a = -19 then _ else _) = _
  rw [if_pos h, if_pos hv]
theorem zst_jt {sp : Nat → Int} {en : zE} {B a : Nat} {s : List Int} {v : Int} (h : sp a = -20 ∨ sp a = -21) (hB : a + 1 < B) (hv : (sp a = -20 ∧ ¬ v = 0) ∨ (sp a = -21 ∧ v = 0)) : zst sp en B a (v :: s) = some (some (max (a + 2) (sp (a + 1)).toNat, v :: s)) := by
  unfold zst
  rw [if_neg (by omega)]
  show (if sp a = -19 then _ else _) = _
  rw [if_neg (by omega), if_pos h, if_pos hB, if_pos hv]
theorem zst_jf {sp : Nat → Int} {en : zE} {B a : Nat} {s : List Int} {v : Int} (h : sp a = -20 ∨ sp a = -21) (hB : a + 1 < B) (hv : ¬ ((sp a = -20 ∧ ¬ v = 0) ∨ (sp a = -21 ∧ v = 0))) : zst sp en B a (v :: s) = some (some (a + 2, s)) := by
  unfold zst
  rw [if_neg (by omega)]
  show (if sp a = -19 then _ else _) = _
  rw [if_neg (by omega), if_pos h, if_pos hB, if_neg hv]
theorem zst_o {sp : Nat → Int} {en : zE} {B a : Nat} {s : List Int} {u v : Int} (h : sp a ≤ -9 ∧ ¬ sp a = -19 ∧ ¬ sp a = -20 ∧ ¬ sp a = -21) : zst sp en B a (v :: u :: s) = (match zJn (zOc (sp a)) u v with
      | none => some none
      | some w => some (some (a + 1, w :: s))) := by
  unfold zst
  rw [if_neg (by omega)]
  show (if sp a = -19 then _ else _) = _
  rw [if_neg (by omega), if_neg (by omega)]
theorem zst_lt {sp : Nat → Int} {en : zE} {B a a1 : Nat} {s s1 : List Int} (h : zst sp en B a s = some (some (a1, s1))) : a < a1 := by
  unfold zst at h
  repeat' split at h
  all_goals first | (cases h; omega) | cases h
theorem zst_mo {sp : Nat → Int} {en : zE} {B B2 a : Nat} {s : List Int} {r : Option (Nat × List Int)} (h : zst sp en B a s = some r) (hB : B ≤ B2) : zst sp en B2 a s = some r := by
  by_cases h4 : a + 1 < B
  · have h5 : a + 1 < B2 := by omega
    unfold zst at h ⊢
    simp only [if_pos h4] at h
    simp only [if_pos h5]
    exact h
  · unfold zst at h ⊢
    simp only [if_neg h4] at h
    by_cases h1 : -8 ≤ sp a
    · rw [if_pos h1] at h ⊢
      exact h
    · rw [if_neg h1] at h ⊢
      cases s with
      | nil => cases h
      | cons v s1 =>
        revert h
        show (if sp a = -19 then _ else _) = _ → (if sp a = -19 then _ else _) = _
        by_cases h2 : sp a = -19
        · rw [if_pos h2, if_pos h2]
          exact id
        · rw [if_neg h2, if_neg h2]
          by_cases h3 : sp a = -20 ∨ sp a = -21
          · rw [if_pos h3]
            intro h
            cases h
          · rw [if_neg h3, if_neg h3]
            exact id
theorem zst_cg {sp sp2 : Nat → Int} {en : zE} {B a : Nat} {s : List Int} {r : Option (Nat × List Int)} (h : zst sp en B a s = some r) (ha : a < B) (hs : ∀ j, a ≤ j → j < B → sp2 j = sp j) : zst sp2 en B a s = some r := by
  have h0 : sp2 a = sp a := hs a (Nat.le_refl _) ha
  unfold zst at h ⊢
  rw [h0]
  by_cases h4 : a + 1 < B
  · rw [hs (a + 1) (by omega) h4]
    exact h
  · simp only [if_neg h4] at h ⊢
    exact h
def zRn (sp : Nat → Int) (en : zE) (B : Nat) : Nat → Nat → List Int → Nat → List Int → Prop
  | 0, a, s, b, s' => a = b ∧ s = s'
  | n + 1, a, s, b, s' => a < B ∧ ∃ a1 s1, zst sp en B a s = some (some (a1, s1)) ∧ zRn sp en B n a1 s1 b s'
theorem zRn_tr {sp : Nat → Int} {en : zE} {B m b c : Nat} {s' s'' : List Int} (g : zRn sp en B m b s' c s'') : ∀ (n a : Nat) (s : List Int), zRn sp en B n a s b s' → zRn sp en B (n + m) a s c s''
  | 0, a, s, h => by
    obtain ⟨rfl, rfl⟩ := h
    rw [Nat.zero_add]
    exact g
  | n + 1, a, s, h => by
    obtain ⟨h1, a1, s1, h2, h3⟩ := h
    rw [show n + 1 + m = (n + m) + 1 by omega]
    exact ⟨h1, a1, s1, h2, zRn_tr g n a1 s1 h3⟩
theorem zRn_mo {sp : Nat → Int} {en : zE} {B B2 b : Nat} {s' : List Int} (hB : B ≤ B2) : ∀ (n a : Nat) (s : List Int), zRn sp en B n a s b s' → zRn sp en B2 n a s b s'
  | 0, _, _, h => h
  | n + 1, _, _, h => by
    obtain ⟨h1, a1, s1, h2, h3⟩ := h
    exact ⟨by omega, a1, s1, zst_mo h2 hB, zRn_mo hB n a1 s1 h3⟩
theorem zRn_cg {sp sp2 : Nat → Int} {en : zE} {B b : Nat} {s' : List Int} : ∀ (n a : Nat) (s : List Int), zRn sp en B n a s b s' → (∀ j, a ≤ j → j < B → sp2 j = sp j) → zRn sp2 en B n a s b s'
  | 0, _, _, h, _ => h
  | n + 1, a, s, h, hs => by
    obtain ⟨h1, a1, s1, h2, h3⟩ := h
    have h4 := zst_lt h2
    exact ⟨h1, a1, s1, zst_cg h2 h1 hs, zRn_cg n a1 s1 h3 (fun j g1 g2 => hs j (by omega) g2)⟩
theorem zRn_le {sp : Nat → Int} {en : zE} {B b : Nat} {s' : List Int} : ∀ (n a : Nat) (s : List Int), zRn sp en B n a s b s' → a ≤ b
  | 0, _, _, h => Nat.le_of_eq h.1
  | n + 1, a, s, h => by
    obtain ⟨h1, a1, s1, h2, h3⟩ := h
    have h4 := zst_lt h2
    have h5 := zRn_le n a1 s1 h3
    omega
def zBk (sp : Nat → Int) (en : zE) (B a : Nat) (s : List Int) : Prop := ∃ n a1 s1, zRn sp en B n a s a1 s1 ∧ a1 < B ∧ zst sp en B a1 s1 = some none
theorem zBk_tr {sp : Nat → Int} {en : zE} {B n a b : Nat} {s s' : List Int} (h : zRn sp en B n a s b s') (g : zBk sp en B b s') : zBk sp en B a s := by
  obtain ⟨m, a1, s1, g1, g2, g3⟩ := g
  exact ⟨n + m, a1, s1, zRn_tr g1 n a s h, g2, g3⟩
theorem zBk_mo {sp : Nat → Int} {en : zE} {B B2 a : Nat} {s : List Int} (g : zBk sp en B a s) (hB : B ≤ B2) : zBk sp en B2 a s := by
  obtain ⟨m, a1, s1, g1, g2, g3⟩ := g
  exact ⟨m, a1, s1, zRn_mo hB m a s g1, by omega, zst_mo g3 hB⟩
theorem zBk_cg {sp sp2 : Nat → Int} {en : zE} {B a : Nat} {s : List Int} (g : zBk sp en B a s) (hs : ∀ j, a ≤ j → j < B → sp2 j = sp j) : zBk sp2 en B a s := by
  obtain ⟨m, a1, s1, g1, g2, g3⟩ := g
  have h1 := zRn_le m a s g1
  exact ⟨m, a1, s1, zRn_cg m a s g1 hs, g2, zst_cg g3 g2 (fun j q1 q2 => hs j (by omega) q2)⟩
/-- the steps a .. b - 1 tell D, with l places of the stack at most -/
def zSeg (sp : Nat → Int) (a b : Nat) (D : zD) (l : Nat) : Prop := a < b ∧ 1 ≤ l ∧ ∀ (en : zE) (s : List Int), s.length + l ≤ 64 → (∀ v, D en = some v → ∃ n, zRn sp en b n a s b (v :: s)) ∧ (D en = none → zBk sp en b a s)
theorem zSeg_cg {sp sp2 : Nat → Int} {a b l : Nat} {D : zD} (h : zSeg sp a b D l) (hs : ∀ j, a ≤ j → j < b → sp2 j = sp j) : zSeg sp2 a b D l := by
  refine ⟨h.1, h.2.1, fun en s hl => ?_⟩
  have h3 := h.2.2 en s hl
  refine ⟨fun v hv => ?_, fun hn => zBk_cg (h3.2 hn) hs⟩
  obtain ⟨n, hn⟩ := h3.1 v hv
  exact ⟨n, zRn_cg n a s hn hs⟩
theorem zRn_1 {sp : Nat → Int} {en : zE} {B a a1 : Nat} {s s1 : List Int} (hB : a < B) (h : zst sp en B a s = some (some (a1, s1))) : zRn sp en B 1 a s a1 s1 := ⟨hB, a1, s1, h, rfl, rfl⟩
theorem zSeg_num {sp : Nat → Int} {a : Nat} {v : Int} (h : sp a = v) (h0 : 0 ≤ v) : zSeg sp a (a + 1) (fun _ => some v) 1 := by
  refine ⟨by omega, by omega, fun en s hl => ⟨fun w hw => ⟨1, zRn_1 (by omega) ?_⟩, fun hn => by cases hn⟩⟩
  cases hw
  rw [zst_p (by omega) (by omega), if_pos (by omega), h]
theorem zSeg_wd {sp : Nat → Int} {a : Nat} {cc : Int} (h : sp a = 5 - cc) (h0 : 6 ≤ cc) (h1 : cc ≤ 13) : zSeg sp a (a + 1) (fun en => some (en (cc - 6).toNat)) 1 := by
  refine ⟨by omega, by omega, fun en s hl => ⟨fun w hw => ⟨1, zRn_1 (by omega) ?_⟩, fun hn => by cases hn⟩⟩
  cases hw
  rw [zst_p (by omega) (by omega), if_neg (by omega), h, show (-1 - (5 - cc)).toNat = (cc - 6).toNat by omega]
theorem zSeg_jn {sp : Nat → Int} {a b c l k : Nat} {D F : zD} {x op : Int} (h1 : zSeg sp a b D l) (h2 : zSeg sp b c F k) (h3 : sp c = x) (hx : -18 ≤ x ∧ x ≤ -11) (ho : zOc x = op) : zSeg sp a (c + 1) (zJD op D F) (l + k) := by
  have b1 := h1.1
  have b2 := h2.1
  have b3 := h1.2.1
  refine ⟨by omega, by omega, fun en s hs => ?_⟩
  have g1 := h1.2.2 en s (by omega)
  have g2 := fun v : Int => h2.2.2 en (v :: s) (by rw [List.length_cons]; omega)
  cases hD : D en with
  | none =>
    rw [zJD_n hD]
    exact ⟨fun v hv => (by cases hv), fun _ => zBk_mo (g1.2 hD) (by omega)⟩
  | some a1 =>
    obtain ⟨n, hn⟩ := g1.1 a1 hD
    have hn2 : zRn sp en (c + 1) n a s b (a1 :: s) := zRn_mo (by omega) n a s hn
    cases hF : F en with
    | none =>
      rw [zJD_sn hD hF]
      exact ⟨fun v hv => (by cases hv), fun _ => zBk_tr hn2 (zBk_mo ((g2 a1).2 hF) (by omega))⟩
    | some b9 =>
      rw [zJD_s hD hF]
      obtain ⟨m, hm⟩ := (g2 a1).1 b9 hF
      have h4 : zRn sp en (c + 1) (n + m) a s c (b9 :: a1 :: s) := zRn_tr (zRn_mo (by omega) m b _ hm) n a s hn2
      have h5 := zst_o (sp := sp) (en := en) (B := c + 1) (a := c) (s := s) (u := a1) (v := b9) (by omega)
      rw [h3, ho] at h5
      cases hj : zJn op a1 b9 with
      | none =>
        rw [hj] at h5
        exact ⟨fun v hv => (by cases hv), fun _ => ⟨n + m, c, _, h4, by omega, h5⟩⟩
      | some w =>
        rw [hj] at h5
        refine ⟨fun v hv => ?_, fun hv => by cases hv⟩
        cases hv
        exact ⟨n + m + 1, zRn_tr (zRn_1 (by omega) h5) (n + m) a s h4⟩
theorem zSeg_jb {sp : Nat → Int} {a b c l k : Nat} {D F : zD} {x op : Int} (h1 : zSeg sp a b D l) (h2 : zSeg sp (b + 2) c F k) (h3 : sp b = x) (h4 : sp (b + 1) = (c : Int)) (hx : (x = -20 ∧ op = 3) ∨ (x = -21 ∧ op = 4)) : zSeg sp a c (zJB op D F) (l + k) := by
  have b1 := h1.1
  have b2 := h2.1
  have b3 := h1.2.1
  refine ⟨by omega, by omega, fun en s hs => ?_⟩
  have g1 := h1.2.2 en s (by omega)
  have g2 := h2.2.2 en s (by omega)
  cases hD : D en with
  | none =>
    rw [zJB_n hD]
    exact ⟨fun v hv => (by cases hv), fun _ => zBk_mo (g1.2 hD) (by omega)⟩
  | some a1 =>
    obtain ⟨n, hn⟩ := g1.1 a1 hD
    have hn2 : zRn sp en c n a s b (a1 :: s) := zRn_mo (by omega) n a s hn
    by_cases hc : (op = 3 ∧ ¬ a1 = 0) ∨ (op = 4 ∧ a1 = 0)
    · rw [zJB_t hD hc]
      have h5 := zst_jt (sp := sp) (en := en) (B := c) (a := b) (s := s) (v := a1) (by omega) (by omega) (by omega)
      rw [h4, show max (b + 2) ((c : Int)).toNat = c by omega] at h5
      refine ⟨fun v hv => ?_, fun hv => by cases hv⟩
      cases hv
      exact ⟨n + 1, zRn_tr (zRn_1 (by omega) h5) n a s hn2⟩
    · rw [zJB_f hD hc]
      have h5 := zst_jf (sp := sp) (en := en) (B := c) (a := b) (s := s) (v := a1) (by omega) (by omega) (by omega)
      have h6 : zRn sp en c (n + 1) a s (b + 2) s := zRn_tr (zRn_1 (by omega) h5) n a s hn2
      refine ⟨fun v hv => ?_, fun hv => zBk_tr h6 (g2.2 hv)⟩
      obtain ⟨m, hm⟩ := g2.1 v hv
      exact ⟨n + 1 + m, zRn_tr hm (n + 1) a s h6⟩
theorem zSeg_fl {sp : Nat → Int} {a b l : Nat} {D : zD} (h1 : zSeg sp a b D l) (h2 : zBl D) (h3 : sp b = -19) : zSeg sp a (b + 1) (zFl D) l := by
  have b1 := h1.1
  refine ⟨by omega, h1.2.1, fun en s hs => ?_⟩
  have g1 := h1.2.2 en s hs
  cases hD : D en with
  | none =>
    rw [zFl_n hD]
    exact ⟨fun v hv => (by cases hv), fun _ => zBk_mo (g1.2 hD) (by omega)⟩
  | some a1 =>
    rw [zFl_s hD]
    obtain ⟨n, hn⟩ := g1.1 a1 hD
    refine ⟨fun v hv => ?_, fun hv => by cases hv⟩
    cases hv
    exact ⟨n + 1, zRn_tr (zRn_1 (by omega) (zst_f h3 (h2 en a1 hD))) n a s (zRn_mo (by omega) n a s hn)⟩
/-- how it ends from place a -/
def zFin (sp : Nat → Int) (en : zE) (B a : Nat) (s : List Int) (r : Option Int) : Prop := (∀ v, r = some v → ∃ n, zRn sp en B n a s B [v]) ∧ (r = none → zBk sp en B a s)
theorem zFin_of {sp : Nat → Int} {en : zE} {a b l : Nat} {D : zD} (h : zSeg sp a b D l) (hl : l ≤ 64) : zFin sp en b a [] (D en) := h.2.2 en [] (by simpa using hl)
theorem zFin_st {sp : Nat → Int} {en : zE} {B a : Nat} {s : List Int} {r : Option Int} (h : zFin sp en B a s r) (ha : a < B) : (zst sp en B a s = some none ∧ r = none) ∨ ∃ a1 s1, zst sp en B a s = some (some (a1, s1)) ∧ zFin sp en B a1 s1 r := by
  cases r with
  | none =>
    obtain ⟨n, a1, s1, h1, h2, h3⟩ := h.2 rfl
    cases n with
    | zero =>
      obtain ⟨rfl, rfl⟩ := h1
      exact Or.inl ⟨h3, rfl⟩
    | succ n =>
      obtain ⟨-, a2, s2, h4, h5⟩ := h1
      exact Or.inr ⟨a2, s2, h4, fun v hv => (by cases hv), fun _ => ⟨n, a1, s1, h5, h2, h3⟩⟩
  | some v =>
    obtain ⟨n, h1⟩ := h.1 v rfl
    cases n with
    | zero =>
      have := h1.1
      omega
    | succ n =>
      obtain ⟨-, a2, s2, h4, h5⟩ := h1
      refine Or.inr ⟨a2, s2, h4, fun w hw => ?_, fun hv => by cases hv⟩
      cases hw
      exact ⟨n, h5⟩
theorem zFin_en {sp : Nat → Int} {en : zE} {B a : Nat} {s : List Int} {r : Option Int} (h : zFin sp en B a s r) (ha : ¬ a < B) : ∃ v, r = some v ∧ s = [v] := by
  cases r with
  | none =>
    obtain ⟨n, a1, s1, h1, h2, h3⟩ := h.2 rfl
    have := zRn_le n a s h1
    omega
  | some v =>
    obtain ⟨n, h1⟩ := h.1 v rfl
    cases n with
    | zero => exact ⟨v, rfl, h1.2⟩
    | succ n => exact absurd h1.1 ha
/-- the stack as it lies in a row, the top first -/
def zSK (F : Nat → Int) : List Int → Prop
  | [] => True
  | v :: s => F s.length = v ∧ (-1000000000 ≤ v ∧ v ≤ 1000000000) ∧ zSK F s
theorem zSK_up {F : Nat → Int} {j : Nat} {w : Int} : ∀ s : List Int, zSK F s → s.length ≤ j → zSK (up1 F j w) s
  | [], _, _ => trivial
  | v :: s, h, hj => by
    rw [List.length_cons] at hj
    exact ⟨(up1_n _ _ (by omega)).trans h.1, h.2.1, zSK_up s h.2.2 (by omega)⟩
theorem zSK_pu {F : Nat → Int} {w : Int} {s : List Int} (h : zSK F s) (hw : -1000000000 ≤ w ∧ w ≤ 1000000000) : zSK (up1 F s.length w) (w :: s) := ⟨up1_s _ _ _, hw, zSK_up s h (Nat.le_refl _)⟩
theorem zJn_r {op a b w : Int} (h : zJn op a b = some w) : -1000000000 ≤ w ∧ w ≤ 1000000000 := by
  unfold zJn at h
  split at h
  · cases h
  · split at h
    · cases h
      omega
    · cases h
/-! pieces of the parser, one by one -/
theorem zBr_0 {cd : Nat → Int} {cl : Int} {t l : Nat} : zBr none cd cl t l = .inl t := rfl
theorem zBr_f {P : zP} {cd : Nat → Int} {cl : Int} {t l f : Nat} (h : P (t + 1) l = .inl f) : zBr (some P) cd cl t l = .inl f := by
  show (match P (t + 1) l with
    | .inl f => Sum.inl f
    | .inr q => if cd q.1 = cl then .inr (q.1 + 1, q.2) else .inl q.1) = _
  rw [h]
theorem zBr_s {P : zP} {cd : Nat → Int} {cl : Int} {t l : Nat} {q : Nat × Nat × zD} (h : P (t + 1) l = .inr q) (hc : cd q.1 = cl) : zBr (some P) cd cl t l = .inr (q.1 + 1, q.2) := by
  show (match P (t + 1) l with
    | .inl f => Sum.inl f
    | .inr q => if cd q.1 = cl then .inr (q.1 + 1, q.2) else .inl q.1) = _
  rw [h]
  exact if_pos hc
theorem zBr_n {P : zP} {cd : Nat → Int} {cl : Int} {t l : Nat} {q : Nat × Nat × zD} (h : P (t + 1) l = .inr q) (hc : ¬ cd q.1 = cl) : zBr (some P) cd cl t l = .inl q.1 := by
  show (match P (t + 1) l with
    | .inl f => Sum.inl f
    | .inr q => if cd q.1 = cl then .inr (q.1 + 1, q.2) else .inl q.1) = _
  rw [h]
  exact if_neg hc
theorem zLf_n {cd vl : Nat → Int} {t : Nat} (h : cd t = 50 ∧ vl t ≤ 1000) : zLf cd vl t = some (fun _ => some (vl t)) := if_pos h
theorem zLf_w {cd vl : Nat → Int} {t : Nat} (h : 6 ≤ cd t ∧ cd t ≤ 13) : zLf cd vl t = some (fun en => some (en (cd t - 6).toNat)) := by
  unfold zLf
  rw [if_neg (by omega), if_pos h]
theorem zLf_0 {cd vl : Nat → Int} {t : Nat} (h1 : ¬ (cd t = 50 ∧ vl t ≤ 1000)) (h2 : ¬ (6 ≤ cd t ∧ cd t ≤ 13)) : zLf cd vl t = none := by
  unfold zLf
  rw [if_neg h1, if_neg h2]
theorem zLe_0 {cd vl : Nat → Int} {t l : Nat} (h : zLf cd vl t = none) : zLe cd vl t l = .inl t := by
  unfold zLe
  rw [h]
theorem zLe_s {cd vl : Nat → Int} {t l : Nat} {D : zD} (h : zLf cd vl t = some D) (hl : l < 50) : zLe cd vl t l = .inr (t + 1, l + 1, D) := by
  unfold zLe
  rw [h]
  exact if_pos hl
theorem zLe_f {cd vl : Nat → Int} {t l : Nat} {D : zD} (h : zLf cd vl t = some D) (hl : ¬ l < 50) : zLe cd vl t l = .inl t := by
  unfold zLe
  rw [h]
  exact if_neg hl
theorem zRest_no {P : zP} {ops : List Int} {jn : Int → zD → zD → zD} {cd : Nat → Int} {t l : Nat} {D : zD} (h : ¬ cd t ∈ ops) : ∀ n, zRest P ops jn cd n t l D = .inr (t, l, D)
  | 0 => rfl
  | n + 1 => if_neg h
theorem zRest_f {P : zP} {ops : List Int} {jn : Int → zD → zD → zD} {cd : Nat → Int} {n t l f : Nat} {D : zD} (h : cd t ∈ ops) (hp : P (t + 1) l = .inl f) : zRest P ops jn cd (n + 1) t l D = .inl f := by
  show (if cd t ∈ ops then (match P (t + 1) l with
      | .inl f => Sum.inl f
      | .inr q => zRest P ops jn cd n q.1 q.2.1 (jn (cd t) D q.2.2)) else .inr (t, l, D)) = _
  rw [if_pos h, hp]
theorem zRest_s {P : zP} {ops : List Int} {jn : Int → zD → zD → zD} {cd : Nat → Int} {n t l : Nat} {D : zD} {q : Nat × Nat × zD} (h : cd t ∈ ops) (hp : P (t + 1) l = .inr q) : zRest P ops jn cd (n + 1) t l D = zRest P ops jn cd n q.1 q.2.1 (jn (cd t) D q.2.2) := by
  show (if cd t ∈ ops then (match P (t + 1) l with
      | .inl f => Sum.inl f
      | .inr q => zRest P ops jn cd n q.1 q.2.1 (jn (cd t) D q.2.2)) else .inr (t, l, D)) = _
  rw [if_pos h, hp]
theorem zSeq_f {P : zP} {ops : List Int} {jn : Int → zD → zD → zD} {cd : Nat → Int} {t l f : Nat} (hp : P t l = .inl f) : zSeq P ops jn cd t l = .inl f := by
  unfold zSeq
  rw [hp]
theorem zSeq_s {P : zP} {ops : List Int} {jn : Int → zD → zD → zD} {cd : Nat → Int} {t l : Nat} {q : Nat × Nat × zD} (hp : P t l = .inr q) : zSeq P ops jn cd t l = zRest P ops jn cd 400 q.1 q.2.1 q.2.2 := by
  unfold zSeq
  rw [hp]
theorem zCm_f {S : zP} {cd : Nat → Int} {t l f : Nat} (h : S t l = .inl f) : zCm S cd t l = .inl f := by
  unfold zCm
  rw [h]
theorem zCm_n {S : zP} {cd : Nat → Int} {t l : Nat} {q : Nat × Nat × zD} (h : S t l = .inr q) (hc : ¬ (160 ≤ cd q.1 ∧ cd q.1 ≤ 162)) : zCm S cd t l = .inl q.1 := by
  unfold zCm
  rw [h]
  exact if_neg hc
theorem zCm_g {S : zP} {cd : Nat → Int} {t l f : Nat} {q : Nat × Nat × zD} (h : S t l = .inr q) (hc : 160 ≤ cd q.1 ∧ cd q.1 ≤ 162) (g : S (q.1 + 1) q.2.1 = .inl f) : zCm S cd t l = .inl f := by
  unfold zCm
  rw [h]
  refine (if_pos hc).trans ?_
  rw [g]
theorem zCm_s {S : zP} {cd : Nat → Int} {t l : Nat} {q r : Nat × Nat × zD} (h : S t l = .inr q) (hc : 160 ≤ cd q.1 ∧ cd q.1 ≤ 162) (g : S (q.1 + 1) q.2.1 = .inr r) : zCm S cd t l = .inr (r.1, r.2.1, zJD (cd q.1) q.2.2 r.2.2) := by
  unfold zCm
  rw [h]
  refine (if_pos hc).trans ?_
  rw [g]
theorem zNt_s {cd : Nat → Int} {n t : Nat} {f : Int} (h : cd t = 5) : zNt cd (n + 1) t f = zNt cd n (t + 1) (1 - f) := if_pos h
theorem zNt_n {cd : Nat → Int} {t : Nat} {f : Int} (h : ¬ cd t = 5) : ∀ n, zNt cd n t f = (t, f)
  | 0 => rfl
  | n + 1 => if_neg h
theorem zPl_e {P : Option zP} {S : zP} {cd : Nat → Int} {t l t1 : Nat} {f : Int} (h : zNt cd 400 t 0 = (t1, f)) : zPl P S cd t l = zFp f (zPos P S cd t1 l) := by
  unfold zPl
  rw [h]
theorem zPos_b {P : Option zP} {S : zP} {cd : Nat → Int} {t l : Nat} (h : cd t = 140) : zPos P S cd t l = zBr P cd 141 t l := if_pos h
theorem zPos_c {P : Option zP} {S : zP} {cd : Nat → Int} {t l : Nat} (h : ¬ cd t = 140) : zPos P S cd t l = zCm S cd t l := if_neg h
theorem zPart_b {P : Option zP} {cd vl : Nat → Int} {t l : Nat} (h : cd t = 191) : zPart P cd vl t l = zBr P cd 193 t l := if_pos h
theorem zPart_l {P : Option zP} {cd vl : Nat → Int} {t l : Nat} (h : ¬ cd t = 191) : zPart P cd vl t l = zLe cd vl t l := if_neg h
theorem zCl_0 {cd vl : Nat → Int} {t l : Nat} (h : ¬ cd t = 1) : zCl cd vl t l = .inl t := if_neg h
theorem zCl_f {cd vl : Nat → Int} {t l f : Nat} (h : cd t = 1) (h1 : zS cd vl 8 (t + 1) l = .inl f) : zCl cd vl t l = .inl f := by
  unfold zCl
  rw [if_pos h, h1]
theorem zCl_n {cd vl : Nat → Int} {t l : Nat} {q : Nat × Nat × zD} (h : cd t = 1) (h1 : zS cd vl 8 (t + 1) l = .inr q) (h2 : ¬ cd q.1 = 2) : zCl cd vl t l = .inr (q.1, q.2.1, q.2.2, none) := by
  unfold zCl
  rw [if_pos h, h1]
  exact if_neg h2
theorem zCl_g {cd vl : Nat → Int} {t l f : Nat} {q : Nat × Nat × zD} (h : cd t = 1) (h1 : zS cd vl 8 (t + 1) l = .inr q) (h2 : cd q.1 = 2) (h3 : zT cd vl 8 (q.1 + 1) q.2.1 = .inl f) : zCl cd vl t l = .inl f := by
  unfold zCl
  rw [if_pos h, h1]
  refine (if_pos h2).trans ?_
  rw [h3]
theorem zCl_s {cd vl : Nat → Int} {t l : Nat} {q r : Nat × Nat × zD} (h : cd t = 1) (h1 : zS cd vl 8 (t + 1) l = .inr q) (h2 : cd q.1 = 2) (h3 : zT cd vl 8 (q.1 + 1) q.2.1 = .inr r) : zCl cd vl t l = .inr (r.1, r.2.1, q.2.2, some r.2.2) := by
  unfold zCl
  rw [if_pos h, h1]
  refine (if_pos h2).trans ?_
  rw [h3]
/-- the laws' clauses behind those that were read -/
def zLa (ac : List zQ) : Nat ⊕ List zQ → Nat ⊕ List zQ
  | .inl f => .inl f
  | .inr qs => .inr (ac ++ qs)
theorem zLw_f {cd vl : Nat → Int} {T n t l f : Nat} (h : zCl cd vl t l = .inl f) : zLw cd vl T (n + 1) t l = .inl f := by
  unfold zLw
  rw [h]
theorem zLw_e {cd vl : Nat → Int} {T n t l : Nat} {q : Nat × Nat × zQ} (h : zCl cd vl t l = .inr q) (hT : q.1 = T) : zLw cd vl T (n + 1) t l = .inr [q.2.2] := by
  unfold zLw
  rw [h]
  exact if_pos hT
theorem zLw_n {cd vl : Nat → Int} {T n t l : Nat} {q : Nat × Nat × zQ} (h : zCl cd vl t l = .inr q) (hT : ¬ q.1 = T) (hc : ¬ cd q.1 = 159) : zLw cd vl T (n + 1) t l = .inl q.1 := by
  unfold zLw
  rw [h]
  refine (if_neg hT).trans ?_
  exact if_neg hc
theorem zLw_s {cd vl : Nat → Int} {T n t l : Nat} {q : Nat × Nat × zQ} (h : zCl cd vl t l = .inr q) (hT : ¬ q.1 = T) (hc : cd q.1 = 159) : zLw cd vl T (n + 1) t l = zLa [q.2.2] (zLw cd vl T n (q.1 + 1) q.2.1) := by
  show (match zCl cd vl t l with
    | .inl f => Sum.inl f
    | .inr q => if q.1 = T then .inr [q.2.2] else if cd q.1 = 159 then (match zLw cd vl T n (q.1 + 1) q.2.1 with
        | .inl f => Sum.inl f
        | .inr qs => .inr (q.2.2 :: qs)) else .inl q.1) = _
  rw [h]
  refine (if_neg hT).trans ((if_pos hc).trans ?_)
  cases zLw cd vl T n (q.1 + 1) q.2.1 <;> rfl
theorem zLa_la (a b : List zQ) (r : Nat ⊕ List zQ) : zLa a (zLa b r) = zLa (a ++ b) r := by
  cases r with
  | inl f => rfl
  | inr qs => show Sum.inr (a ++ (b ++ qs)) = Sum.inr (a ++ b ++ qs); rw [List.append_assoc]
end
section
/-! the class's reader of laws: what its rows say of TOKENS (codes cd, values vl, T of them) -/
def zKd (k c v : Int) : Prop := (c = 0 ∧ (k = 256 ∨ k = 257)) ∨ (1 ≤ c ∧ c ≤ 5 ∧ k = 257 + c) ∨ (6 ≤ c ∧ c ≤ 13 ∧ k = 5 - c) ∨ (c = 50 ∧ 0 ≤ v ∧ k = 300 + min v 1001) ∨ (100 ≤ c ∧ c ≤ 355 ∧ k = c - 100)
def zTK (I : aI1) (cd vl : Nat → Int) (T : Nat) : Prop := I 10 6 = T ∧ T ≤ 400 ∧ (∀ t, t ≤ T → zKd (I 11 t) (cd t) (vl t)) ∧ (I 11 T = 256 ∧ cd T = 0) ∧ (∀ t, t < T → ¬ I 11 t = 256 ∧ I 12 t + 1 ≤ I 12 (t + 1) ∧ (cd t = 3 ∨ cd t = 4 → I 12 t + 2 ≤ I 12 (t + 1))) ∧ (∀ t, t ≤ T → 0 ≤ I 12 t ∧ I 12 t ≤ 400)
def zFr (I I' : aI1) : Prop := I' 11 = I 11 ∧ I' 12 = I 12 ∧ I' 14 = I 14 ∧ I' 10 6 = I 10 6
theorem zFr_rf {I : aI1} : zFr I I := ⟨rfl, rfl, rfl, rfl⟩
theorem zFr_tr {I I1 I2 : aI1} (h : zFr I I1) (g : zFr I1 I2) : zFr I I2 := ⟨g.1.trans h.1, g.2.1.trans h.2.1, g.2.2.1.trans h.2.2.1, g.2.2.2.trans h.2.2.2⟩
theorem zFr_f {I I1 : aI1} {j : Nat} {v : Int} (h : zFr I I1) (hj : j ≠ 6) : zFr I (up2 I1 10 j v) := zFr_tr h ⟨up2_off _ _ _ (by decide), up2_off _ _ _ (by decide), up2_off _ _ _ (by decide), up2_n _ _ (Or.inr (Ne.symm hj))⟩
theorem zFr_13 {I I1 : aI1} {j : Nat} {v : Int} (h : zFr I I1) : zFr I (up2 I1 13 j v) := zFr_tr h ⟨up2_off _ _ _ (by decide), up2_off _ _ _ (by decide), up2_off _ _ _ (by decide), by rw [up2_off _ _ _ (by decide)]⟩
theorem zTK_fr {I I' : aI1} {cd vl : Nat → Int} {T : Nat} (h : zTK I cd vl T) (e11 : I' 11 = I 11) (e12 : I' 12 = I 12) (e6 : I' 10 6 = I 10 6) : zTK I' cd vl T := by
  unfold zTK at h ⊢
  rw [e11, e12, e6]
  exact h
theorem zTK_f {I I' : aI1} {cd vl : Nat → Int} {T : Nat} (h : zTK I cd vl T) (f : zFr I I') : zTK I' cd vl T := zTK_fr h f.1 f.2.1 f.2.2.2
def zAt (I : aI1) (T t l : Nat) : Prop := I 10 7 = t ∧ t ≤ T ∧ I 10 8 = I 11 t ∧ I 10 10 = l ∧ 0 ≤ I 10 9 ∧ I 10 9 ≤ I 12 t
theorem zK_b {I : aI1} {cd vl : Nat → Int} {T t l : Nat} (h : zTK I cd vl T) (ha : zAt I T t l) (k : Int) (h0 : 0 ≤ k) (h1 : k ≤ 255) : I 10 8 = k ↔ cd t = 100 + k := by
  have h2 := h.2.2.1 t ha.2.1
  rw [ha.2.2.1]
  unfold zKd at h2
  omega
theorem zK_w {I : aI1} {cd vl : Nat → Int} {T t l : Nat} (h : zTK I cd vl T) (ha : zAt I T t l) (k : Int) (h0 : 258 ≤ k) (h1 : k ≤ 262) : I 10 8 = k ↔ cd t = k - 257 := by
  have h2 := h.2.2.1 t ha.2.1
  rw [ha.2.2.1]
  unfold zKd at h2
  omega
theorem zK_lf {I : aI1} {cd vl : Nat → Int} {T t l : Nat} (h : zTK I cd vl T) (ha : zAt I T t l) : (I 10 8 < 0 → 6 ≤ cd t ∧ cd t ≤ 13 ∧ I 10 8 = 5 - cd t) ∧ (300 ≤ I 10 8 ∧ I 10 8 ≤ 1300 → cd t = 50 ∧ 0 ≤ vl t ∧ vl t ≤ 1000 ∧ I 10 8 = 300 + vl t) ∧ (¬ I 10 8 < 0 → ¬ (300 ≤ I 10 8 ∧ I 10 8 ≤ 1300) → ¬ (cd t = 50 ∧ vl t ≤ 1000) ∧ ¬ (6 ≤ cd t ∧ cd t ≤ 13)) := by
  have h2 := h.2.2.1 t ha.2.1
  rw [ha.2.2.1]
  unfold zKd at h2
  omega
theorem zK_e {I : aI1} {cd vl : Nat → Int} {T t l : Nat} (h : zTK I cd vl T) (ha : zAt I T t l) : I 10 8 = 256 ↔ t = T := by
  rw [ha.2.2.1]
  constructor
  · intro h1
    by_cases e : t = T
    · exact e
    · have h3 := ha.2.1
      exact absurd h1 (h.2.2.2.2.1 t (by omega)).1
  · intro e
    rw [e]
    exact h.2.2.2.1.1
theorem zK_lt {I : aI1} {cd vl : Nat → Int} {T t l : Nat} (h : zTK I cd vl T) (ha : zAt I T t l) (hc : ¬ cd t = 0) : t < T := by
  have h3 := ha.2.1
  by_cases e : t = T
  · rw [e] at hc
    exact absurd h.2.2.2.1.2 hc
  · omega
/-- what each small step does -/
def zAv (I I' : aI1) : Prop := I' 10 7 = min (I 10 7 + 1) (I 10 6) ∧ I' 10 8 = I 11 (I' 10 7).toNat ∧ I' 10 9 = I 10 9 ∧ I' 10 10 = I 10 10 ∧ I' 13 = I 13 ∧ I' 10 0 = I 10 0
def zSP (I I' : aI1) (a : Int) : Prop := I 10 9 < 400 → I' 10 9 = I 10 9 + 1 ∧ I' 10 7 = I 10 7 ∧ I' 10 8 = I 10 8 ∧ I' 10 10 = I 10 10 ∧ I' 13 = up1 (I 13) (I 10 9).toNat a ∧ I' 10 0 = I 10 0
def zOS (I I' : aI1) (a x : Int) : Prop := I 10 9 < 399 → x = I 10 9 + 1 ∧ I' 10 9 = I 10 9 + 2 ∧ I' 10 7 = I 10 7 ∧ I' 10 8 = I 10 8 ∧ I' 10 10 = I 10 10 ∧ I' 13 = up1 (up1 (I 13) (I 10 9).toNat a) (I 10 9 + 1).toNat 0 ∧ I' 10 0 = I 10 0
def zCS0 (I I' : aI1) (a : Int) : Prop := 0 ≤ a ∧ a < 400 → I' 10 9 = I 10 9 ∧ I' 10 7 = I 10 7 ∧ I' 10 8 = I 10 8 ∧ I' 10 10 = I 10 10 ∧ I' 13 = up1 (I 13) a.toNat (I 10 9) ∧ I' 10 0 = I 10 0
def zFa (I I' : aI1) (x : Int) : Prop := x = 0 ∧ I' 10 0 = I 12 (I 10 7).toNat
def zTS (I I' : aI1) (a x : Int) : Prop := (¬ I 10 8 = a → zFa I I' x) ∧ (I 10 8 = a → x = 1 ∧ zAv I I')
theorem zAt_av {I I' : aI1} {cd vl : Nat → Int} {T t l : Nat} (h : zTK I cd vl T) (ha : zAt I T t l) (hc : ¬ cd t = 0) (f : zFr I I') (hv : zAv I I') : zAt I' T (t + 1) l ∧ I' 13 = I 13 ∧ I' 10 9 = I 10 9 ∧ I 12 t + 1 ≤ I 12 (t + 1) ∧ (cd t = 3 ∨ cd t = 4 → I 12 t + 2 ≤ I 12 (t + 1)) ∧ I' 10 0 = I 10 0 := by
  have hlt := zK_lt h ha hc
  have h5 := (h.2.2.2.2.1 t hlt).2
  obtain ⟨v1, v2, v3, v4, v5, v0⟩ := hv
  obtain ⟨a1, a2, a3, a4, a5, a6⟩ := ha
  have e7 : I' 10 7 = ((t + 1 : Nat) : Int) := by
    rw [v1, a1, h.1]
    omega
  have h6 := h5.1
  refine ⟨⟨e7, by omega, ?_, by rw [v4, a4], by omega, ?_⟩, v5, v3, h5.1, h5.2, v0⟩
  · rw [v2, e7, f.1]
    rfl
  · rw [f.2.1, v3]
    omega
/-- read well: up to q -/
def zOk (Bq : zD → Prop) (I I' : aI1) (T t l : Nat) (q : Nat × Nat × zD) : Prop := zAt I' T q.1 q.2.1 ∧ t < q.1 ∧ l < q.2.1 ∧ I 10 9 < I' 10 9 ∧ I' 10 9 - I 10 9 ≤ I 12 q.1 - I 12 t ∧ (∀ j : Nat, (j : Int) < I 10 9 → I' 13 j = I 13 j) ∧ zSeg (I' 13) (I 10 9).toNat (I' 10 9).toNat q.2.2 (q.2.1 - l) ∧ Bq q.2.2 ∧ I' 10 0 = I 10 0
def zPO (Bq : zD → Prop) (I I' : aI1) (T t l : Nat) (x : Int) : zR → Prop
  | .inl f => x = 0 ∧ f ≤ T ∧ I' 10 0 = I 12 f
  | .inr q => x = 1 ∧ zOk Bq I I' T t l q
def zTr : zD → Prop := fun _ => True
theorem zPO_0 {Bq : zD → Prop} {I I' : aI1} {T t l : Nat} {x : Int} {r : zR} (h : zPO Bq I I' T t l x r) (hx : x = 0) : ∃ f, r = .inl f ∧ f ≤ T ∧ I' 10 0 = I 12 f := by
  cases r with
  | inl f => exact ⟨f, rfl, h.2⟩
  | inr q => exact absurd h.1 (by omega)
theorem zPO_1 {Bq : zD → Prop} {I I' : aI1} {T t l : Nat} {x : Int} {r : zR} (h : zPO Bq I I' T t l x r) (hx : x = 1) : ∃ q, r = .inr q ∧ zOk Bq I I' T t l q := by
  cases r with
  | inl f => exact absurd h.1 (by omega)
  | inr q => exact ⟨q, rfl, h.2⟩
theorem zPO_l {Bq : zD → Prop} {I I' : aI1} {T t l f : Nat} {x : Int} {r : zR} (hr : r = .inl f) (hx : x = 0) (hf : f ≤ T) (h0 : I' 10 0 = I 12 f) : zPO Bq I I' T t l x r := by
  rw [hr]
  exact ⟨hx, hf, h0⟩
theorem zPO_r {Bq : zD → Prop} {I I' : aI1} {T t l : Nat} {x : Int} {r : zR} {q : Nat × Nat × zD} (hr : r = .inr q) (hx : x = 1) (h : zOk Bq I I' T t l q) : zPO Bq I I' T t l x r := by
  rw [hr]
  exact ⟨hx, h⟩
theorem zPO_fa {Bq : zD → Prop} {I I' : aI1} {T t l : Nat} {x : Int} {r : zR} (ha : zAt I T t l) (h : zFa I I' x) (hr : r = .inl t) : zPO Bq I I' T t l x r := by
  have h2 := h.2
  rw [ha.1] at h2
  exact zPO_l hr h.1 ha.2.1 h2
/-- a fault behind the first TOKENS -/
theorem zPO_in {Bq : zD → Prop} {I I1 I' : aI1} {T t l f : Nat} {x : Int} {r : zR} (e12 : I1 12 = I 12) (hr : r = .inl f) (hx : x = 0) (hf : f ≤ T) (h0 : I' 10 0 = I1 12 f) : zPO Bq I I' T t l x r := zPO_l hr hx hf (by rw [h0, e12])
theorem zAv_at {I I2 I3 : aI1} {cd vl : Nat → Int} {T t l : Nat} (hk : zTK I cd vl T) (f2 : zFr I I2) (f3 : zFr I2 I3) (hv : zAv I2 I3) (hlt : t < T) (e7 : I2 10 7 = t) (e10 : I2 10 10 = l) (h0 : 0 ≤ I2 10 9) (h1 : I2 10 9 ≤ I 12 (t + 1)) : zAt I3 T (t + 1) l := by
  obtain ⟨v1, v2, v3, v4, v5, v0⟩ := hv
  have e6 : I2 10 6 = (T : Int) := f2.2.2.2.trans hk.1
  have e7' : I3 10 7 = ((t + 1 : Nat) : Int) := by
    rw [v1, e7, e6]
    omega
  refine ⟨e7', by omega, ?_, by rw [v4, e10], by omega, ?_⟩
  · rw [v2, e7', f3.1]
    rfl
  · rw [f3.2.1, f2.2.1, v3]
    exact h1
theorem zPO_lf {I I1 I2 I3 : aI1} {cd vl : Nat → Int} {T t l : Nat} {a : Int} (hk : zTK I cd vl T) (ha : zAt I T t l) (f1 : zFr I I1) (e13 : I1 13 = I 13) (e7 : I1 10 7 = I 10 7) (e9 : I1 10 9 = I 10 9) (e10 : I1 10 10 = I 10 10 + 1) (e0 : I1 10 0 = I 10 0) (f2 : zFr I1 I2) (hs : zSP I1 I2 a) (f3 : zFr I2 I3) (hv : zAv I2 I3) (hl : l < 50)
    (hc : (cd t = 50 ∧ 0 ≤ vl t ∧ vl t ≤ 1000 ∧ a = vl t) ∨ (6 ≤ cd t ∧ cd t ≤ 13 ∧ a = 5 - cd t)) : zPO zTr I I3 T t l 1 (zLe cd vl t l) := by
  have hlt := zK_lt hk ha (by omega)
  have hp := hk.2.2.2.2.2 t (by omega)
  have hp2 := hk.2.2.2.2.2 (t + 1) (by omega)
  have hp1 := (hk.2.2.2.2.1 t hlt).2.1
  obtain ⟨a1, a2, a3, a4, a5, a6⟩ := id ha
  obtain ⟨s1, s2, s3, s4, s5, s0⟩ := hs (by omega)
  have hat : zAt I3 T (t + 1) (l + 1) := zAv_at hk (zFr_tr f1 f2) f3 hv hlt (by omega) (by omega) (by omega) (by omega)
  have e13' : I3 13 = up1 (I 13) (I 10 9).toNat a := by rw [hv.2.2.2.2.1, s5, e13, e9]
  have e9' : I3 10 9 = I 10 9 + 1 := by rw [hv.2.2.1, s1, e9]
  have hD : ∃ D, zLf cd vl t = some D ∧ zSeg (I3 13) (I 10 9).toNat (I3 10 9).toNat D (l + 1 - l) := by
    rw [show (I3 10 9).toNat = (I 10 9).toNat + 1 by omega, show l + 1 - l = 1 by omega]
    have hv9 : I3 13 (I 10 9).toNat = a := by rw [e13', up1_s]
    rcases hc with ⟨c1, c2, c3, c4⟩ | ⟨c1, c2, c3⟩
    · exact ⟨_, zLf_n ⟨c1, c3⟩, zSeg_num (by rw [hv9, c4]) c2⟩
    · exact ⟨_, zLf_w ⟨c1, c2⟩, zSeg_wd (by rw [hv9, c3]) c1 c2⟩
  obtain ⟨D, d1, d2⟩ := hD
  refine zPO_r (zLe_s d1 hl) rfl ⟨hat, Nat.lt_succ_self t, Nat.lt_succ_self l, by omega, ?_, fun j hj => ?_, d2, trivial, by rw [hv.2.2.2.2.2, s0, e0]⟩
  · show I3 10 9 - I 10 9 ≤ I 12 (t + 1) - I 12 t
    omega
  · rw [e13', up1_n _ _ (by omega)]
/-- a bracket: behind the sign, the inner, the other sign -/
theorem zPO_bf {Bq : zD → Prop} {P : zP} {I I1 I2 : aI1} {cd : Nat → Int} {cl : Int} {T t l : Nat} {x y : Int} (f1 : zFr I I1) (hp : zPO Bq I1 I2 T (t + 1) l x (P (t + 1) l)) (hx : x = 0) (hy : y = 0) : zPO Bq I I2 T t l y (zBr (some P) cd cl t l) := by
  obtain ⟨f, h1, h2, h3⟩ := zPO_0 hp hx
  exact zPO_in f1.2.1 (zBr_f h1) hy h2 h3
theorem zPO_bs {Bq : zD → Prop} {P : zP} {I I1 I2 I3 : aI1} {cd vl : Nat → Int} {k cl : Int} {T t l : Nat} {x y : Int} (hk : zTK I cd vl T) (ha : zAt I T t l) (hc : ¬ cd t = 0) (f1 : zFr I I1) (hv : zAv I I1) (f2 : zFr I1 I2) (hp : zPO Bq I1 I2 T (t + 1) l x (P (t + 1) l)) (hx : x = 1) (f3 : zFr I2 I3) (hs : zTS I2 I3 k y) (h0 : 0 ≤ k) (h1 : k ≤ 255) (hcl : cl = 100 + k) : zPO Bq I I3 T t l y (zBr (some P) cd cl t l) := by
  obtain ⟨q, q1, q2⟩ := zPO_1 hp hx
  obtain ⟨b1, b2, b3, b4, b5, b6, b7, b8, b0⟩ := q2
  have hk2 : zTK I2 cd vl T := zTK_f (zTK_f hk f1) f2
  have hb := zK_b hk2 b1 k h0 h1
  subst hcl
  obtain ⟨v1, v2, v3, v4, v5, v0⟩ := zAt_av hk ha hc f1 hv
  by_cases e : I2 10 8 = k
  · have hcq := hb.mp e
    obtain ⟨t1, t2⟩ := hs.2 e
    obtain ⟨w1, w2, w3, w4, w5, w0⟩ := zAt_av hk2 b1 (by omega) f3 t2
    have e12 : I2 12 = I 12 := f2.2.1.trans f1.2.1
    have e12' : I1 12 = I 12 := f1.2.1
    rw [e12] at w4
    rw [e12'] at b5
    refine zPO_r (zBr_s q1 hcq) t1 ⟨w1, by show t < q.1 + 1; omega, b3, by omega, ?_, fun j hj => ?_, ?_, b8, by rw [w0, b0, v0]⟩
    · show I3 10 9 - I 10 9 ≤ I 12 (q.1 + 1) - I 12 t
      omega
    · rw [w2, b6 j (by omega), v2]
    · rw [w2, w3, ← v3]
      exact b7
  · have hcq : ¬ cd q.1 = 100 + k := fun h => e (hb.mpr h)
    obtain ⟨t1, t2⟩ := hs.1 e
    rw [b1.1] at t2
    refine zPO_in (I1 := I2) (f2.2.1.trans f1.2.1) (zBr_n q1 hcq) t1 b1.2.1 t2
/-- two put together -/
theorem zOk_jn {Bq Cq Dq : zD → Prop} {I I2 I3 I4 I5 : aI1} {cd vl : Nat → Int} {T t l : Nat} {q r : Nat × Nat × zD} {x op : Int} (hk : zTK I cd vl T) (f2 : zFr I I2) (h1 : zOk Bq I I2 T t l q) (hc : ¬ cd q.1 = 0) (f3 : zFr I2 I3) (hv : zAv I2 I3) (f4 : zFr I3 I4) (h2 : zOk Cq I3 I4 T (q.1 + 1) q.2.1 r) (f5 : zFr I4 I5) (hs : zSP I4 I5 x) (hx : -18 ≤ x ∧ x ≤ -11) (ho : zOc x = op) (hD : Dq (zJD op q.2.2 r.2.2)) : zOk Dq I I5 T t l (r.1, r.2.1, zJD op q.2.2 r.2.2) := by
  obtain ⟨a1, a2, a3, a4, a5, a6, a7, a8, a0⟩ := h1
  obtain ⟨b1, b2, b3, b4, b5, b6, b7, b8, b0⟩ := h2
  have hk2 := zTK_f hk f2
  obtain ⟨v1, v2, v3, v4, v5, v0⟩ := zAt_av hk2 a1 hc f3 hv
  have e2 : I2 12 = I 12 := f2.2.1
  have e3 : I3 12 = I 12 := f3.2.1.trans e2
  have e4 : I4 12 = I 12 := f4.2.1.trans e3
  have e5 : I5 12 = I 12 := f5.2.1.trans e4
  have hp := hk.2.2.2.2.2 r.1 b1.2.1
  rw [e2] at v4
  rw [e3] at b5
  obtain ⟨c1, c2, c3, c4, c5, c6⟩ := id b1
  obtain ⟨d1, d2, d3, d4, d5, d6⟩ := id a1
  rw [e2] at d6
  rw [e4] at c6
  obtain ⟨s1, s2, s3, s4, s5, s0⟩ := hs (by omega)
  refine ⟨⟨by rw [s2, c1], c2, by rw [s3, c3, f5.1], by rw [s4, c4], by omega, ?_⟩, ?_, ?_, by omega, ?_, fun j hj => ?_, ?_, hD, by rw [s0, b0, v0, a0]⟩
  · show I5 10 9 ≤ I5 12 r.1
    rw [e5]
    omega
  · show t < r.1
    omega
  · show l < r.2.1
    omega
  · show I5 10 9 - I 10 9 ≤ I 12 r.1 - I 12 t
    omega
  · rw [s5, up1_n _ _ (by omega), b6 j (by omega), v2, a6 j hj]
  · have g1 : zSeg (I5 13) (I 10 9).toNat (I2 10 9).toNat q.2.2 (q.2.1 - l) := zSeg_cg a7 (fun j j1 j2 => by rw [s5, up1_n _ _ (by omega), b6 j (by omega), v2])
    have g2 : zSeg (I5 13) (I2 10 9).toNat (I4 10 9).toNat r.2.2 (r.2.1 - q.2.1) := by
      rw [← v3]
      exact zSeg_cg b7 (fun j j1 j2 => by rw [s5, up1_n _ _ (by omega)])
    have g3 := zSeg_jn g1 g2 (x := x) (op := op) (by rw [s5, up1_s]) hx ho
    rw [show (I5 10 9).toNat = (I4 10 9).toNat + 1 by omega]
    rw [show q.2.1 - l + (r.2.1 - q.2.1) = r.2.1 - l by omega] at g3
    exact g3
theorem zOk_jb {Bq : zD → Prop} {I I2 I3 I4 I5 I6 : aI1} {cd vl : Nat → Int} {T t l : Nat} {q r : Nat × Nat × zD} {x op h9 : Int} (hk : zTK I cd vl T) (f2 : zFr I I2) (h1 : zOk Bq I I2 T t l q) (hc : cd q.1 = op) (f3 : zFr I2 I3) (hv : zAv I2 I3) (f4 : zFr I3 I4) (ho : zOS I3 I4 x h9) (f5 : zFr I4 I5) (h2 : zOk Bq I4 I5 T (q.1 + 1) q.2.1 r) (f6 : zFr I5 I6) (hs : zCS0 I5 I6 h9) (hx : (x = -20 ∧ op = 3) ∨ (x = -21 ∧ op = 4)) (hD : Bq (zJB op q.2.2 r.2.2)) : zOk Bq I I6 T t l (r.1, r.2.1, zJB op q.2.2 r.2.2) := by
  obtain ⟨a1, a2, a3, a4, a5, a6, a7, a8, a0⟩ := h1
  obtain ⟨b1, b2, b3, b4, b5, b6, b7, b8, b0⟩ := h2
  have hk2 := zTK_f hk f2
  obtain ⟨v1, v2, v3, v4, v5, v0⟩ := zAt_av hk2 a1 (by omega) f3 hv
  have v6 := v5 (by omega)
  have e2 : I2 12 = I 12 := f2.2.1
  have e3 : I3 12 = I 12 := f3.2.1.trans e2
  have e4 : I4 12 = I 12 := f4.2.1.trans e3
  have e5 : I5 12 = I 12 := f5.2.1.trans e4
  have e6 : I6 12 = I 12 := f6.2.1.trans e5
  have hp := hk.2.2.2.2.2 r.1 b1.2.1
  have hp2 := hk.2.2.2.2.2 (q.1 + 1) v1.2.1
  rw [e2] at v6
  rw [e4] at b5
  obtain ⟨c1, c2, c3, c4, c5, c6⟩ := id b1
  obtain ⟨d1, d2, d3, d4, d5, d6⟩ := id a1
  rw [e2] at d6
  rw [e5] at c6
  obtain ⟨o1, o2, o3, o4, o5, o6, o0⟩ := ho (by omega)
  obtain ⟨s1, s2, s3, s4, s5, s0⟩ := hs (by omega)
  refine ⟨⟨by rw [s2, c1], c2, by rw [s3, c3, f6.1], by rw [s4, c4], by omega, ?_⟩, ?_, ?_, by omega, ?_, fun j hj => ?_, ?_, hD, by rw [s0, b0, o0, v0, a0]⟩
  · show I6 10 9 ≤ I6 12 r.1
    rw [e6]
    omega
  · show t < r.1
    omega
  · show l < r.2.1
    omega
  · show I6 10 9 - I 10 9 ≤ I 12 r.1 - I 12 t
    omega
  · rw [s5, up1_n _ _ (by omega), b6 j (by omega), o6, up1_n _ _ (by omega), up1_n _ _ (by omega), v2, a6 j hj]
  · have g1 : zSeg (I6 13) (I 10 9).toNat (I2 10 9).toNat q.2.2 (q.2.1 - l) := zSeg_cg a7 (fun j j1 j2 => by rw [s5, up1_n _ _ (by omega), b6 j (by omega), o6, up1_n _ _ (by omega), up1_n _ _ (by omega), v2])
    have g2 : zSeg (I6 13) ((I2 10 9).toNat + 2) (I5 10 9).toNat r.2.2 (r.2.1 - q.2.1) := by
      rw [show (I2 10 9).toNat + 2 = (I4 10 9).toNat by omega]
      exact zSeg_cg b7 (fun j j1 j2 => by rw [s5, up1_n _ _ (by omega)])
    have k1 : I6 13 (I2 10 9).toNat = x := by
      rw [s5, up1_n _ _ (by omega), b6 _ (by omega), o6, up1_n _ _ (by omega), show (I2 10 9).toNat = (I3 10 9).toNat by omega, up1_s]
    have k2 : I6 13 ((I2 10 9).toNat + 1) = (((I5 10 9).toNat : Nat) : Int) := by
      rw [s5, show (I2 10 9).toNat + 1 = h9.toNat by omega, up1_s]
      omega
    have g3 := zSeg_jb g1 g2 (x := x) (op := op) k1 k2 hx
    rw [s1]
    rw [show q.2.1 - l + (r.2.1 - q.2.1) = r.2.1 - l by omega] at g3
    exact g3
/-- a row of them -/
def zLI (Bq : zD → Prop) (P : zP) (ops : List Int) (jn : Int → zD → zD → zD) (cd : Nat → Int) (n : Nat) (I I2 : aI1) (T t l : Nat) (r : zR) : Prop := ∃ q, zOk Bq I I2 T t l q ∧ zRest P ops jn cd n q.1 q.2.1 q.2.2 = r
theorem zLI_0 {Bq : zD → Prop} {P : zP} {ops : List Int} {jn : Int → zD → zD → zD} {cd : Nat → Int} {I I2 : aI1} {T t l : Nat} {x : Int} (h : zPO Bq I I2 T t l x (P t l)) (hx : x = 1) : zLI Bq P ops jn cd 400 I I2 T t l (zSeq P ops jn cd t l) := by
  obtain ⟨q, h1, h2⟩ := zPO_1 h hx
  exact ⟨q, h2, (zSeq_s h1).symm⟩
theorem zPO_sf {Bq : zD → Prop} {P : zP} {ops : List Int} {jn : Int → zD → zD → zD} {cd : Nat → Int} {I I2 : aI1} {T t l : Nat} {x y : Int} (h : zPO Bq I I2 T t l x (P t l)) (hx : x = 0) (hy : y = 0) : zPO Bq I I2 T t l y (zSeq P ops jn cd t l) := by
  obtain ⟨f, h1, h2, h3⟩ := zPO_0 h hx
  exact zPO_l (zSeq_f h1) hy h2 h3
theorem zLI_e {Bq : zD → Prop} {I I2 : aI1} {T t l : Nat} {q : Nat × Nat × zD} {r : zR} {x : Int} {P : zP} {ops : List Int} {jn : Int → zD → zD → zD} {cd : Nat → Int} {n : Nat} (h : zOk Bq I I2 T t l q) (hr : zRest P ops jn cd n q.1 q.2.1 q.2.2 = r) (hn : n = 0 ∨ ¬ cd q.1 ∈ ops) (hx : x = 1) : zPO Bq I I2 T t l x r := by
  refine zPO_r (q := q) ?_ hx h
  rw [← hr]
  rcases hn with rfl | hn
  · rfl
  · exact zRest_no hn n
theorem zLI_f {Bq Cq : zD → Prop} {I I3 I4 : aI1} {T t l n m : Nat} {q : Nat × Nat × zD} {r : zR} {x y : Int} {P : zP} {ops : List Int} {jn : Int → zD → zD → zD} {cd : Nat → Int} (e12 : I3 12 = I 12) (hr : zRest P ops jn cd n q.1 q.2.1 q.2.2 = r) (hn : n = m + 1) (hc : cd q.1 ∈ ops) (hp : zPO Cq I3 I4 T (q.1 + 1) q.2.1 x (P (q.1 + 1) q.2.1)) (hx : x = 0) (hy : y = 0) : zPO Bq I I4 T t l y r := by
  obtain ⟨f, h1, h2, h3⟩ := zPO_0 hp hx
  subst hn
  exact zPO_in e12 (hr.symm.trans (zRest_f hc h1)) hy h2 h3
theorem zLI_j {Bq : zD → Prop} {I I2 I3 I4 I5 : aI1} {cd vl : Nat → Int} {T t l n m : Nat} {q : Nat × Nat × zD} {r : zR} {x y : Int} {P : zP} {ops : List Int} (hk : zTK I cd vl T) (f2 : zFr I I2) (h : zOk Bq I I2 T t l q) (hr : zRest P ops zJD cd n q.1 q.2.1 q.2.2 = r) (hn : n = m + 1) (hc : cd q.1 ∈ ops) (hc0 : ¬ cd q.1 = 0) (f3 : zFr I2 I3) (hv : zAv I2 I3) (f4 : zFr I3 I4) (hp : zPO Bq I3 I4 T (q.1 + 1) q.2.1 y (P (q.1 + 1) q.2.1)) (hy : y = 1) (f5 : zFr I4 I5) (hs : zSP I4 I5 x) (hx : -18 ≤ x ∧ x ≤ -11) (ho : zOc x = cd q.1) (hD : ∀ a b, Bq (zJD (cd q.1) a b)) : zLI Bq P ops zJD cd m I I5 T t l r := by
  obtain ⟨p, h1, h2⟩ := zPO_1 hp hy
  subst hn
  exact ⟨(p.1, p.2.1, zJD (cd q.1) q.2.2 p.2.2), zOk_jn hk f2 h hc0 f3 hv f4 h2 f5 hs hx ho (hD _ _), (zRest_s hc h1).symm.trans hr⟩
theorem zLI_b {I I2 I3 I4 I5 I6 : aI1} {cd vl : Nat → Int} {T t l n m : Nat} {q : Nat × Nat × zD} {r : zR} {x y op h9 : Int} {P : zP} (hk : zTK I cd vl T) (f2 : zFr I I2) (h : zOk zBl I I2 T t l q) (hr : zRest P [op] zJB cd n q.1 q.2.1 q.2.2 = r) (hn : n = m + 1) (hc : cd q.1 = op) (f3 : zFr I2 I3) (hv : zAv I2 I3) (f4 : zFr I3 I4) (ho : zOS I3 I4 x h9) (f5 : zFr I4 I5) (hp : zPO zBl I4 I5 T (q.1 + 1) q.2.1 y (P (q.1 + 1) q.2.1)) (hy : y = 1) (f6 : zFr I5 I6) (hs : zCS0 I5 I6 h9) (hx : (x = -20 ∧ op = 3) ∨ (x = -21 ∧ op = 4)) : zLI zBl P [op] zJB cd m I I6 T t l r := by
  obtain ⟨p, h1, h2⟩ := zPO_1 hp hy
  subst hn
  refine ⟨(p.1, p.2.1, zJB (cd q.1) q.2.2 p.2.2), ?_, (zRest_s (by rw [hc]; exact List.mem_singleton.mpr rfl) h1).symm.trans hr⟩
  rw [hc]
  exact zOk_jb hk f2 h hc f3 hv f4 ho f5 h2 f6 hs hx (zBl_jb h.2.2.2.2.2.2.2.1 h2.2.2.2.2.2.2.2.1)
theorem zAt_os {I I3 I4 : aI1} {cd vl : Nat → Int} {T t l : Nat} {x h9 : Int} (hk : zTK I cd vl T) (ha : zAt I T t l) (hc : cd t = 3 ∨ cd t = 4) (f3 : zFr I I3) (hv : zAv I I3) (f4 : zFr I3 I4) (ho : zOS I3 I4 x h9) : zAt I4 T (t + 1) l ∧ h9 = I 10 9 + 1 ∧ 0 ≤ h9 ∧ h9 < 400 := by
  obtain ⟨v1, v2, v3, v4, v5, v0⟩ := zAt_av hk ha (by omega) f3 hv
  have v6 := v5 hc
  obtain ⟨a1, a2, a3, a4, a5, a6⟩ := id v1
  obtain ⟨d1, d2, d3, d4, d5, d6⟩ := id ha
  have hp := hk.2.2.2.2.2 (t + 1) a2
  obtain ⟨o1, o2, o3, o4, o5, o6, o0⟩ := ho (by omega)
  rw [f3.2.1] at a6
  exact ⟨⟨by omega, a2, by rw [o4, a3, f4.1], by omega, by omega, by rw [f4.2.1, f3.2.1]; omega⟩, by omega, by omega, by omega⟩
/-- the comparison -/
theorem zPO_c0 {S : zP} {I I2 : aI1} {cd : Nat → Int} {T t l : Nat} {x y : Int} (h : zPO zTr I I2 T t l x (S t l)) (hx : x = 0) (hy : y = 0) : zPO zBl I I2 T t l y (zCm S cd t l) := by
  obtain ⟨f, h1, h2, h3⟩ := zPO_0 h hx
  exact zPO_l (zCm_f h1) hy h2 h3
theorem zPO_c1 {S : zP} {I I2 I3 : aI1} {cd : Nat → Int} {T t l : Nat} {q : Nat × Nat × zD} {y : Int} (f2 : zFr I I2) (h1 : S t l = .inr q) (h2 : zOk zTr I I2 T t l q) (hc : ¬ (160 ≤ cd q.1 ∧ cd q.1 ≤ 162)) (hf : zFa I2 I3 y) : zPO zBl I I3 T t l y (zCm S cd t l) := by
  have h3 := hf.2
  rw [h2.1.1] at h3
  exact zPO_in f2.2.1 (zCm_n h1 hc) hf.1 h2.1.2.1 h3
theorem zPO_c2 {S : zP} {I I3 I4 : aI1} {cd : Nat → Int} {T t l : Nat} {q : Nat × Nat × zD} {x y : Int} (e12 : I3 12 = I 12) (h1 : S t l = .inr q) (hc : 160 ≤ cd q.1 ∧ cd q.1 ≤ 162) (hp : zPO zTr I3 I4 T (q.1 + 1) q.2.1 x (S (q.1 + 1) q.2.1)) (hx : x = 0) (hy : y = 0) : zPO zBl I I4 T t l y (zCm S cd t l) := by
  obtain ⟨f, g1, g2, g3⟩ := zPO_0 hp hx
  exact zPO_in e12 (zCm_g h1 hc g1) hy g2 g3
theorem zPO_c3 {S : zP} {I I2 I3 I4 I5 : aI1} {cd vl : Nat → Int} {T t l : Nat} {q : Nat × Nat × zD} {x y z : Int} (hk : zTK I cd vl T) (f2 : zFr I I2) (h1 : S t l = .inr q) (h2 : zOk zTr I I2 T t l q) (hc : 160 ≤ cd q.1 ∧ cd q.1 ≤ 162) (f3 : zFr I2 I3) (hv : zAv I2 I3) (f4 : zFr I3 I4) (hp : zPO zTr I3 I4 T (q.1 + 1) q.2.1 y (S (q.1 + 1) q.2.1)) (hy : y = 1) (f5 : zFr I4 I5) (hs : zSP I4 I5 x) (hx : -18 ≤ x ∧ x ≤ -11) (ho : zOc x = cd q.1) (hz : z = 1) : zPO zBl I I5 T t l z (zCm S cd t l) := by
  obtain ⟨p, g1, g2⟩ := zPO_1 hp hy
  exact zPO_r (zCm_s h1 hc g1) hz (zOk_jn hk f2 h2 (by omega) f3 hv f4 g2 f5 hs hx ho (zBl_jd hc))
/-- nots -/
def zNI (cd : Nat → Int) (n : Nat) (I I2 : aI1) (T t l t2 : Nat) (fl : Int) : Prop := zAt I2 T t2 l ∧ t ≤ t2 ∧ (I2 13 = I 13 ∧ I2 10 0 = I 10 0) ∧ I2 10 9 = I 10 9 ∧ (fl = 0 ∨ fl = 1) ∧ I 12 t + fl ≤ I 12 t2 ∧ I 12 t ≤ I 12 t2 ∧ zNt cd n t2 fl = zNt cd 400 t 0
theorem zNI_0 {cd : Nat → Int} {I : aI1} {T t l : Nat} (ha : zAt I T t l) : zNI cd 400 I I T t l t 0 := ⟨ha, Nat.le_refl _, ⟨rfl, rfl⟩, rfl, Or.inl rfl, by omega, Int.le_refl _, rfl⟩
theorem zNI_s {cd vl : Nat → Int} {n m : Nat} {I I2 I3 : aI1} {T t l t2 : Nat} {fl f2 : Int} (hk : zTK I cd vl T) (fr : zFr I I2) (h : zNI cd n I I2 T t l t2 fl) (hn : n = m + 1) (hc : cd t2 = 5) (f3 : zFr I2 I3) (hv : zAv I2 I3) (hf : f2 = 1 - fl) : zNI cd m I I3 T t l (t2 + 1) f2 := by
  obtain ⟨a1, a2, a3, a4, a5, a6, a7, a8⟩ := h
  obtain ⟨v1, v2, v3, v4, v5, v0⟩ := zAt_av (zTK_f hk fr) a1 (by omega) f3 hv
  rw [fr.2.1] at v4
  subst hn hf
  refine ⟨v1, by omega, ⟨v2.trans a3.1, v0.trans a3.2⟩, v3.trans a4, by omega, by omega, by omega, ?_⟩
  rw [← zNt_s hc]
  exact a8
theorem zNI_e {cd : Nat → Int} {n : Nat} {I I2 : aI1} {T t l t2 : Nat} {fl : Int} (h : zNI cd n I I2 T t l t2 fl) (hn : n = 0 ∨ ¬ cd t2 = 5) : zNt cd 400 t 0 = (t2, fl) := by
  rw [← h.2.2.2.2.2.2.2]
  rcases hn with rfl | hn
  · rfl
  · exact zNt_n hn n
theorem zPO_p0 {P : Option zP} {S : zP} {cd : Nat → Int} {n : Nat} {I I2 I3 : aI1} {T t l t2 : Nat} {fl x y : Int} (fr : zFr I I2) (h : zNI cd n I I2 T t l t2 fl) (hn : n = 0 ∨ ¬ cd t2 = 5) (hp : zPO zBl I2 I3 T t2 l x (zPos P S cd t2 l)) (hx : x = 0) (hy : y = 0) : zPO zBl I I3 T t l y (zPl P S cd t l) := by
  obtain ⟨f, g1, g2, g3⟩ := zPO_0 hp hx
  refine zPO_in fr.2.1 ?_ hy g2 g3
  rw [zPl_e (zNI_e h hn), g1]
  rfl
theorem zPO_p1 {P : Option zP} {S : zP} {cd : Nat → Int} {n : Nat} {I I2 I3 : aI1} {T t l t2 : Nat} {fl x y : Int} (fr : zFr I I2) (h : zNI cd n I I2 T t l t2 fl) (hn : n = 0 ∨ ¬ cd t2 = 5) (hp : zPO zBl I2 I3 T t2 l x (zPos P S cd t2 l)) (hx : x = 1) (hf : fl = 0) (hy : y = 1) : zPO zBl I I3 T t l y (zPl P S cd t l) := by
  obtain ⟨q, g1, g2⟩ := zPO_1 hp hx
  obtain ⟨a1, a2, a3, a4, a5, a6, a7, a8⟩ := id h
  obtain ⟨b1, b2, b3, b4, b5, b6, b7, b8, b0⟩ := g2
  rw [fr.2.1] at b5
  refine zPO_r (q := q) ?_ hy ⟨b1, by omega, b3, by omega, by omega, fun j hj => by rw [b6 j (by omega), a3.1], by rw [← a4]; exact b7, b8, by rw [b0, a3.2]⟩
  rw [zPl_e (zNI_e h hn), g1, hf]
  rfl
theorem zPO_p2 {P : Option zP} {S : zP} {cd vl : Nat → Int} {n : Nat} {I I2 I3 I4 : aI1} {T t l t2 : Nat} {fl x y a : Int} (hk : zTK I cd vl T) (ha9 : zAt I T t l) (fr : zFr I I2) (h : zNI cd n I I2 T t l t2 fl) (hn : n = 0 ∨ ¬ cd t2 = 5) (f3 : zFr I2 I3) (hp : zPO zBl I2 I3 T t2 l x (zPos P S cd t2 l)) (hx : x = 1) (hf : fl = 1) (f4 : zFr I3 I4) (hs : zSP I3 I4 a) (ha : a = -19) (hy : y = 1) : zPO zBl I I4 T t l y (zPl P S cd t l) := by
  obtain ⟨q, g1, g2⟩ := zPO_1 hp hx
  obtain ⟨a1, a2, a3, a4, a5, a6, a7, a8⟩ := id h
  obtain ⟨b1, b2, b3, b4, b5, b6, b7, b8, b0⟩ := g2
  obtain ⟨c1, c2, c3, c4, c5, c6⟩ := id b1
  obtain ⟨d1, d2, d3, d4, d5, d6⟩ := id a1
  have hp9 := hk.2.2.2.2.2 q.1 c2
  have ha8 := ha9.2.2.2.2.2
  rw [f3.2.1, fr.2.1] at c6
  rw [fr.2.1] at b5 d6
  subst hf ha
  obtain ⟨s1, s2, s3, s4, s5, s0⟩ := hs (by omega)
  refine zPO_r (q := (q.1, q.2.1, zFl q.2.2)) ?_ hy ⟨⟨by rw [s2, c1], c2, by rw [s3, c3, f4.1], by rw [s4, c4], by omega, ?_⟩, ?_, b3, by omega, ?_, fun j hj => ?_, ?_, zBl_fl b8, by rw [s0, b0, a3.2]⟩
  · rw [zPl_e (zNI_e h hn), g1]
    rfl
  · show I4 10 9 ≤ I4 12 q.1
    rw [f4.2.1, f3.2.1, fr.2.1]
    omega
  · show t < q.1
    omega
  · show I4 10 9 - I 10 9 ≤ I 12 q.1 - I 12 t
    omega
  · rw [s5, up1_n _ _ (by omega), b6 j (by omega), a3.1]
  · rw [show (I4 10 9).toNat = (I3 10 9).toNat + 1 by omega, ← a4]
    exact zSeg_fl (zSeg_cg b7 (fun j j1 j2 => by rw [s5, up1_n _ _ (by omega)])) b8 (by rw [s5, up1_s])
/-- a clause's steps -/
def zCS (sp : Nat → Int) (m0 m1 m2 : Int) (q : zQ) : Prop := ∃ a b c : Nat, m0 = a ∧ m1 = b ∧ m2 = c ∧ c ≤ 400 ∧ b ≤ c ∧ (∃ k, k ≤ 64 ∧ zSeg sp a b q.1 k) ∧ (match q.2 with
  | none => b = c
  | some F => ∃ k, k ≤ 64 ∧ zSeg sp b c F k)
theorem zCS_cg {sp sp2 : Nat → Int} {m0 m1 m2 : Int} {q : zQ} (h : zCS sp m0 m1 m2 q) (hs : ∀ j : Nat, (j : Int) < m2 → sp2 j = sp j) : zCS sp2 m0 m1 m2 q := by
  obtain ⟨a, b, c, h0, h1, h2, h3, h4, ⟨k, k1, k2⟩, h6⟩ := h
  refine ⟨a, b, c, h0, h1, h2, h3, h4, ⟨k, k1, zSeg_cg k2 (fun j j1 j2 => hs j (by omega))⟩, ?_⟩
  cases hq : q.2 with
  | none => rw [hq] at h6; exact h6
  | some F =>
    rw [hq] at h6
    obtain ⟨k', k3, k4⟩ := h6
    exact ⟨k', k3, zSeg_cg k4 (fun j j1 j2 => hs j (by omega))⟩
def zCs (sp mk : Nat → Int) (ac : List zQ) : Prop := ∀ i q, ac[i]? = some q → zCS sp (mk (2 * i)) (mk (2 * i + 1)) (mk (2 * i + 2)) q
/-- what takeClause leaves -/
def zCO (I I' : aI1) (T : Nat) (x : Int) : Nat ⊕ (Nat × Nat × zQ) → Prop
  | .inl f => x = 0 ∧ f ≤ T ∧ I' 10 0 = I 12 f
  | .inr q => x = 1 ∧ zAt I' T q.1 q.2.1 ∧ I' 10 11 = I 10 11 + 1 ∧ (∀ j : Nat, (j : Int) < 2 * I 10 11 → I' 14 j = I 14 j) ∧ (∀ j : Nat, (j : Int) < I 10 9 → I' 13 j = I 13 j) ∧ I' 14 (2 * I 10 11).toNat = I 10 9 ∧ I' 14 (2 * I 10 11 + 2).toNat = I' 10 9 ∧ I 10 9 ≤ I' 10 9 ∧ zCS (I' 13) (I' 14 (2 * I 10 11).toNat) (I' 14 (2 * I 10 11 + 1).toNat) (I' 14 (2 * I 10 11 + 2).toNat) q.2.2 ∧ I' 10 0 = I 10 0
theorem zCO_l {I I1 I' : aI1} {T f : Nat} {x : Int} {r : Nat ⊕ (Nat × Nat × zQ)} (e12 : I1 12 = I 12) (hr : r = .inl f) (hx : x = 0) (hf : f ≤ T) (h0 : I' 10 0 = I1 12 f) : zCO I I' T x r := by
  rw [hr]
  exact ⟨hx, hf, by rw [h0, e12]⟩
theorem zCO_0 {I I' : aI1} {T : Nat} {x : Int} {r : Nat ⊕ (Nat × Nat × zQ)} (h : zCO I I' T x r) (hx : x = 0) : ∃ f, r = .inl f ∧ f ≤ T ∧ I' 10 0 = I 12 f := by
  cases r with
  | inl f => exact ⟨f, rfl, h.2⟩
  | inr q => exact absurd h.1 (by omega)
theorem zCO_1 {I I' : aI1} {T : Nat} {x : Int} {r : Nat ⊕ (Nat × Nat × zQ)} (h : zCO I I' T x r) (hx : x = 1) : ∃ q, r = .inr q ∧ zCO I I' T x (.inr q) := by
  cases r with
  | inl f => exact absurd h.1 (by omega)
  | inr q => exact ⟨q, rfl, h⟩
theorem zCO_fa {I I' : aI1} {cd vl : Nat → Int} {T t l : Nat} {x : Int} (ha : zAt I T t l) (hc : ¬ cd t = 1) (h : zFa I I' x) : zCO I I' T x (zCl cd vl t l) := by
  have h2 := h.2
  rw [ha.1] at h2
  exact zCO_l (I1 := I) rfl (zCl_0 hc) h.1 ha.2.1 h2
theorem zCO_f {I I1 I2 : aI1} {cd vl : Nat → Int} {T t l : Nat} {x y : Int} (e12 : I1 12 = I 12) (hc : cd t = 1) (h : zPO zTr I1 I2 T (t + 1) l x (zS cd vl 8 (t + 1) l)) (hx : x = 0) (hy : y = 0) : zCO I I2 T y (zCl cd vl t l) := by
  obtain ⟨f, h1, h2, h3⟩ := zPO_0 h hx
  exact zCO_l e12 (zCl_f hc h1) hy h2 h3
theorem zCO_g {I I1 I2 : aI1} {cd vl : Nat → Int} {T t l : Nat} {q : Nat × Nat × zD} {x y : Int} (e12 : I1 12 = I 12) (hc : cd t = 1) (h1 : zS cd vl 8 (t + 1) l = .inr q) (hc2 : cd q.1 = 2) (h : zPO zBl I1 I2 T (q.1 + 1) q.2.1 x (zT cd vl 8 (q.1 + 1) q.2.1)) (hx : x = 0) (hy : y = 0) : zCO I I2 T y (zCl cd vl t l) := by
  obtain ⟨f, h4, h2, h3⟩ := zPO_0 h hx
  exact zCO_l e12 (zCl_g hc h1 hc2 h4) hy h2 h3
def zM3 (F : Nat → Int) (cc a b c : Int) : Nat → Int := up1 (up1 (up1 F (2 * cc).toNat a) (2 * cc + 1).toNat b) (2 * cc + 2).toNat c
theorem zM3_0 {F : Nat → Int} {cc a b c : Int} {j : Nat} (h : (j : Int) < 2 * cc) : zM3 F cc a b c j = F j := by
  unfold zM3
  rw [up1_n _ _ (by omega), up1_n _ _ (by omega), up1_n _ _ (by omega)]
theorem zM3_1 {F : Nat → Int} {cc a b c : Int} (h : 0 ≤ cc) : zM3 F cc a b c (2 * cc).toNat = a ∧ zM3 F cc a b c (2 * cc + 1).toNat = b ∧ zM3 F cc a b c (2 * cc + 2).toNat = c := by
  unfold zM3
  refine ⟨?_, ?_, up1_s _ _ _⟩
  · rw [up1_n _ _ (by omega), up1_n _ _ (by omega), up1_s]
  · rw [up1_n _ _ (by omega), up1_s]
theorem zCO_n {I I1 I2 I' : aI1} {cd vl : Nat → Int} {T t l : Nat} {q : Nat × Nat × zD} {x : Int} (hk : zTK I cd vl T) (hc : cd t = 1) (h1 : zS cd vl 8 (t + 1) l = .inr q) (hc2 : ¬ cd q.1 = 2) (h : zOk zTr I1 I2 T (t + 1) l q) (e9 : I1 10 9 = I 10 9) (e13 : I1 13 = I 13) (e0 : I1 10 0 = I 10 0) (e12 : I1 12 = I 12)
    (h10 : I2 10 10 ≤ 50) (hcc : 0 ≤ I 10 11) (h0 : 0 ≤ I 10 9) (g7 : I' 10 7 = I2 10 7) (g8 : I' 10 8 = I2 10 8) (g9 : I' 10 9 = I2 10 9) (g10 : I' 10 10 = I2 10 10) (g0 : I' 10 0 = I2 10 0) (g11 : I' 11 = I2 11) (g12 : I' 12 = I2 12) (e12' : I2 12 = I1 12) (g13 : I' 13 = I2 13) (gc : I' 10 11 = I 10 11 + 1) (g14 : I' 14 = zM3 (I 14) (I 10 11) (I 10 9) (I2 10 9) (I2 10 9)) (hx : x = 1) : zCO I I' T x (zCl cd vl t l) := by
  obtain ⟨a1, a2, a3, a4, a5, a6, a7, a8, a0⟩ := h
  obtain ⟨c1, c2, c3, c4, c5, c6⟩ := id a1
  rw [zCl_n hc h1 hc2]
  obtain ⟨m1, m2, m3⟩ := zM3_1 (F := I 14) (a := I 10 9) (b := I2 10 9) (c := I2 10 9) hcc
  have hp := hk.2.2.2.2.2 q.1 c2
  rw [e12', e12] at c6
  refine ⟨hx, ⟨by rw [g7, c1], c2, by rw [g8, c3, g11], by rw [g10, c4], by omega, by show I' 10 9 ≤ I' 12 q.1; rw [g12, e12', e12, g9]; exact c6⟩, gc, fun j hj => by rw [g14, zM3_0 hj], fun j hj => by rw [g13, a6 j (by omega), e13], by rw [g14, m1], by rw [g14, m3, g9], by omega, ?_, by rw [g0, a0, e0]⟩
  rw [g14, m1, m2, m3]
  refine ⟨(I 10 9).toNat, (I2 10 9).toNat, (I2 10 9).toNat, by omega, by omega, by omega, by omega, Nat.le_refl _, ⟨q.2.1 - l, by omega, ?_⟩, rfl⟩
  rw [g13, ← e9]
  exact a7
theorem zCO_s {I I1 I2 I3 I4 I' : aI1} {cd vl : Nat → Int} {T t l : Nat} {q r : Nat × Nat × zD} {x : Int} (hk : zTK I cd vl T) (hc : cd t = 1) (h1 : zS cd vl 8 (t + 1) l = .inr q) (hc2 : cd q.1 = 2) (h : zOk zTr I1 I2 T (t + 1) l q) (e9 : I1 10 9 = I 10 9) (e13 : I1 13 = I 13) (e0 : I1 10 0 = I 10 0) (e12 : I1 12 = I 12)
    (h3 : zT cd vl 8 (q.1 + 1) q.2.1 = .inr r) (k : zOk zBl I3 I4 T (q.1 + 1) q.2.1 r) (k9 : I3 10 9 = I2 10 9) (k13 : I3 13 = I2 13) (k0 : I3 10 0 = I2 10 0)
    (h10 : I4 10 10 ≤ 50) (hcc : 0 ≤ I 10 11) (h0 : 0 ≤ I 10 9) (g7 : I' 10 7 = I4 10 7) (g8 : I' 10 8 = I4 10 8) (g9 : I' 10 9 = I4 10 9) (g10 : I' 10 10 = I4 10 10) (g0 : I' 10 0 = I4 10 0) (g11 : I' 11 = I4 11) (g12 : I' 12 = I4 12) (e12' : I4 12 = I 12) (g13 : I' 13 = I4 13) (gc : I' 10 11 = I 10 11 + 1) (g14 : I' 14 = zM3 (I 14) (I 10 11) (I 10 9) (I2 10 9) (I4 10 9)) (hx : x = 1) : zCO I I' T x (zCl cd vl t l) := by
  obtain ⟨a1, a2, a3, a4, a5, a6, a7, a8, a0⟩ := h
  obtain ⟨b1, b2, b3, b4, b5, b6, b7, b8, b0⟩ := k
  obtain ⟨c1, c2, c3, c4, c5, c6⟩ := id b1
  rw [zCl_s hc h1 hc2 h3]
  obtain ⟨m1, m2, m3⟩ := zM3_1 (F := I 14) (a := I 10 9) (b := I2 10 9) (c := I4 10 9) hcc
  have hp := hk.2.2.2.2.2 r.1 c2
  rw [e12'] at c6
  refine ⟨hx, ⟨by rw [g7, c1], c2, by rw [g8, c3, g11], by rw [g10, c4], by omega, by show I' 10 9 ≤ I' 12 r.1; rw [g12, e12', g9]; exact c6⟩, gc, fun j hj => by rw [g14, zM3_0 hj], fun j hj => by rw [g13, b6 j (by omega), k13, a6 j (by omega), e13], by rw [g14, m1], by rw [g14, m3, g9], by omega, ?_, by rw [g0, b0, k0, a0, e0]⟩
  rw [g14, m1, m2, m3]
  refine ⟨(I 10 9).toNat, (I2 10 9).toNat, (I4 10 9).toNat, by omega, by omega, by omega, by omega, by omega, ⟨q.2.1 - l, by omega, ?_⟩, ⟨r.2.1 - q.2.1, by omega, ?_⟩⟩
  · rw [g13, ← e9]
    exact zSeg_cg a7 (fun j j1 j2 => by rw [b6 j (by omega), k13])
  · show zSeg (I' 13) (I2 10 9).toNat (I4 10 9).toNat r.2.2 (r.2.1 - q.2.1)
    rw [g13, ← k9]
    exact b7
/-- the clauses read till now -/
def zLI2 (cd vl : Nat → Int) (n : Nat) (I2 : aI1) (T : Nat) (r : Nat ⊕ List zQ) : Prop := ∃ (ac : List zQ) (t l : Nat), zAt I2 T t l ∧ I2 10 11 = ac.length ∧ zCs (I2 13) (I2 14) ac ∧ (ac = [] ∨ I2 14 (2 * ac.length) = I2 10 9) ∧ (∀ i, i ≤ ac.length → i ≠ 0 → I2 14 (2 * i) ≤ I2 10 9) ∧ zLa ac (zLw cd vl T n t l) = r
/-- what takeClauses leaves -/
def zLO (I I' : aI1) (T : Nat) (x : Int) : Nat ⊕ List zQ → Prop
  | .inl f => x = 0 ∧ f ≤ T ∧ I' 10 0 = I 12 f
  | .inr qs => x = 1 ∧ I' 10 11 = qs.length ∧ zCs (I' 13) (I' 14) qs ∧ (∀ i, i ≤ qs.length → i ≠ 0 → I' 14 (2 * i) ≤ I' 10 9) ∧ I' 10 0 = I 10 0
theorem zLO_l {I I1 I' : aI1} {T f : Nat} {x : Int} {r : Nat ⊕ List zQ} (e12 : I1 12 = I 12) (hr : r = .inl f) (hx : x = 0) (hf : f ≤ T) (h0 : I' 10 0 = I1 12 f) : zLO I I' T x r := by
  rw [hr]
  exact ⟨hx, hf, by rw [h0, e12]⟩
theorem zCs_ad {sp sp2 mk mk2 : Nat → Int} {ac : List zQ} {q : zQ} {b e9 : Int} (h : zCs sp mk ac) (hb : ∀ i, i ≤ ac.length → i ≠ 0 → mk (2 * i) ≤ b) (hs : ∀ j : Nat, (j : Int) < b → sp2 j = sp j) (hm : ∀ j : Nat, j < 2 * ac.length → mk2 j = mk j) (hl : ac = [] ∨ mk2 (2 * ac.length) = mk (2 * ac.length)) (hq : zCS sp2 (mk2 (2 * ac.length)) (mk2 (2 * ac.length + 1)) (mk2 (2 * ac.length + 2)) q) : zCs sp2 mk2 (ac ++ [q]) := by
  intro i p hp
  by_cases hi : i < ac.length
  · rw [List.getElem?_append_left hi] at hp
    have h1 := h i p hp
    have h2 := hb (i + 1) (by omega) (by omega)
    have h3 : mk2 (2 * i + 2) = mk (2 * i + 2) := by
      by_cases h4 : i + 1 < ac.length
      · exact hm _ (by omega)
      · rcases hl with rfl | hl
        · simp at hi
        · rw [show 2 * i + 2 = 2 * ac.length by omega]
          exact hl
    rw [hm _ (by omega), hm _ (by omega), h3]
    rw [show 2 * (i + 1) = 2 * i + 2 by omega] at h2
    exact zCS_cg h1 (fun j hj => hs j (by omega))
  · have hi2 : i = ac.length := by
      have := (List.getElem?_eq_some_iff.mp hp).1
      rw [List.length_append, List.length_singleton] at this
      omega
    subst hi2
    rw [List.getElem?_append_right (Nat.le_refl _), Nat.sub_self] at hp
    cases hp
    exact hq
theorem zLI2_0 {cd vl : Nat → Int} {I : aI1} {T : Nat} (ha : zAt I T 0 0) (h : I 10 11 = 0) : zLI2 cd vl 12 I T (zLw cd vl T 12 0 0) := ⟨[], 0, 0, ha, by rw [h]; rfl, fun i q hq => by simp at hq, Or.inl rfl, fun i hi h0 => absurd (Nat.le_zero.mp hi) h0, by cases zLw cd vl T 12 0 0 <;> rfl⟩
/-- one clause more -/
theorem zLI2_c {cd vl : Nat → Int} {I2 I3 : aI1} {T t l : Nat} {ac : List zQ} {q : Nat × Nat × zQ} {x : Int} (h1 : I2 10 11 = ac.length) (h2 : zCs (I2 13) (I2 14) ac) (h3 : ac = [] ∨ I2 14 (2 * ac.length) = I2 10 9) (h4 : ∀ i, i ≤ ac.length → i ≠ 0 → I2 14 (2 * i) ≤ I2 10 9) (h : zCO I2 I3 T x (.inr q)) : I3 10 11 = (ac ++ [q.2.2]).length ∧ zCs (I3 13) (I3 14) (ac ++ [q.2.2]) ∧ I3 14 (2 * (ac ++ [q.2.2]).length) = I3 10 9 ∧ (∀ i, i ≤ (ac ++ [q.2.2]).length → i ≠ 0 → I3 14 (2 * i) ≤ I3 10 9) := by
  obtain ⟨-, -, c1, c2, c3, c4, c5, c6, c7, -⟩ := h
  rw [h1] at c1 c2 c4 c5 c7
  rw [show (2 * (ac.length : Int)).toNat = 2 * ac.length by omega] at c4 c7
  rw [show (2 * (ac.length : Int) + 2).toNat = 2 * ac.length + 2 by omega] at c5 c7
  rw [show (2 * (ac.length : Int) + 1).toNat = 2 * ac.length + 1 by omega] at c7
  have hl : (ac ++ [q.2.2]).length = ac.length + 1 := by rw [List.length_append, List.length_singleton]
  rw [hl]
  refine ⟨by rw [c1]; rfl, zCs_ad (b := I2 10 9) (e9 := 0) h2 h4 c3 (fun j hj => c2 j (by omega)) (h3.imp id (fun e => by rw [c4, e])) c7, by rw [show 2 * (ac.length + 1) = 2 * ac.length + 2 by omega]; exact c5, fun i hi h0 => ?_⟩
  by_cases e1 : i = ac.length + 1
  · rw [e1, show 2 * (ac.length + 1) = 2 * ac.length + 2 by omega, c5]
    exact Int.le_refl _
  · by_cases e2 : i = ac.length
    · rw [e2, c4]
      exact c6
    · have := h4 i (by omega) h0
      rw [c2 _ (by omega)]
      omega
end
