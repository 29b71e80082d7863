/-! Laws: what a text tells, as pure words. zE: what is asked of a STATE; zD: what is told by it (none: BROKEN). -/
abbrev zE : Type := Nat → Int
abbrev zD : Type := zE → Option Int
abbrev zR : Type := Nat ⊕ (Nat × Nat × zD)
abbrev zP : Type := Nat → Nat → zR
def zJv (op a b : Int) : Int := if op = 143 then a + b else if op = 145 then a - b else if op = 142 then a * b else if op = 147 then a.tdiv b else if op = 137 then a.tmod b else if op = 160 then (if a < b then 1 else 0) else if op = 162 then (if b < a then 1 else 0) else (if a = b then 1 else 0)
def zJn (op a b : Int) : Option Int := if (op = 147 ∨ op = 137) ∧ b = 0 then none else if zJv op a b ≤ 1000000000 ∧ -1000000000 ≤ zJv op a b then some (zJv op a b) else none
def zJD (op : Int) (D F : zD) : zD := fun en => match D en with
  | none => none
  | some a => match F en with
    | none => none
    | some b => zJn op a b
def zJB (op : Int) (D F : zD) : zD := fun en => match D en with
  | none => none
  | some a => if (op = 3 ∧ ¬ a = 0) ∨ (op = 4 ∧ a = 0) then some a else F en
def zFl (D : zD) : zD := fun en => match D en with
  | none => none
  | some a => some (1 - a)
theorem zJD_n {op : Int} {D F : zD} {en : zE} (h : D en = none) : zJD op D F en = none := by
  unfold zJD
  rw [h]
theorem zJD_sn {op : Int} {D F : zD} {en : zE} {a : Int} (h : D en = some a) (g : F en = none) : zJD op D F en = none := by
  unfold zJD
  rw [h, g]
theorem zJD_s {op : Int} {D F : zD} {en : zE} {a b : Int} (h : D en = some a) (g : F en = some b) : zJD op D F en = zJn op a b := by
  unfold zJD
  rw [h, g]
theorem zJB_n {op : Int} {D F : zD} {en : zE} (h : D en = none) : zJB op D F en = none := by
  unfold zJB
  rw [h]
theorem zJB_t {op : Int} {D F : zD} {en : zE} {a : Int} (h : D en = some a) (g : (op = 3 ∧ ¬ a = 0) ∨ (op = 4 ∧ a = 0)) : zJB op D F en = some a := by
  unfold zJB
  rw [h]
  exact if_pos g
theorem zJB_f {op : Int} {D F : zD} {en : zE} {a : Int} (h : D en = some a) (g : ¬ ((op = 3 ∧ ¬ a = 0) ∨ (op = 4 ∧ a = 0))) : zJB op D F en = F en := by
  unfold zJB
  rw [h]
  exact if_neg g
theorem zFl_n {D : zD} {en : zE} (h : D en = none) : zFl D en = none := by
  unfold zFl
  rw [h]
theorem zFl_s {D : zD} {en : zE} {a : Int} (h : D en = some a) : zFl D en = some (1 - a) := by
  unfold zFl
  rw [h]
/-- a TEST tells 1 or 0 -/
def zBl (D : zD) : Prop := ∀ (en : zE) (w : Int), D en = some w → w = 0 ∨ w = 1
theorem zBl_jd {op : Int} {D F : zD} (ho : 160 ≤ op ∧ op ≤ 162) : zBl (zJD op D F) := fun en w h => by
  cases hD : D en with
  | none => rw [zJD_n hD] at h; cases h
  | some a =>
    cases hF : F en with
    | none => rw [zJD_sn hD hF] at h; cases h
    | some b =>
      rw [zJD_s hD hF] at h
      unfold zJn at h
      rw [if_neg (by omega)] at h
      split at h
      · cases h
        unfold zJv
        rw [if_neg (by omega), if_neg (by omega), if_neg (by omega), if_neg (by omega), if_neg (by omega)]
        repeat' split
        all_goals first | exact Or.inl rfl | exact Or.inr rfl
      · cases h
theorem zBl_jb {op : Int} {D F : zD} (h1 : zBl D) (h2 : zBl F) : zBl (zJB op D F) := fun en w h => by
  cases hD : D en with
  | none => rw [zJB_n hD] at h; cases h
  | some a =>
    by_cases hc : (op = 3 ∧ ¬ a = 0) ∨ (op = 4 ∧ a = 0)
    · rw [zJB_t hD hc] at h
      cases h
      exact h1 en _ hD
    · rw [zJB_f hD hc] at h
      exact h2 en w h
theorem zBl_fl {D : zD} (h1 : zBl D) : zBl (zFl D) := fun en w h => by
  cases hD : D en with
  | none => rw [zFl_n hD] at h; cases h
  | some a =>
    rw [zFl_s hD] at h
    cases h
    have := h1 en a hD
    omega
/-! the parser: codes cd and values vl of TOKENS -/
def zLf (cd vl : Nat → Int) (t : Nat) : Option zD := if cd t = 50 ∧ vl t ≤ 1000 then some (fun _ => some (vl t)) else if 6 ≤ cd t ∧ cd t ≤ 13 then some (fun en => some (en (cd t - 6).toNat)) else none
def zBr (P : Option zP) (cd : Nat → Int) (cl : Int) (t l : Nat) : zR := match P with
  | none => .inl t
  | some P => match P (t + 1) l with
    | .inl f => .inl f
    | .inr q => if cd q.1 = cl then .inr (q.1 + 1, q.2) else .inl q.1
def zLe (cd vl : Nat → Int) (t l : Nat) : zR := match zLf cd vl t with
  | none => .inl t
  | some D => if l < 50 then .inr (t + 1, l + 1, D) else .inl t
def zPart (P : Option zP) (cd vl : Nat → Int) : zP := fun t l => if cd t = 191 then zBr P cd 193 t l else zLe cd vl t l
def zRest (P : zP) (ops : List Int) (jn : Int → zD → zD → zD) (cd : Nat → Int) : Nat → Nat → Nat → zD → zR
  | 0, t, l, D => .inr (t, l, D)
  | n + 1, t, l, D => if cd t ∈ ops then (match P (t + 1) l with
      | .inl f => .inl f
      | .inr q => zRest P ops jn cd n q.1 q.2.1 (jn (cd t) D q.2.2)) else .inr (t, l, D)
def zSeq (P : zP) (ops : List Int) (jn : Int → zD → zD → zD) (cd : Nat → Int) : zP := fun t l => match P t l with
  | .inl f => .inl f
  | .inr q => zRest P ops jn cd 400 q.1 q.2.1 q.2.2
def zTm (P : Option zP) (cd vl : Nat → Int) : zP := zSeq (zPart P cd vl) [142, 147, 137] zJD cd
def zSo (P : Option zP) (cd vl : Nat → Int) : zP := zSeq (zTm P cd vl) [143, 145] zJD cd
def zSu (cd vl : Nat → Int) : Nat → Option zP
  | 0 => none
  | k + 1 => some (zSo (zSu cd vl k) cd vl)
def zCm (S : zP) (cd : Nat → Int) (t l : Nat) : zR := match S t l with
  | .inl f => .inl f
  | .inr q => if 160 ≤ cd q.1 ∧ cd q.1 ≤ 162 then (match S (q.1 + 1) q.2.1 with
      | .inl f => .inl f
      | .inr r => .inr (r.1, r.2.1, zJD (cd q.1) q.2.2 r.2.2)) else .inl q.1
def zPos (P : Option zP) (S : zP) (cd : Nat → Int) : zP := fun t l => if cd t = 140 then zBr P cd 141 t l else zCm S cd t l
def zNt (cd : Nat → Int) : Nat → Nat → Int → Nat × Int
  | 0, t, f => (t, f)
  | n + 1, t, f => if cd t = 5 then zNt cd n (t + 1) (1 - f) else (t, f)
def zFp (f : Int) : zR → zR
  | .inl a => .inl a
  | .inr q => .inr (q.1, q.2.1, if f = 1 then zFl q.2.2 else q.2.2)
def zPl (P : Option zP) (S : zP) (cd : Nat → Int) : zP := fun t l => zFp (zNt cd 400 t 0).2 (zPos P S cd (zNt cd 400 t 0).1 l)
def zBo (P : Option zP) (S : zP) (cd : Nat → Int) : zP := zSeq (zPl P S cd) [4] zJB cd
def zTo (P : Option zP) (S : zP) (cd : Nat → Int) : zP := zSeq (zBo P S cd) [3] zJB cd
def zTu (cd vl : Nat → Int) : Nat → Option zP
  | 0 => none
  | k + 1 => some (zTo (zTu cd vl k) (zSo (zSu cd vl k) cd vl) cd)
/-- SUM and TEST with m brackets left -/
def zS (cd vl : Nat → Int) (m : Nat) : zP := zSo (zSu cd vl m) cd vl
def zT (cd vl : Nat → Int) (m : Nat) : zP := zTo (zTu cd vl m) (zS cd vl m) cd
abbrev zQ : Type := zD × Option zD
def zCl (cd vl : Nat → Int) (t l : Nat) : Nat ⊕ (Nat × Nat × zQ) := if cd t = 1 then (match zS cd vl 8 (t + 1) l with
  | .inl f => .inl f
  | .inr q => if cd q.1 = 2 then (match zT cd vl 8 (q.1 + 1) q.2.1 with
      | .inl f => .inl f
      | .inr r => .inr (r.1, r.2.1, q.2.2, some r.2.2)) else .inr (q.1, q.2.1, q.2.2, none)) else .inl t
def zLw (cd vl : Nat → Int) (T : Nat) : Nat → Nat → Nat → Nat ⊕ List zQ
  | 0, t, _ => .inl t
  | n + 1, t, l => match zCl cd vl t l with
    | .inl f => .inl f
    | .inr q => if q.1 = T then .inr [q.2.2] else if cd q.1 = 159 then (match zLw cd vl T n (q.1 + 1) q.2.1 with
        | .inl f => .inl f
        | .inr qs => .inr (q.2.2 :: qs)) else .inl q.1
/-- what a CLAUSE tells, if it HOLDS; the last that HOLDS -/
def zCv (q : zQ) (en : zE) : Option Int := match q.2 with
  | none => q.1 en
  | some F => match F en with
    | none => none
    | some w => if w = 0 then none else q.1 en
def zTl : List zQ → zE → Option Int
  | [], _ => none
  | q :: qs, en => match zTl qs en with
    | some x => some x
    | none => zCv q en
theorem zTl_no : ∀ (qs : List zQ) (en : zE), (∀ (i : Nat) (q : zQ), qs[i]? = some q → zCv q en = none) → zTl qs en = none
  | [], _, _ => rfl
  | q :: qs, en, h => by
    have h1 := zTl_no qs en (fun i r hr => h (i + 1) r (by simpa using hr))
    unfold zTl
    rw [h1]
    exact h 0 q rfl
theorem zTl_at : ∀ (qs : List zQ) (en : zE) (i : Nat) (q : zQ) (x : Int), qs[i]? = some q → zCv q en = some x → (∀ (j : Nat) (r : zQ), i < j → qs[j]? = some r → zCv r en = none) → zTl qs en = some x
  | [], _, _, _, _, h, _, _ => by simp at h
  | p :: qs, en, 0, q, x, h, h1, h2 => by
    have e : p = q := by simpa using h
    subst e
    have h3 := zTl_no qs en (fun i r hr => h2 (i + 1) r (by omega) (by simpa using hr))
    unfold zTl
    rw [h3]
    exact h1
  | p :: qs, en, i + 1, q, x, h, h1, h2 => by
    have h3 := zTl_at qs en i q x (by simpa using h) h1 (fun j r hj hr => h2 (j + 1) r (by omega) (by simpa using hr))
    unfold zTl
    rw [h3]
theorem zTl_c1 {q : zQ} {qs : List zQ} {en : zE} {x : Int} (h : zTl qs en = some x) : zTl (q :: qs) en = some x := by
  unfold zTl
  rw [h]
theorem zTl_c0 {q : zQ} {qs : List zQ} {en : zE} (h : zTl qs en = none) : zTl (q :: qs) en = zCv q en := by
  show (match zTl qs en with
    | some x => some x
    | none => zCv q en) = _
  rw [h]
/-! steps on a stack -/
def zOc (x : Int) : Int := if x = -11 then 143 else if x = -12 then 145 else if x = -13 then 142 else if x = -14 then 147 else if x = -15 then 137 else if x = -16 then 160 else if x = -17 then 162 else 161
/-- one step from place a: none: stuck; some none: BROKEN -/
def zst (sp : Nat → Int) (en : zE) (B a : Nat) (s : List Int) : Option (Option (Nat × List Int)) :=
  if -8 ≤ sp a then (if s.length < 64 then some (some (a + 1, (if 0 ≤ sp a then sp a else en (-1 - sp a).toNat) :: s)) else none)
  else match s with
  | [] => none
  | v :: s1 =>
    if sp a = -19 then (if v = 0 ∨ v = 1 then some (some (a + 1, (1 - v) :: s1)) else none)
    else if sp a = -20 ∨ sp a = -21 then
      (if a + 1 < B then (if (sp a = -20 ∧ ¬ v = 0) ∨ (sp a = -21 ∧ v = 0) then some (some (max (a + 2) (sp (a + 1)).toNat, v :: s1)) else some (some (a + 2, s1))) else none)
    else match s1 with
    | [] => none
    | u :: s2 => match zJn (zOc (sp a)) u v with
      | none => some none
      | some w => some (some (a + 1, w :: s2))
theorem zst_p {sp : Nat → Int} {en : zE} {B a : Nat} {s : List Int} (h : -8 ≤ sp a) (hs : s.length < 64) : zst sp en B a s = some (some (a + 1, (if 0 ≤ sp a then sp a else en (-1 - sp a).toNat) :: s)) := by
  unfold zst
  rw [if_pos h, if_pos hs]
theorem zst_f {sp : Nat → Int} {en : zE} {B a : Nat} {s : List Int} {v : Int} (h : sp a = -19) (hv : v = 0 ∨ v = 1) : zst sp en B a (v :: s) = some (some (a + 1, (1 - v) :: s)) := by
  unfold zst
  rw [if_neg (by omega)]
  show (if sp a = -19 then _ else _) = _
  rw [if_pos h, if_pos hv]
theorem zst_jt {sp : Nat → Int} {en : zE} {B a : Nat} {s : List Int} {v : Int} (h : sp a = -20 ∨ sp a = -21) (hB : a + 1 < B) (hv : (sp a = -20 ∧ ¬ v = 0) ∨ (sp a = -21 ∧ v = 0)) : zst sp en B a (v :: s) = some (some (max (a + 2) (sp (a + 1)).toNat, v :: s)) := by
  unfold zst
  rw [if_neg (by omega)]
  show (if sp a = -19 then _ else _) = _
  rw [if_neg (by omega), if_pos h, if_pos hB, if_pos hv]
theorem zst_jf {sp : Nat → Int} {en : zE} {B a : Nat} {s : List Int} {v : Int} (h : sp a = -20 ∨ sp a = -21) (hB : a + 1 < B) (hv : ¬ ((sp a = -20 ∧ ¬ v = 0) ∨ (sp a = -21 ∧ v = 0))) : zst sp en B a (v :: s) = some (some (a + 2, s)) := by
  unfold zst
  rw [if_neg (by omega)]
  show (if sp a = -19 then _ else _) = _
  rw [if_neg (by omega), if_pos h, if_pos hB, if_neg hv]
theorem zst_o {sp : Nat → Int} {en : zE} {B a : Nat} {s : List Int} {u v : Int} (h : sp a ≤ -9 ∧ ¬ sp a = -19 ∧ ¬ sp a = -20 ∧ ¬ sp a = -21) : zst sp en B a (v :: u :: s) = (match zJn (zOc (sp a)) u v with
      | none => some none
      | some w => some (some (a + 1, w :: s))) := by
  unfold zst
  rw [if_neg (by omega)]
  show (if sp a = -19 then _ else _) = _
  rw [if_neg (by omega), if_neg (by omega)]
theorem zst_lt {sp : Nat → Int} {en : zE} {B a a1 : Nat} {s s1 : List Int} (h : zst sp en B a s = some (some (a1, s1))) : a < a1 := by
  unfold zst at h
  repeat' split at h
  all_goals first | (cases h; omega) | cases h
theorem zst_mo {sp : Nat → Int} {en : zE} {B B2 a : Nat} {s : List Int} {r : Option (Nat × List Int)} (h : zst sp en B a s = some r) (hB : B ≤ B2) : zst sp en B2 a s = some r := by
  by_cases h4 : a + 1 < B
  · have h5 : a + 1 < B2 := by omega
    unfold zst at h ⊢
    simp only [if_pos h4] at h
    simp only [if_pos h5]
    exact h
  · unfold zst at h ⊢
    simp only [if_neg h4] at h
    by_cases h1 : -8 ≤ sp a
    · rw [if_pos h1] at h ⊢
      exact h
    · rw [if_neg h1] at h ⊢
      cases s with
      | nil => cases h
      | cons v s1 =>
        revert h
        show (if sp a = -19 then _ else _) = _ → (if sp a = -19 then _ else _) = _
        by_cases h2 : sp a = -19
        · rw [if_pos h2, if_pos h2]
          exact id
        · rw [if_neg h2, if_neg h2]
          by_cases h3 : sp a = -20 ∨ sp a = -21
          · rw [if_pos h3]
            intro h
            cases h
          · rw [if_neg h3, if_neg h3]
            exact id
theorem zst_cg {sp sp2 : Nat → Int} {en : zE} {B a : Nat} {s : List Int} {r : Option (Nat × List Int)} (h : zst sp en B a s = some r) (ha : a < B) (hs : ∀ j, a ≤ j → j < B → sp2 j = sp j) : zst sp2 en B a s = some r := by
  have h0 : sp2 a = sp a := hs a (Nat.le_refl _) ha
  unfold zst at h ⊢
  rw [h0]
  by_cases h4 : a + 1 < B
  · rw [hs (a + 1) (by omega) h4]
    exact h
  · simp only [if_neg h4] at h ⊢
    exact h
def zRn (sp : Nat → Int) (en : zE) (B : Nat) : Nat → Nat → List Int → Nat → List Int → Prop
  | 0, a, s, b, s' => a = b ∧ s = s'
  | n + 1, a, s, b, s' => a < B ∧ ∃ a1 s1, zst sp en B a s = some (some (a1, s1)) ∧ zRn sp en B n a1 s1 b s'
theorem zRn_tr {sp : Nat → Int} {en : zE} {B m b c : Nat} {s' s'' : List Int} (g : zRn sp en B m b s' c s'') : ∀ (n a : Nat) (s : List Int), zRn sp en B n a s b s' → zRn sp en B (n + m) a s c s''
  | 0, a, s, h => by
    obtain ⟨rfl, rfl⟩ := h
    rw [Nat.zero_add]
    exact g
  | n + 1, a, s, h => by
    obtain ⟨h1, a1, s1, h2, h3⟩ := h
    rw [show n + 1 + m = (n + m) + 1 by omega]
    exact ⟨h1, a1, s1, h2, zRn_tr g n a1 s1 h3⟩
theorem zRn_mo {sp : Nat → Int} {en : zE} {B B2 b : Nat} {s' : List Int} (hB : B ≤ B2) : ∀ (n a : Nat) (s : List Int), zRn sp en B n a s b s' → zRn sp en B2 n a s b s'
  | 0, _, _, h => h
  | n + 1, _, _, h => by
    obtain ⟨h1, a1, s1, h2, h3⟩ := h
    exact ⟨by omega, a1, s1, zst_mo h2 hB, zRn_mo hB n a1 s1 h3⟩
theorem zRn_cg {sp sp2 : Nat → Int} {en : zE} {B b : Nat} {s' : List Int} : ∀ (n a : Nat) (s : List Int), zRn sp en B n a s b s' → (∀ j, a ≤ j → j < B → sp2 j = sp j) → zRn sp2 en B n a s b s'
  | 0, _, _, h, _ => h
  | n + 1, a, s, h, hs => by
    obtain ⟨h1, a1, s1, h2, h3⟩ := h
    have h4 := zst_lt h2
    exact ⟨h1, a1, s1, zst_cg h2 h1 hs, zRn_cg n a1 s1 h3 (fun j g1 g2 => hs j (by omega) g2)⟩
theorem zRn_le {sp : Nat → Int} {en : zE} {B b : Nat} {s' : List Int} : ∀ (n a : Nat) (s : List Int), zRn sp en B n a s b s' → a ≤ b
  | 0, _, _, h => Nat.le_of_eq h.1
  | n + 1, a, s, h => by
    obtain ⟨h1, a1, s1, h2, h3⟩ := h
    have h4 := zst_lt h2
    have h5 := zRn_le n a1 s1 h3
    omega
def zBk (sp : Nat → Int) (en : zE) (B a : Nat) (s : List Int) : Prop := ∃ n a1 s1, zRn sp en B n a s a1 s1 ∧ a1 < B ∧ zst sp en B a1 s1 = some none
theorem zBk_tr {sp : Nat → Int} {en : zE} {B n a b : Nat} {s s' : List Int} (h : zRn sp en B n a s b s') (g : zBk sp en B b s') : zBk sp en B a s := by
  obtain ⟨m, a1, s1, g1, g2, g3⟩ := g
  exact ⟨n + m, a1, s1, zRn_tr g1 n a s h, g2, g3⟩
theorem zBk_mo {sp : Nat → Int} {en : zE} {B B2 a : Nat} {s : List Int} (g : zBk sp en B a s) (hB : B ≤ B2) : zBk sp en B2 a s := by
  obtain ⟨m, a1, s1, g1, g2, g3⟩ := g
  exact ⟨m, a1, s1, zRn_mo hB m a s g1, by omega, zst_mo g3 hB⟩
theorem zBk_cg {sp sp2 : Nat → Int} {en : zE} {B a : Nat} {s : List Int} (g : zBk sp en B a s) (hs : ∀ j, a ≤ j → j < B → sp2 j = sp j) : zBk sp2 en B a s := by
  obtain ⟨m, a1, s1, g1, g2, g3⟩ := g
  have h1 := zRn_le m a s g1
  exact ⟨m, a1, s1, zRn_cg m a s g1 hs, g2, zst_cg g3 g2 (fun j q1 q2 => hs j (by omega) q2)⟩
/-- the steps a .. b - 1 tell D, with l places of the stack at most -/
def zSeg (sp : Nat → Int) (a b : Nat) (D : zD) (l : Nat) : Prop := a < b ∧ 1 ≤ l ∧ ∀ (en : zE) (s : List Int), s.length + l ≤ 64 → (∀ v, D en = some v → ∃ n, zRn sp en b n a s b (v :: s)) ∧ (D en = none → zBk sp en b a s)
theorem zSeg_cg {sp sp2 : Nat → Int} {a b l : Nat} {D : zD} (h : zSeg sp a b D l) (hs : ∀ j, a ≤ j → j < b → sp2 j = sp j) : zSeg sp2 a b D l := by
  refine ⟨h.1, h.2.1, fun en s hl => ?_⟩
  have h3 := h.2.2 en s hl
  refine ⟨fun v hv => ?_, fun hn => zBk_cg (h3.2 hn) hs⟩
  obtain ⟨n, hn⟩ := h3.1 v hv
  exact ⟨n, zRn_cg n a s hn hs⟩
theorem zRn_1 {sp : Nat → Int} {en : zE} {B a a1 : Nat} {s s1 : List Int} (hB : a < B) (h : zst sp en B a s = some (some (a1, s1))) : zRn sp en B 1 a s a1 s1 := ⟨hB, a1, s1, h, rfl, rfl⟩
theorem zSeg_num {sp : Nat → Int} {a : Nat} {v : Int} (h : sp a = v) (h0 : 0 ≤ v) : zSeg sp a (a + 1) (fun _ => some v) 1 := by
  refine ⟨by omega, by omega, fun en s hl => ⟨fun w hw => ⟨1, zRn_1 (by omega) ?_⟩, fun hn => by cases hn⟩⟩
  cases hw
  rw [zst_p (by omega) (by omega), if_pos (by omega), h]
theorem zSeg_wd {sp : Nat → Int} {a : Nat} {cc : Int} (h : sp a = 5 - cc) (h0 : 6 ≤ cc) (h1 : cc ≤ 13) : zSeg sp a (a + 1) (fun en => some (en (cc - 6).toNat)) 1 := by
  refine ⟨by omega, by omega, fun en s hl => ⟨fun w hw => ⟨1, zRn_1 (by omega) ?_⟩, fun hn => by cases hn⟩⟩
  cases hw
  rw [zst_p (by omega) (by omega), if_neg (by omega), h, show (-1 - (5 - cc)).toNat = (cc - 6).toNat by omega]
theorem zSeg_jn {sp : Nat → Int} {a b c l k : Nat} {D F : zD} {x op : Int} (h1 : zSeg sp a b D l) (h2 : zSeg sp b c F k) (h3 : sp c = x) (hx : -18 ≤ x ∧ x ≤ -11) (ho : zOc x = op) : zSeg sp a (c + 1) (zJD op D F) (l + k) := by
  have b1 := h1.1
  have b2 := h2.1
  have b3 := h1.2.1
  refine ⟨by omega, by omega, fun en s hs => ?_⟩
  have g1 := h1.2.2 en s (by omega)
  have g2 := fun v : Int => h2.2.2 en (v :: s) (by rw [List.length_cons]; omega)
  cases hD : D en with
  | none =>
    rw [zJD_n hD]
    exact ⟨fun v hv => (by cases hv), fun _ => zBk_mo (g1.2 hD) (by omega)⟩
  | some a1 =>
    obtain ⟨n, hn⟩ := g1.1 a1 hD
    have hn2 : zRn sp en (c + 1) n a s b (a1 :: s) := zRn_mo (by omega) n a s hn
    cases hF : F en with
    | none =>
      rw [zJD_sn hD hF]
      exact ⟨fun v hv => (by cases hv), fun _ => zBk_tr hn2 (zBk_mo ((g2 a1).2 hF) (by omega))⟩
    | some b9 =>
      rw [zJD_s hD hF]
      obtain ⟨m, hm⟩ := (g2 a1).1 b9 hF
      have h4 : zRn sp en (c + 1) (n + m) a s c (b9 :: a1 :: s) := zRn_tr (zRn_mo (by omega) m b _ hm) n a s hn2
      have h5 := zst_o (sp := sp) (en := en) (B := c + 1) (a := c) (s := s) (u := a1) (v := b9) (by omega)
      rw [h3, ho] at h5
      cases hj : zJn op a1 b9 with
      | none =>
        rw [hj] at h5
        exact ⟨fun v hv => (by cases hv), fun _ => ⟨n + m, c, _, h4, by omega, h5⟩⟩
      | some w =>
        rw [hj] at h5
        refine ⟨fun v hv => ?_, fun hv => by cases hv⟩
        cases hv
        exact ⟨n + m + 1, zRn_tr (zRn_1 (by omega) h5) (n + m) a s h4⟩
theorem zSeg_jb {sp : Nat → Int} {a b c l k : Nat} {D F : zD} {x op : Int} (h1 : zSeg sp a b D l) (h2 : zSeg sp (b + 2) c F k) (h3 : sp b = x) (h4 : sp (b + 1) = (c : Int)) (hx : (x = -20 ∧ op = 3) ∨ (x = -21 ∧ op = 4)) : zSeg sp a c (zJB op D F) (l + k) := by
  have b1 := h1.1
  have b2 := h2.1
  have b3 := h1.2.1
  refine ⟨by omega, by omega, fun en s hs => ?_⟩
  have g1 := h1.2.2 en s (by omega)
  have g2 := h2.2.2 en s (by omega)
  cases hD : D en with
  | none =>
    rw [zJB_n hD]
    exact ⟨fun v hv => (by cases hv), fun _ => zBk_mo (g1.2 hD) (by omega)⟩
  | some a1 =>
    obtain ⟨n, hn⟩ := g1.1 a1 hD
    have hn2 : zRn sp en c n a s b (a1 :: s) := zRn_mo (by omega) n a s hn
    by_cases hc : (op = 3 ∧ ¬ a1 = 0) ∨ (op = 4 ∧ a1 = 0)
    · rw [zJB_t hD hc]
      have h5 := zst_jt (sp := sp) (en := en) (B := c) (a := b) (s := s) (v := a1) (by omega) (by omega) (by omega)
      rw [h4, show max (b + 2) ((c : Int)).toNat = c by omega] at h5
      refine ⟨fun v hv => ?_, fun hv => by cases hv⟩
      cases hv
      exact ⟨n + 1, zRn_tr (zRn_1 (by omega) h5) n a s hn2⟩
    · rw [zJB_f hD hc]
      have h5 := zst_jf (sp := sp) (en := en) (B := c) (a := b) (s := s) (v := a1) (by omega) (by omega) (by omega)
      have h6 : zRn sp en c (n + 1) a s (b + 2) s := zRn_tr (zRn_1 (by omega) h5) n a s hn2
      refine ⟨fun v hv => ?_, fun hv => zBk_tr h6 (g2.2 hv)⟩
      obtain ⟨m, hm⟩ := g2.1 v hv
      exact ⟨n + 1 + m, zRn_tr hm (n + 1) a s h6⟩
theorem zSeg_fl {sp : Nat → Int} {a b l : Nat} {D : zD} (h1 : zSeg sp a b D l) (h2 : zBl D) (h3 : sp b = -19) : zSeg sp a (b + 1) (zFl D) l := by
  have b1 := h1.1
  refine ⟨by omega, h1.2.1, fun en s hs => ?_⟩
  have g1 := h1.2.2 en s hs
  cases hD : D en with
  | none =>
    rw [zFl_n hD]
    exact ⟨fun v hv => (by cases hv), fun _ => zBk_mo (g1.2 hD) (by omega)⟩
  | some a1 =>
    rw [zFl_s hD]
    obtain ⟨n, hn⟩ := g1.1 a1 hD
    refine ⟨fun v hv => ?_, fun hv => by cases hv⟩
    cases hv
    exact ⟨n + 1, zRn_tr (zRn_1 (by omega) (zst_f h3 (h2 en a1 hD))) n a s (zRn_mo (by omega) n a s hn)⟩
/-- how it ends from place a -/
def zFin (sp : Nat → Int) (en : zE) (B a : Nat) (s : List Int) (r : Option Int) : Prop := (∀ v, r = some v → ∃ n, zRn sp en B n a s B [v]) ∧ (r = none → zBk sp en B a s)
theorem zFin_of {sp : Nat → Int} {en : zE} {a b l : Nat} {D : zD} (h : zSeg sp a b D l) (hl : l ≤ 64) : zFin sp en b a [] (D en) := h.2.2 en [] (by simpa using hl)
theorem zFin_st {sp : Nat → Int} {en : zE} {B a : Nat} {s : List Int} {r : Option Int} (h : zFin sp en B a s r) (ha : a < B) : (zst sp en B a s = some none ∧ r = none) ∨ ∃ a1 s1, zst sp en B a s = some (some (a1, s1)) ∧ zFin sp en B a1 s1 r := by
  cases r with
  | none =>
    obtain ⟨n, a1, s1, h1, h2, h3⟩ := h.2 rfl
    cases n with
    | zero =>
      obtain ⟨rfl, rfl⟩ := h1
      exact Or.inl ⟨h3, rfl⟩
    | succ n =>
      obtain ⟨-, a2, s2, h4, h5⟩ := h1
      exact Or.inr ⟨a2, s2, h4, fun v hv => (by cases hv), fun _ => ⟨n, a1, s1, h5, h2, h3⟩⟩
  | some v =>
    obtain ⟨n, h1⟩ := h.1 v rfl
    cases n with
    | zero =>
      have := h1.1
      omega
    | succ n =>
      obtain ⟨-, a2, s2, h4, h5⟩ := h1
      refine Or.inr ⟨a2, s2, h4, fun w hw => ?_, fun hv => by cases hv⟩
      cases hw
      exact ⟨n, h5⟩
theorem zFin_en {sp : Nat → Int} {en : zE} {B a : Nat} {s : List Int} {r : Option Int} (h : zFin sp en B a s r) (ha : ¬ a < B) : ∃ v, r = some v ∧ s = [v] := by
  cases r with
  | none =>
    obtain ⟨n, a1, s1, h1, h2, h3⟩ := h.2 rfl
    have := zRn_le n a s h1
    omega
  | some v =>
    obtain ⟨n, h1⟩ := h.1 v rfl
    cases n with
    | zero => exact ⟨v, rfl, h1.2⟩
    | succ n => exact absurd h1.1 ha
/-- the stack as it lies in a row, the top first -/
def zSK (F : Nat → Int) : List Int → Prop
  | [] => True
  | v :: s => F s.length = v ∧ (-1000000000 ≤ v ∧ v ≤ 1000000000) ∧ zSK F s
theorem zSK_up {F : Nat → Int} {j : Nat} {w : Int} : ∀ s : List Int, zSK F s → s.length ≤ j → zSK (up1 F j w) s
  | [], _, _ => trivial
  | v :: s, h, hj => by
    rw [List.length_cons] at hj
    exact ⟨(up1_n _ _ (by omega)).trans h.1, h.2.1, zSK_up s h.2.2 (by omega)⟩
theorem zSK_pu {F : Nat → Int} {w : Int} {s : List Int} (h : zSK F s) (hw : -1000000000 ≤ w ∧ w ≤ 1000000000) : zSK (up1 F s.length w) (w :: s) := ⟨up1_s _ _ _, hw, zSK_up s h (Nat.le_refl _)⟩
theorem zJn_r {op a b w : Int} (h : zJn op a b = some w) : -1000000000 ≤ w ∧ w ≤ 1000000000 := by
  unfold zJn at h
  split at h
  · cases h
  · split at h
    · cases h
      omega
    · cases h
/-! pieces of the parser, one by one -/
theorem zBr_0 {cd : Nat → Int} {cl : Int} {t l : Nat} : zBr none cd cl t l = .inl t := rfl
theorem zBr_f {P : zP} {cd : Nat → Int} {cl : Int} {t l f : Nat} (h : P (t + 1) l = .inl f) : zBr (some P) cd cl t l = .inl f := by
  show (match P (t + 1) l with
    | .inl f => Sum.inl f
    | .inr q => if cd q.1 = cl then .inr (q.1 + 1, q.2) else .inl q.1) = _
  rw [h]
theorem zBr_s {P : zP} {cd : Nat → Int} {cl : Int} {t l : Nat} {q : Nat × Nat × zD} (h : P (t + 1) l = .inr q) (hc : cd q.1 = cl) : zBr (some P) cd cl t l = .inr (q.1 + 1, q.2) := by
  show (match P (t + 1) l with
    | .inl f => Sum.inl f
    | .inr q => if cd q.1 = cl then .inr (q.1 + 1, q.2) else .inl q.1) = _
  rw [h]
  exact if_pos hc
theorem zBr_n {P : zP} {cd : Nat → Int} {cl : Int} {t l : Nat} {q : Nat × Nat × zD} (h : P (t + 1) l = .inr q) (hc : ¬ cd q.1 = cl) : zBr (some P) cd cl t l = .inl q.1 := by
  show (match P (t + 1) l with
    | .inl f => Sum.inl f
    | .inr q => if cd q.1 = cl then .inr (q.1 + 1, q.2) else .inl q.1) = _
  rw [h]
  exact if_neg hc
theorem zLf_n {cd vl : Nat → Int} {t : Nat} (h : cd t = 50 ∧ vl t ≤ 1000) : zLf cd vl t = some (fun _ => some (vl t)) := if_pos h
theorem zLf_w {cd vl : Nat → Int} {t : Nat} (h : 6 ≤ cd t ∧ cd t ≤ 13) : zLf cd vl t = some (fun en => some (en (cd t - 6).toNat)) := by
  unfold zLf
  rw [if_neg (by omega), if_pos h]
theorem zLf_0 {cd vl : Nat → Int} {t : Nat} (h1 : ¬ (cd t = 50 ∧ vl t ≤ 1000)) (h2 : ¬ (6 ≤ cd t ∧ cd t ≤ 13)) : zLf cd vl t = none := by
  unfold zLf
  rw [if_neg h1, if_neg h2]
theorem zLe_0 {cd vl : Nat → Int} {t l : Nat} (h : zLf cd vl t = none) : zLe cd vl t l = .inl t := by
  unfold zLe
  rw [h]
theorem zLe_s {cd vl : Nat → Int} {t l : Nat} {D : zD} (h : zLf cd vl t = some D) (hl : l < 50) : zLe cd vl t l = .inr (t + 1, l + 1, D) := by
  unfold zLe
  rw [h]
  exact if_pos hl
theorem zLe_f {cd vl : Nat → Int} {t l : Nat} {D : zD} (h : zLf cd vl t = some D) (hl : ¬ l < 50) : zLe cd vl t l = .inl t := by
  unfold zLe
  rw [h]
  exact if_neg hl
theorem zRest_no {P : zP} {ops : List Int} {jn : Int → zD → zD → zD} {cd : Nat → Int} {t l : Nat} {D : zD} (h : ¬ cd t ∈ ops) : ∀ n, zRest P ops jn cd n t l D = .inr (t, l, D)
  | 0 => rfl
  | n + 1 => if_neg h
theorem zRest_f {P : zP} {ops : List Int} {jn : Int → zD → zD → zD} {cd : Nat → Int} {n t l f : Nat} {D : zD} (h : cd t ∈ ops) (hp : P (t + 1) l = .inl f) : zRest P ops jn cd (n + 1) t l D = .inl f := by
  show (if cd t ∈ ops then (match P (t + 1) l with
      | .inl f => Sum.inl f
      | .inr q => zRest P ops jn cd n q.1 q.2.1 (jn (cd t) D q.2.2)) else .inr (t, l, D)) = _
  rw [if_pos h, hp]
theorem zRest_s {P : zP} {ops : List Int} {jn : Int → zD → zD → zD} {cd : Nat → Int} {n t l : Nat} {D : zD} {q : Nat × Nat × zD} (h : cd t ∈ ops) (hp : P (t + 1) l = .inr q) : zRest P ops jn cd (n + 1) t l D = zRest P ops jn cd n q.1 q.2.1 (jn (cd t) D q.2.2) := by
  show (if cd t ∈ ops then (match P (t + 1) l with
      | .inl f => Sum.inl f
      | .inr q => zRest P ops jn cd n q.1 q.2.1 (jn (cd t) D q.2.2)) else .inr (t, l, D)) = _
  rw [if_pos h, hp]
theorem zSeq_f {P : zP} {ops : List Int} {jn : Int → zD → zD → zD} {cd : Nat → Int} {t l f : Nat} (hp : P t l = .inl f) : zSeq P ops jn cd t l = .inl f := by
  unfold zSeq
  rw [hp]
theorem zSeq_s {P : zP} {ops : List Int} {jn : Int → zD → zD → zD} {cd : Nat → Int} {t l : Nat} {q : Nat × Nat × zD} (hp : P t l = .inr q) : zSeq P ops jn cd t l = zRest P ops jn cd 400 q.1 q.2.1 q.2.2 := by
  unfold zSeq
  rw [hp]
theorem zCm_f {S : zP} {cd : Nat → Int} {t l f : Nat} (h : S t l = .inl f) : zCm S cd t l = .inl f := by
  unfold zCm
  rw [h]
theorem zCm_n {S : zP} {cd : Nat → Int} {t l : Nat} {q : Nat × Nat × zD} (h : S t l = .inr q) (hc : ¬ (160 ≤ cd q.1 ∧ cd q.1 ≤ 162)) : zCm S cd t l = .inl q.1 := by
  unfold zCm
  rw [h]
  exact if_neg hc
theorem zCm_g {S : zP} {cd : Nat → Int} {t l f : Nat} {q : Nat × Nat × zD} (h : S t l = .inr q) (hc : 160 ≤ cd q.1 ∧ cd q.1 ≤ 162) (g : S (q.1 + 1) q.2.1 = .inl f) : zCm S cd t l = .inl f := by
  unfold zCm
  rw [h]
  refine (if_pos hc).trans ?_
  rw [g]
theorem zCm_s {S : zP} {cd : Nat → Int} {t l : Nat} {q r : Nat × Nat × zD} (h : S t l = .inr q) (hc : 160 ≤ cd q.1 ∧ cd q.1 ≤ 162) (g : S (q.1 + 1) q.2.1 = .inr r) : zCm S cd t l = .inr (r.1, r.2.1, zJD (cd q.1) q.2.2 r.2.2) := by
  unfold zCm
  rw [h]
  refine (if_pos hc).trans ?_
  rw [g]
theorem zNt_s {cd : Nat → Int} {n t : Nat} {f : Int} (h : cd t = 5) : zNt cd (n + 1) t f = zNt cd n (t + 1) (1 - f) := if_pos h
theorem zNt_n {cd : Nat → Int} {t : Nat} {f : Int} (h : ¬ cd t = 5) : ∀ n, zNt cd n t f = (t, f)
  | 0 => rfl
  | n + 1 => if_neg h
theorem zPl_e {P : Option zP} {S : zP} {cd : Nat → Int} {t l t1 : Nat} {f : Int} (h : zNt cd 400 t 0 = (t1, f)) : zPl P S cd t l = zFp f (zPos P S cd t1 l) := by
  unfold zPl
  rw [h]
theorem zPos_b {P : Option zP} {S : zP} {cd : Nat → Int} {t l : Nat} (h : cd t = 140) : zPos P S cd t l = zBr P cd 141 t l := if_pos h
theorem zPos_c {P : Option zP} {S : zP} {cd : Nat → Int} {t l : Nat} (h : ¬ cd t = 140) : zPos P S cd t l = zCm S cd t l := if_neg h
theorem zPart_b {P : Option zP} {cd vl : Nat → Int} {t l : Nat} (h : cd t = 191) : zPart P cd vl t l = zBr P cd 193 t l := if_pos h
theorem zPart_l {P : Option zP} {cd vl : Nat → Int} {t l : Nat} (h : ¬ cd t = 191) : zPart P cd vl t l = zLe cd vl t l := if_neg h
theorem zCl_0 {cd vl : Nat → Int} {t l : Nat} (h : ¬ cd t = 1) : zCl cd vl t l = .inl t := if_neg h
theorem zCl_f {cd vl : Nat → Int} {t l f : Nat} (h : cd t = 1) (h1 : zS cd vl 8 (t + 1) l = .inl f) : zCl cd vl t l = .inl f := by
  unfold zCl
  rw [if_pos h, h1]
theorem zCl_n {cd vl : Nat → Int} {t l : Nat} {q : Nat × Nat × zD} (h : cd t = 1) (h1 : zS cd vl 8 (t + 1) l = .inr q) (h2 : ¬ cd q.1 = 2) : zCl cd vl t l = .inr (q.1, q.2.1, q.2.2, none) := by
  unfold zCl
  rw [if_pos h, h1]
  exact if_neg h2
theorem zCl_g {cd vl : Nat → Int} {t l f : Nat} {q : Nat × Nat × zD} (h : cd t = 1) (h1 : zS cd vl 8 (t + 1) l = .inr q) (h2 : cd q.1 = 2) (h3 : zT cd vl 8 (q.1 + 1) q.2.1 = .inl f) : zCl cd vl t l = .inl f := by
  unfold zCl
  rw [if_pos h, h1]
  refine (if_pos h2).trans ?_
  rw [h3]
theorem zCl_s {cd vl : Nat → Int} {t l : Nat} {q r : Nat × Nat × zD} (h : cd t = 1) (h1 : zS cd vl 8 (t + 1) l = .inr q) (h2 : cd q.1 = 2) (h3 : zT cd vl 8 (q.1 + 1) q.2.1 = .inr r) : zCl cd vl t l = .inr (r.1, r.2.1, q.2.2, some r.2.2) := by
  unfold zCl
  rw [if_pos h, h1]
  refine (if_pos h2).trans ?_
  rw [h3]
/-- the laws' clauses behind those that were read -/
def zLa (ac : List zQ) : Nat ⊕ List zQ → Nat ⊕ List zQ
  | .inl f => .inl f
  | .inr qs => .inr (ac ++ qs)
theorem zLw_f {cd vl : Nat → Int} {T n t l f : Nat} (h : zCl cd vl t l = .inl f) : zLw cd vl T (n + 1) t l = .inl f := by
  unfold zLw
  rw [h]
theorem zLw_e {cd vl : Nat → Int} {T n t l : Nat} {q : Nat × Nat × zQ} (h : zCl cd vl t l = .inr q) (hT : q.1 = T) : zLw cd vl T (n + 1) t l = .inr [q.2.2] := by
  unfold zLw
  rw [h]
  exact if_pos hT
theorem zLw_n {cd vl : Nat → Int} {T n t l : Nat} {q : Nat × Nat × zQ} (h : zCl cd vl t l = .inr q) (hT : ¬ q.1 = T) (hc : ¬ cd q.1 = 159) : zLw cd vl T (n + 1) t l = .inl q.1 := by
  unfold zLw
  rw [h]
  refine (if_neg hT).trans ?_
  exact if_neg hc
theorem zLw_s {cd vl : Nat → Int} {T n t l : Nat} {q : Nat × Nat × zQ} (h : zCl cd vl t l = .inr q) (hT : ¬ q.1 = T) (hc : cd q.1 = 159) : zLw cd vl T (n + 1) t l = zLa [q.2.2] (zLw cd vl T n (q.1 + 1) q.2.1) := by
  show (match zCl cd vl t l with
    | .inl f => Sum.inl f
    | .inr q => if q.1 = T then .inr [q.2.2] else if cd q.1 = 159 then (match zLw cd vl T n (q.1 + 1) q.2.1 with
        | .inl f => Sum.inl f
        | .inr qs => .inr (q.2.2 :: qs)) else .inl q.1) = _
  rw [h]
  refine (if_neg hT).trans ((if_pos hc).trans ?_)
  cases zLw cd vl T n (q.1 + 1) q.2.1 <;> rfl
theorem zLa_la (a b : List zQ) (r : Nat ⊕ List zQ) : zLa a (zLa b r) = zLa (a ++ b) r := by
  cases r with
  | inl f => rfl
  | inr qs => show Sum.inr (a ++ (b ++ qs)) = Sum.inr (a ++ b ++ qs); rw [List.append_assoc]
