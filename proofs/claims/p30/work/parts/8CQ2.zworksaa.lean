/-! the class's steps -/
theorem zFin_at {sp : Nat → Int} {en : zE} {B a a' : Nat} {s : List Int} {r : Option Int} (h : zFin sp en B a s r) (e : a = a') : zFin sp en B a' s r := e ▸ h
theorem zW_p {sp : Nat → Int} {en : zE} {B a : Nat} {s : List Int} {r : Option Int} (h : zFin sp en B a s r) (ha : a < B) (hp : -8 ≤ sp a) : s.length < 64 ∧ zFin sp en B (a + 1) ((if 0 ≤ sp a then sp a else en (-1 - sp a).toNat) :: s) r := by
  by_cases hl : s.length < 64
  · refine ⟨hl, ?_⟩
    have e := zst_p (en := en) (B := B) hp hl
    rcases zFin_st h ha with ⟨h1, -⟩ | ⟨a1, s1, h1, h2⟩
    · rw [e] at h1; cases h1
    · rw [e] at h1; cases h1; exact h2
  · exfalso
    have e : zst sp en B a s = none := by
      unfold zst
      rw [if_pos hp, if_neg hl]
    rcases zFin_st h ha with ⟨h1, -⟩ | ⟨a1, s1, h1, h2⟩
    · rw [e] at h1; cases h1
    · rw [e] at h1; cases h1
theorem zW_e {sp : Nat → Int} {en : zE} {B a : Nat} {s : List Int} {r : Option Int} (h : zFin sp en B a s r) (ha : a < B) (hp : sp a < -8) : 1 ≤ s.length := by
  cases s with
  | cons v s => exact Nat.succ_le_succ (Nat.zero_le _)
  | nil =>
    exfalso
    have e : zst sp en B a [] = none := by
      unfold zst
      rw [if_neg (by omega)]
    rcases zFin_st h ha with ⟨h1, -⟩ | ⟨a1, s1, h1, h2⟩
    · rw [e] at h1; cases h1
    · rw [e] at h1; cases h1
theorem zW_f {sp : Nat → Int} {en : zE} {B a : Nat} {v : Int} {s : List Int} {r : Option Int} (h : zFin sp en B a (v :: s) r) (ha : a < B) (hp : sp a = -19) : (v = 0 ∨ v = 1) ∧ zFin sp en B (a + 1) ((1 - v) :: s) r := by
  by_cases hv : v = 0 ∨ v = 1
  · refine ⟨hv, ?_⟩
    have e := zst_f (en := en) (B := B) (s := s) hp hv
    rcases zFin_st h ha with ⟨h1, -⟩ | ⟨a1, s1, h1, h2⟩
    · rw [e] at h1; cases h1
    · rw [e] at h1; cases h1; exact h2
  · exfalso
    have e : zst sp en B a (v :: s) = none := by
      unfold zst
      rw [if_neg (by omega)]
      show (if sp a = -19 then _ else _) = _
      rw [if_pos hp, if_neg hv]
    rcases zFin_st h ha with ⟨h1, -⟩ | ⟨a1, s1, h1, h2⟩
    · rw [e] at h1; cases h1
    · rw [e] at h1; cases h1
theorem zW_j {sp : Nat → Int} {en : zE} {B a : Nat} {v : Int} {s : List Int} {r : Option Int} (h : zFin sp en B a (v :: s) r) (ha : a < B) (hp : sp a = -20 ∨ sp a = -21) : a + 1 < B ∧ ((sp a = -20 ∧ ¬ v = 0) ∨ (sp a = -21 ∧ v = 0) → zFin sp en B (max (a + 2) (sp (a + 1)).toNat) (v :: s) r) ∧ (¬ ((sp a = -20 ∧ ¬ v = 0) ∨ (sp a = -21 ∧ v = 0)) → zFin sp en B (a + 2) s r) := by
  by_cases hB : a + 1 < B
  · refine ⟨hB, fun hc => ?_, fun hc => ?_⟩
    · have e := zst_jt (en := en) (s := s) hp hB hc
      rcases zFin_st h ha with ⟨h1, -⟩ | ⟨a1, s1, h1, h2⟩
      · rw [e] at h1; cases h1
      · rw [e] at h1; cases h1; exact h2
    · have e := zst_jf (en := en) (s := s) hp hB hc
      rcases zFin_st h ha with ⟨h1, -⟩ | ⟨a1, s1, h1, h2⟩
      · rw [e] at h1; cases h1
      · rw [e] at h1; cases h1; exact h2
  · exfalso
    have e : zst sp en B a (v :: s) = none := by
      unfold zst
      rw [if_neg (by omega)]
      show (if sp a = -19 then _ else _) = _
      rw [if_neg (by omega), if_pos hp, if_neg hB]
    rcases zFin_st h ha with ⟨h1, -⟩ | ⟨a1, s1, h1, h2⟩
    · rw [e] at h1; cases h1
    · rw [e] at h1; cases h1
theorem zW_o {sp : Nat → Int} {en : zE} {B a : Nat} {v : Int} {s : List Int} {r : Option Int} (h : zFin sp en B a (v :: s) r) (ha : a < B) (hp : sp a ≤ -9 ∧ ¬ sp a = -19 ∧ ¬ sp a = -20 ∧ ¬ sp a = -21) : ∃ u s2, s = u :: s2 ∧ (zJn (zOc (sp a)) u v = none → r = none) ∧ (∀ w, zJn (zOc (sp a)) u v = some w → zFin sp en B (a + 1) (w :: s2) r) := by
  cases s with
  | nil =>
    exfalso
    have e : zst sp en B a [v] = none := by
      unfold zst
      rw [if_neg (by omega)]
      show (if sp a = -19 then _ else _) = _
      rw [if_neg (by omega), if_neg (by omega)]
    rcases zFin_st h ha with ⟨h1, -⟩ | ⟨a1, s1, h1, h2⟩
    · rw [e] at h1; cases h1
    · rw [e] at h1; cases h1
  | cons u s2 =>
    have e := zst_o (en := en) (B := B) (s := s2) (u := u) (v := v) hp
    refine ⟨u, s2, rfl, fun hn => ?_, fun w hw => ?_⟩
    · rw [hn] at e
      rcases zFin_st h ha with ⟨-, h1⟩ | ⟨a1, s1, h1, h2⟩
      · exact h1
      · rw [e] at h1; cases h1
    · rw [hw] at e
      rcases zFin_st h ha with ⟨h1, -⟩ | ⟨a1, s1, h1, h2⟩
      · rw [e] at h1; cases h1
      · rw [e] at h1; cases h1; exact h2
theorem zL_cons {s : List Int} (h : 1 ≤ s.length) : ∃ v s1, s = v :: s1 := by
  cases s with
  | nil => exact absurd h (by decide)
  | cons v s1 => exact ⟨v, s1, rfl⟩
theorem zSK_pn {F G : Nat → Int} {s : List Int} {w val : Int} {j : Nat} (h : zSK F s) (hG : G = up1 F j val) (hj : j = s.length) (hv : w = val) (hw : -1000000000 ≤ w ∧ w ≤ 1000000000) : zSK G (w :: s) := by
  rw [hG, hj, ← hv]
  exact zSK_pu h hw
theorem zJo_1 {op u v x : Int} {b : Nat} {F G : Nat → Int} (h : zJo op u v b x F G) (hx : ¬ x = 0) : ∃ w, zJn op u v = some w ∧ G = up1 F b w := by
  cases hj : zJn op u v with
  | none => exact absurd (h.1 hj) hx
  | some w => exact ⟨w, rfl, (h.2 w hj).2⟩
theorem zJo_z {op u v x : Int} {b : Nat} {F G : Nat → Int} (h : zJo op u v b x F G) (hx : ¬ x = 1) : zJn op u v = none := by
  cases hj : zJn op u v with
  | none => rfl
  | some w => exact absurd (h.2 w hj).1 hx
