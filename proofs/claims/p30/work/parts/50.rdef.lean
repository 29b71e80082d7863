/-- which rows, and which fields of the reference's object, may differ -/
def Ch (rs fs : List Nat) (I I' : aI1) : Prop := (∀ k, k ≠ 49 → k ∉ rs → I' k = I k) ∧ (∀ j, j ∉ fs → I' 49 j = I 49 j)
theorem Ch_rf {rs fs : List Nat} {I : aI1} : Ch rs fs I I := ⟨fun _ _ _ => rfl, fun _ _ => rfl⟩
theorem Ch_tr {rs fs : List Nat} {I I1 I2 : aI1} (h : Ch rs fs I I1) (g : Ch rs fs I1 I2) : Ch rs fs I I2 := ⟨fun k h1 h2 => (g.1 k h1 h2).trans (h.1 k h1 h2), fun j h1 => (g.2 j h1).trans (h.2 j h1)⟩
theorem Ch_wd {rs fs rs' fs' : List Nat} {I I' : aI1} (h : Ch rs fs I I') (h1 : ∀ k ∈ rs, k ∈ rs') (h2 : ∀ k ∈ fs, k ∈ fs') : Ch rs' fs' I I' := ⟨fun k g1 g2 => h.1 k g1 (fun q => g2 (h1 k q)), fun j g => h.2 j (fun q => g (h2 j q))⟩
theorem Ch_f {rs fs : List Nat} {I I1 : aI1} {j : Nat} {v : Int} (h : Ch rs fs I I1) (hj : j ∈ fs) : Ch rs fs I (up2 I1 49 j v) := ⟨fun k g1 g2 => by rw [up2_off _ _ _ g1]; exact h.1 k g1 g2, fun i g => by rw [up2_n _ _ (Or.inr (fun e => g (by rw [e]; exact hj)))]; exact h.2 i g⟩
theorem Ch_r {rs fs : List Nat} {I I1 : aI1} {k j : Nat} {v : Int} (h : Ch rs fs I I1) (hk : k ∈ rs) (h9 : k ≠ 49) : Ch rs fs I (up2 I1 k j v) := ⟨fun a g1 g2 => by rw [up2_off _ _ _ (fun e => g2 (by rw [e]; exact hk))]; exact h.1 a g1 g2, fun i g => by rw [up2_off _ _ _ (Ne.symm h9)]; exact h.2 i g⟩
theorem Ch_kp {rs fs : List Nat} {I I' : aI1} (h : Ch rs fs I I') (hr : ∀ k ∈ rs, 49 < k ∧ k < 73) : Kp 49 73 I I' := fun k hk => h.1 k (by omega) (fun q => by have := hr k q; omega)
/-! told laws: rows of tokens -/
def GLeaf (c : Nat → Int) (a : Nat) : Prop := c a = 50 ∨ (6 ≤ c a ∧ c a ≤ 13)
def GRest (T : Nat → Nat → Prop) (op : Int → Prop) (c : Nat → Int) : Nat → Nat → Nat → Prop
  | 0, a, b => a = b ∧ ¬ op (c a)
  | n + 1, a, b => op (c a) ∧ ∃ d, T (a + 1) d ∧ GRest T op c n d b
def GSeq (T : Nat → Nat → Prop) (op : Int → Prop) (c : Nat → Int) (a b : Nat) : Prop := ∃ d, T a d ∧ ∃ n, GRest T op c n d b
def opT (x : Int) : Prop := x = 142 ∨ x = 147 ∨ x = 137
def opS (x : Int) : Prop := x = 143 ∨ x = 145
def opA (x : Int) : Prop := x = 4
def opO (x : Int) : Prop := x = 3
def GPart (P : Nat → Nat → Prop) (c : Nat → Int) (a b : Nat) : Prop := (GLeaf c a ∧ b = a + 1) ∨ (c a = 191 ∧ ∃ d, P (a + 1) d ∧ c d = 193 ∧ b = d + 1)
def GSum (c : Nat → Int) : Nat → Nat → Nat → Prop
  | 0 => GSeq (GSeq (GPart (fun _ _ => False) c) opT c) opS c
  | k + 1 => GSeq (GSeq (GPart (GSum c k) c) opT c) opS c
def GPos (P Sm : Nat → Nat → Prop) (c : Nat → Int) (a b : Nat) : Prop := (c a = 140 ∧ ∃ d, P (a + 1) d ∧ c d = 141 ∧ b = d + 1) ∨ (¬ c a = 140 ∧ ∃ d, Sm a d ∧ Sm (d + 1) b)
def GNots (Q : Nat → Nat → Prop) (c : Nat → Int) : Nat → Nat → Nat → Prop
  | 0, a, b => ¬ c a = 5 ∧ Q a b
  | n + 1, a, b => c a = 5 ∧ GNots Q c n (a + 1) b
def GPlain (P Sm : Nat → Nat → Prop) (c : Nat → Int) (a b : Nat) : Prop := ∃ n, GNots (GPos P Sm c) c n a b
def GTest (c : Nat → Int) : Nat → Nat → Nat → Prop
  | 0 => GSeq (GSeq (GPlain (fun _ _ => False) (GSum c 0) c) opA c) opO c
  | k + 1 => GSeq (GSeq (GPlain (GTest c k) (GSum c (k + 1)) c) opA c) opO c
def GClause (c : Nat → Int) (a b : Nat) : Prop := c a = 1 ∧ ∃ d, GSum c 8 (a + 1) d ∧ ((c d = 2 ∧ GTest c 8 (d + 1) b) ∨ (¬ c d = 2 ∧ b = d))
def GLaw (c : Nat → Int) (n : Nat) : Nat → Nat → Prop
  | 0, a => GClause c a n
  | m + 1, a => ∃ b, GClause c a b ∧ c b = 159 ∧ GLaw c n m (b + 1)
def LawG (c : Nat → Int) (n : Nat) : Prop := ∃ m, GLaw c n m 0
/-- a told law's tokens as it is kept -/
def cvw (k : Nat → Int) (t i : Nat) : Int := if (i : Int) < k (311 + t) then k (317 + 400 * t + i) else 0
/-- what is kept: ranges, and laws that were read -/
def KR (k : Nat → Int) : Prop := (1 ≤ k 304 ∧ k 304 ≤ 8) ∧ (2 ≤ k 305 ∧ k 305 ≤ 8) ∧ (0 ≤ k 307 ∧ k 307 ≤ 255) ∧ (0 ≤ k 308 ∧ k 308 ≤ 24) ∧ (0 ≤ k 309 ∧ k 309 ≤ 16) ∧ (0 ≤ k 310 ∧ k 310 ≤ 6) ∧ (∀ j, 317 ≤ j → j < 2717 → 0 ≤ k j ∧ k j ≤ 400) ∧ (∀ t : Nat, (t : Int) < k 310 → (0 ≤ k (311 + t) ∧ k (311 + t) ≤ 400) ∧ LawG (cvw k t) (k (311 + t)).toNat)
def LB (f : Nat → Int) : Prop := ∀ j, j < 256 → 0 ≤ f j ∧ f j ≤ 256 - j
def RX (I : aI1) : Prop := KR (I 51) ∧ (∀ i, i < 2 → I 53 i = 0 ∨ (I 53 i = 1 ∧ KR (fun j => I 52 (5117 * i + j)))) ∧ LB (I 61) ∧ (0 ≤ I 49 10 ∧ I 49 10 ≤ 400) ∧ (0 ≤ I 49 33 ∧ I 49 33 ≤ 30) ∧ (-1 ≤ I 49 39 ∧ I 49 39 ≤ 24) ∧ I 54 59 = 32
theorem RX_o {I : aI1} (h : RX I) : (1 ≤ I 51 304 ∧ I 51 304 ≤ 8) ∧ (2 ≤ I 51 305 ∧ I 51 305 ≤ 8) ∧ (0 ≤ I 51 307 ∧ I 51 307 ≤ 255) ∧ (0 ≤ I 51 308 ∧ I 51 308 ≤ 24) ∧ (0 ≤ I 51 309 ∧ I 51 309 ≤ 16) ∧ (0 ≤ I 51 310 ∧ I 51 310 ≤ 6) ∧ (0 ≤ I 49 10 ∧ I 49 10 ≤ 400) ∧ (0 ≤ I 49 33 ∧ I 49 33 ≤ 30) ∧ (-1 ≤ I 49 39 ∧ I 49 39 ≤ 24) ∧ (1 ≤ FU (I 51 304) ∧ FU (I 51 304) ≤ 255) := by
  have hf := FU_r h.1.1.1 h.1.1.2
  exact ⟨h.1.1, h.1.2.1, h.1.2.2.1, h.1.2.2.2.1, h.1.2.2.2.2.1, h.1.2.2.2.2.2.1, h.2.2.2.1, h.2.2.2.2.1, h.2.2.2.2.2.1, hf.1, hf.2.1⟩
theorem KR_of {k k' : Nat → Int} (h : KR k) (e : ∀ j, 307 ≤ j → k' j = k j) (h4 : 1 ≤ k' 304 ∧ k' 304 ≤ 8) (h5 : 2 ≤ k' 305 ∧ k' 305 ≤ 8) : KR k' := by
  unfold KR at h ⊢
  rw [e 307 (by decide), e 308 (by decide), e 309 (by decide), e 310 (by decide)]
  obtain ⟨-, -, a7, a8, a9, a10, b1, b2⟩ := h
  refine ⟨h4, h5, a7, a8, a9, a10, fun j g1 g2 => by rw [e j (by omega)]; exact b1 j g1 g2, fun t ht => ?_⟩
  have hv : cvw k' t = cvw k t := by
    funext i
    unfold cvw
    rw [e _ (by omega), e _ (by omega)]
  rw [hv, e _ (by omega)]
  exact b2 t ht
theorem KR_n {k k' : Nat → Int} {q : Nat} (h : KR k) (hq : q = 307 ∨ q = 308 ∨ q = 309) (e : ∀ j, j ≠ q → k' j = k j) (h7 : 0 ≤ k' 307 ∧ k' 307 ≤ 255) (h8 : 0 ≤ k' 308 ∧ k' 308 ≤ 24) (h9 : 0 ≤ k' 309 ∧ k' 309 ≤ 16) : KR k' := by
  unfold KR at h ⊢
  rw [e 304 (by omega), e 305 (by omega), e 310 (by omega)]
  obtain ⟨a4, a5, -, -, -, a10, b1, b2⟩ := h
  refine ⟨a4, a5, h7, h8, h9, a10, fun j g1 g2 => by rw [e j (by omega)]; exact b1 j g1 g2, fun t ht => ?_⟩
  have hv : cvw k' t = cvw k t := by
    funext i
    unfold cvw
    rw [e _ (by omega), e _ (by omega)]
  rw [hv, e _ (by omega)]
  exact b2 t ht
/-- row 51 alone differs -/
theorem RX_k {I I' : aI1} (h : RX I) (e : ∀ a, a ≠ 51 → I' a = I a) (hk : KR (I' 51)) : RX I' := by
  unfold RX at h ⊢
  rw [e 53 (by decide), e 52 (by decide), e 61 (by decide), e 49 (by decide), e 54 (by decide)]
  exact ⟨hk, h.2⟩
theorem RX_lo {I : aI1} {j : Nat} {v : Int} (h : RX I) (hj : j < 304 ∨ j = 306) : RX (up2 I 51 j v) := by
  refine RX_k h (fun a ha => up2_off _ _ _ ha) ?_
  have e : ∀ b, b ≠ j → up2 I 51 j v 51 b = I 51 b := fun b hb => up2_n _ _ (Or.inr hb)
  exact KR_of h.1 (fun b hb => e b (by omega)) (by rw [e _ (by omega)]; exact h.1.1) (by rw [e _ (by omega)]; exact h.1.2.1)
theorem RX_304 {I : aI1} {v : Int} (h : RX I) (h1 : 1 ≤ v) (h2 : v ≤ 8) : RX (up2 I 51 (304 : Int).toNat v) := by
  refine RX_k h (fun a ha => up2_off _ _ _ ha) ?_
  have e : ∀ b, b ≠ 304 → up2 I 51 304 v 51 b = I 51 b := fun b hb => up2_n _ _ (Or.inr hb)
  exact KR_of h.1 (fun b hb => e b (by omega)) (by show 1 ≤ up2 I 51 304 v 51 304 ∧ up2 I 51 304 v 51 304 ≤ 8; rw [up2_s]; exact ⟨h1, h2⟩) (by rw [show up2 I 51 (304 : Int).toNat v 51 305 = I 51 305 from e _ (by omega)]; exact h.1.2.1)
theorem RX_305 {I : aI1} {v : Int} (h : RX I) (h1 : 2 ≤ v) (h2 : v ≤ 8) : RX (up2 I 51 (305 : Int).toNat v) := by
  refine RX_k h (fun a ha => up2_off _ _ _ ha) ?_
  have e : ∀ b, b ≠ 305 → up2 I 51 305 v 51 b = I 51 b := fun b hb => up2_n _ _ (Or.inr hb)
  exact KR_of h.1 (fun b hb => e b (by omega)) (by rw [show up2 I 51 (305 : Int).toNat v 51 304 = I 51 304 from e _ (by omega)]; exact h.1.1) (by show 2 ≤ up2 I 51 305 v 51 305 ∧ up2 I 51 305 v 51 305 ≤ 8; rw [up2_s]; exact ⟨h1, h2⟩)
theorem RX_307 {I : aI1} {v : Int} (h : RX I) (h1 : 0 ≤ v) (h2 : v ≤ 255) : RX (up2 I 51 (307 : Int).toNat v) :=
  RX_k h (fun a ha => up2_off _ _ _ ha) (KR_n (q := 307) h.1 (by decide) (fun b hb => up2_n _ _ (Or.inr hb)) (by rw [show up2 I 51 (307 : Int).toNat v 51 307 = v from up2_s _ _ _ _]; exact ⟨h1, h2⟩) (by rw [show up2 I 51 (307 : Int).toNat v 51 308 = I 51 308 from up2_n _ _ (Or.inr (by decide))]; exact h.1.2.2.2.1) (by rw [show up2 I 51 (307 : Int).toNat v 51 309 = I 51 309 from up2_n _ _ (Or.inr (by decide))]; exact h.1.2.2.2.2.1))
theorem RX_308 {I : aI1} {v : Int} (h : RX I) (h1 : 0 ≤ v) (h2 : v ≤ 24) : RX (up2 I 51 (308 : Int).toNat v) :=
  RX_k h (fun a ha => up2_off _ _ _ ha) (KR_n (q := 308) h.1 (by decide) (fun b hb => up2_n _ _ (Or.inr hb)) (by rw [show up2 I 51 (308 : Int).toNat v 51 307 = I 51 307 from up2_n _ _ (Or.inr (by decide))]; exact h.1.2.2.1) (by rw [show up2 I 51 (308 : Int).toNat v 51 308 = v from up2_s _ _ _ _]; exact ⟨h1, h2⟩) (by rw [show up2 I 51 (308 : Int).toNat v 51 309 = I 51 309 from up2_n _ _ (Or.inr (by decide))]; exact h.1.2.2.2.2.1))
theorem RX_309 {I : aI1} {v : Int} (h : RX I) (h1 : 0 ≤ v) (h2 : v ≤ 16) : RX (up2 I 51 (309 : Int).toNat v) :=
  RX_k h (fun a ha => up2_off _ _ _ ha) (KR_n (q := 309) h.1 (by decide) (fun b hb => up2_n _ _ (Or.inr hb)) (by rw [show up2 I 51 (309 : Int).toNat v 51 307 = I 51 307 from up2_n _ _ (Or.inr (by decide))]; exact h.1.2.2.1) (by rw [show up2 I 51 (309 : Int).toNat v 51 308 = I 51 308 from up2_n _ _ (Or.inr (by decide))]; exact h.1.2.2.2.1) (by rw [show up2 I 51 (309 : Int).toNat v 51 309 = v from up2_s _ _ _ _]; exact ⟨h1, h2⟩))
theorem RX_f {I : aI1} {j : Nat} {v : Int} (h : RX I) (hj : j ≠ 10 ∧ j ≠ 33 ∧ j ≠ 39) : RX (up2 I 49 j v) := by
  unfold RX at h ⊢
  rw [up2_off _ _ _ (show 51 ≠ 49 by decide), up2_off _ _ _ (show 53 ≠ 49 by decide), up2_off _ _ _ (show 52 ≠ 49 by decide), up2_off _ _ _ (show 61 ≠ 49 by decide), up2_off _ _ _ (show 54 ≠ 49 by decide), up2_n _ _ (Or.inr (show 10 ≠ j by omega)), up2_n _ _ (Or.inr (show 33 ≠ j by omega)), up2_n _ _ (Or.inr (show 39 ≠ j by omega))]
  exact h
theorem RX_r {I : aI1} {k j : Nat} {v : Int} (h : RX I) (hk : k ≠ 49 ∧ k ≠ 51 ∧ k ≠ 52 ∧ k ≠ 53 ∧ k ≠ 54 ∧ k ≠ 61) : RX (up2 I k j v) := by
  unfold RX at h ⊢
  rw [up2_off _ _ _ (show 51 ≠ k by omega), up2_off _ _ _ (show 53 ≠ k by omega), up2_off _ _ _ (show 52 ≠ k by omega), up2_off _ _ _ (show 61 ≠ k by omega), up2_off _ _ _ (show 54 ≠ k by omega), up2_off _ _ _ (show 49 ≠ k by omega)]
  exact h
theorem RX_61 {I : aI1} {i v : Int} (h : RX I) (h1 : 0 ≤ v) (h2 : v ≤ 256 - i.toNat) : RX (up2 I 61 i.toNat v) := by
  unfold RX at h ⊢
  rw [up2_off _ _ _ (show 51 ≠ 61 by decide), up2_off _ _ _ (show 53 ≠ 61 by decide), up2_off _ _ _ (show 52 ≠ 61 by decide), up2_off _ _ _ (show 54 ≠ 61 by decide), up2_off _ _ _ (show 49 ≠ 61 by decide)]
  refine ⟨h.1, h.2.1, fun j hj => ?_, h.2.2.2⟩
  by_cases e : j = i.toNat
  · subst e; rw [up2_s]; exact ⟨h1, h2⟩
  · rw [up2_n _ _ (Or.inr e)]; exact h.2.2.1 j hj
theorem RX_10 {I : aI1} {v : Int} (h : RX I) (h1 : 0 ≤ v) (h2 : v ≤ 400) : RX (up2 I 49 10 v) := by
  unfold RX at h ⊢
  rw [up2_off _ _ _ (show 51 ≠ 49 by decide), up2_off _ _ _ (show 53 ≠ 49 by decide), up2_off _ _ _ (show 52 ≠ 49 by decide), up2_off _ _ _ (show 61 ≠ 49 by decide), up2_off _ _ _ (show 54 ≠ 49 by decide), up2_s, up2_n _ _ (Or.inr (show 33 ≠ 10 by decide)), up2_n _ _ (Or.inr (show 39 ≠ 10 by decide))]
  exact ⟨h.1, h.2.1, h.2.2.1, ⟨h1, h2⟩, h.2.2.2.2.1, h.2.2.2.2.2.1, h.2.2.2.2.2.2⟩
theorem RX_33 {I : aI1} {v : Int} (h : RX I) (h1 : 0 ≤ v) (h2 : v ≤ 30) : RX (up2 I 49 33 v) := by
  unfold RX at h ⊢
  rw [up2_off _ _ _ (show 51 ≠ 49 by decide), up2_off _ _ _ (show 53 ≠ 49 by decide), up2_off _ _ _ (show 52 ≠ 49 by decide), up2_off _ _ _ (show 61 ≠ 49 by decide), up2_off _ _ _ (show 54 ≠ 49 by decide), up2_n _ _ (Or.inr (show 10 ≠ 33 by decide)), up2_s, up2_n _ _ (Or.inr (show 39 ≠ 33 by decide))]
  exact ⟨h.1, h.2.1, h.2.2.1, h.2.2.2.1, ⟨h1, h2⟩, h.2.2.2.2.2.1, h.2.2.2.2.2.2⟩
theorem RX_39 {I : aI1} {v : Int} (h : RX I) (h1 : -1 ≤ v) (h2 : v ≤ 24) : RX (up2 I 49 39 v) := by
  unfold RX at h ⊢
  rw [up2_off _ _ _ (show 51 ≠ 49 by decide), up2_off _ _ _ (show 53 ≠ 49 by decide), up2_off _ _ _ (show 52 ≠ 49 by decide), up2_off _ _ _ (show 61 ≠ 49 by decide), up2_off _ _ _ (show 54 ≠ 49 by decide), up2_n _ _ (Or.inr (show 10 ≠ 39 by decide)), up2_n _ _ (Or.inr (show 33 ≠ 39 by decide)), up2_s]
  exact ⟨h.1, h.2.1, h.2.2.1, h.2.2.2.1, h.2.2.2.2.1, ⟨h1, h2⟩, h.2.2.2.2.2.2⟩
