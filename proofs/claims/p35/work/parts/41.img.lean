section
theorem CX_lo {I I' : aI1} (h : CX I) (e : ∀ k, k < 49 → I' k = I k) : CX I' := ⟨XI_of h.1 (e _ (by decide)) (e _ (by decide)) (e _ (by decide)) (e _ (by decide)) (e _ (by decide)), LR_of h.2.1 (e _ (by decide)) (e _ (by decide)) (e _ (by decide)) (e _ (by decide)), FI_of h.2.2 (e _ (by decide))⟩
theorem CI_img {I I' : aI1} {R R' : aR1} {S : aS1} {c : Nat} (hL : LY R S) (hC : CX I) (hW : LawsOK I R S 4) (hM : ∀ i, i < 2 → ∀ c', R 7 i = some c' → c' = c ∨ CoastOK I R S c') (hc : 73 ≤ c) (hcs : CoSh R S c) (e : ∀ k, k ≠ c → k ≠ c + 1 → k ≠ c + 2 → k ≠ c + 4 → k ≠ c + 5 → I' k = I k) (eR : ∀ k, k ≠ c + 3 → R' k = R k) (he : CoEq I I' R R' c 1) : CI I' R' S := by
  have hlaw : ∀ w, LawOK I R S w → LawOK I' R' S w := fun w hw => by
    have := law_off hw hcs
    exact LawOK_ext hw (e w (by omega) (by omega) (by omega) (by omega) (by omega)) (e (w + 1) (by omega) (by omega) (by omega) (by omega) (by omega)) (e (w + 2) (by omega) (by omega) (by omega) (by omega) (by omega)) (eR w (by omega)) SX_rf
  have g := he.2.2.2.2.2
  have hx := hC.1
  have hr : CoR I' c := by
    unfold CoR
    unfold XI at hx
    rw [g 5 (by decide) (by decide), g 6 (by decide) (by decide), g 8 (by decide) (by decide), g 9 (by decide) (by decide), g 10 (by decide) (by decide), g 11 (by decide) (by decide)]
    exact ⟨hx.1, hx.2.1, hx.2.2.1, hx.2.2.2.1, hx.2.2.2.2.1, hx.2.2.2.2.2.1, fun s hs => by rw [he.2.1 s hs]; exact hx.2.2.2.2.2.2.2.2.2.1 s hs⟩
  refine ⟨LY_ext hL (fun a h1 _ _ => eR a (by omega)) SX_rf, CX_lo hC (fun k hk => e k (by omega) (by omega) (by omega) (by omega) (by omega)), fun i hi w hw => hlaw w (hW i hi w (by rw [← eR 4 (by omega)]; exact hw)), fun i hi c' hc' => ?_⟩
  rw [eR 7 (by omega)] at hc'
  by_cases hcc : c' = c
  · rw [hcc]
    exact ⟨hc, CoSh_ext hcs (eR _ (by omega)) SX_rf, hr, fun i hi w hw => hlaw w (hW i hi w (by rw [he.2.2.1 i hi] at hw; exact hw))⟩
  · have hk := (hM i hi c' hc').resolve_left hcc
    have := coast_off hk.2.1 hcs hcc
    obtain ⟨k0, k1, k2, k3⟩ := hk
    exact ⟨k0, CoSh_ext k1 (eR _ (by omega)) SX_rf, CoR_ext k2 (e c' (by omega) (by omega) (by omega) (by omega) (by omega)) (e (c' + 2) (by omega) (by omega) (by omega) (by omega) (by omega)), fun i hi w hw => hlaw w (k3 i hi w (by rw [← eR (c' + 3) (by omega)]; exact hw))⟩
theorem nI1_off {F : aI1} {o z k : Nat} (h1 : k ≠ o) (h2 : k < z) : nI_X1 F o z k = F k := by
  unfold nI_X1 fillR
  rw [upR_n _ _ (by omega), upR_n _ _ (by omega), up2_off _ _ _ h1, up2_off _ _ _ h1, upR_n _ _ (by omega), upR_n _ _ (by omega), upR_n _ _ (by omega), upR_n _ _ (by omega)]
theorem nR1_off {F : aR1} {o z k : Nat} (h1 : k ≠ o) (h2 : k < z) : nR_X1 F o z k = F k := by
  unfold nR_X1
  rw [up2_off _ _ _ h1, up2_off _ _ _ h1, up2_off _ _ _ h1, upR_n _ _ (by omega), up2_off _ _ _ h1, up2_off _ _ _ h1]
end
section
/-- which rows, and which fields of the reference's object, may differ -/
def Ch (rs fs : List Nat) (I I' : aI1) : Prop := (∀ k, k ≠ 49 → k ∉ rs → I' k = I k) ∧ (∀ j, j ∉ fs → I' 49 j = I 49 j)
theorem Ch_rf {rs fs : List Nat} {I : aI1} : Ch rs fs I I := ⟨fun _ _ _ => rfl, fun _ _ => rfl⟩
theorem Ch_tr {rs fs : List Nat} {I I1 I2 : aI1} (h : Ch rs fs I I1) (g : Ch rs fs I1 I2) : Ch rs fs I I2 := ⟨fun k h1 h2 => (g.1 k h1 h2).trans (h.1 k h1 h2), fun j h1 => (g.2 j h1).trans (h.2 j h1)⟩
theorem Ch_wd {rs fs rs' fs' : List Nat} {I I' : aI1} (h : Ch rs fs I I') (h1 : ∀ k ∈ rs, k ∈ rs') (h2 : ∀ k ∈ fs, k ∈ fs') : Ch rs' fs' I I' := ⟨fun k g1 g2 => h.1 k g1 (fun q => g2 (h1 k q)), fun j g => h.2 j (fun q => g (h2 j q))⟩
theorem Ch_f {rs fs : List Nat} {I I1 : aI1} {j : Nat} {v : Int} (h : Ch rs fs I I1) (hj : j ∈ fs) : Ch rs fs I (up2 I1 49 j v) := ⟨fun k g1 g2 => by rw [up2_off _ _ _ g1]; exact h.1 k g1 g2, fun i g => by rw [up2_n _ _ (Or.inr (fun e => g (by rw [e]; exact hj)))]; exact h.2 i g⟩
theorem Ch_r {rs fs : List Nat} {I I1 : aI1} {k j : Nat} {v : Int} (h : Ch rs fs I I1) (hk : k ∈ rs) (h9 : k ≠ 49) : Ch rs fs I (up2 I1 k j v) := ⟨fun a g1 g2 => by rw [up2_off _ _ _ (fun e => g2 (by rw [e]; exact hk))]; exact h.1 a g1 g2, fun i g => by rw [up2_off _ _ _ (Ne.symm h9)]; exact h.2 i g⟩
theorem Ch_kp {rs fs : List Nat} {I I' : aI1} (h : Ch rs fs I I') (hr : ∀ k ∈ rs, 49 < k ∧ k < 73) : Kp 49 73 I I' := fun k hk => h.1 k (by omega) (fun q => by have := hr k q; omega)
/-! told laws: rows of tokens -/
def GLeaf (c : Nat → Int) (a : Nat) : Prop := c a = 50 ∨ (6 ≤ c a ∧ c a ≤ 13)
def GRest (T : Nat → Nat → Prop) (op : Int → Prop) (c : Nat → Int) : Nat → Nat → Nat → Prop
  | 0, a, b => a = b ∧ ¬ op (c a)
  | n + 1, a, b => op (c a) ∧ ∃ d, T (a + 1) d ∧ GRest T op c n d b
def GSeq (T : Nat → Nat → Prop) (op : Int → Prop) (c : Nat → Int) (a b : Nat) : Prop := ∃ d, T a d ∧ ∃ n, GRest T op c n d b
def opT (x : Int) : Prop := x = 142 ∨ x = 147 ∨ x = 137
def opS (x : Int) : Prop := x = 143 ∨ x = 145
def opA (x : Int) : Prop := x = 4
def opO (x : Int) : Prop := x = 3
def GPart (P : Nat → Nat → Prop) (c : Nat → Int) (a b : Nat) : Prop := (GLeaf c a ∧ b = a + 1) ∨ (c a = 191 ∧ ∃ d, P (a + 1) d ∧ c d = 193 ∧ b = d + 1)
def GSum (c : Nat → Int) : Nat → Nat → Nat → Prop
  | 0 => GSeq (GSeq (GPart (fun _ _ => False) c) opT c) opS c
  | k + 1 => GSeq (GSeq (GPart (GSum c k) c) opT c) opS c
def GPos (P Sm : Nat → Nat → Prop) (c : Nat → Int) (a b : Nat) : Prop := (c a = 140 ∧ ∃ d, P (a + 1) d ∧ c d = 141 ∧ b = d + 1) ∨ (¬ c a = 140 ∧ ∃ d, Sm a d ∧ Sm (d + 1) b)
def GNots (Q : Nat → Nat → Prop) (c : Nat → Int) : Nat → Nat → Nat → Prop
  | 0, a, b => ¬ c a = 5 ∧ Q a b
  | n + 1, a, b => c a = 5 ∧ GNots Q c n (a + 1) b
def GPlain (P Sm : Nat → Nat → Prop) (c : Nat → Int) (a b : Nat) : Prop := ∃ n, GNots (GPos P Sm c) c n a b
def GTest (c : Nat → Int) : Nat → Nat → Nat → Prop
  | 0 => GSeq (GSeq (GPlain (fun _ _ => False) (GSum c 0) c) opA c) opO c
  | k + 1 => GSeq (GSeq (GPlain (GTest c k) (GSum c (k + 1)) c) opA c) opO c
def GClause (c : Nat → Int) (a b : Nat) : Prop := c a = 1 ∧ ∃ d, GSum c 8 (a + 1) d ∧ ((c d = 2 ∧ GTest c 8 (d + 1) b) ∨ (¬ c d = 2 ∧ b = d))
def GLaw (c : Nat → Int) (n : Nat) : Nat → Nat → Prop
  | 0, a => GClause c a n
  | m + 1, a => ∃ b, GClause c a b ∧ c b = 159 ∧ GLaw c n m (b + 1)
def LawG (c : Nat → Int) (n : Nat) : Prop := ∃ m, GLaw c n m 0
/-- a told law's tokens as it is kept -/
def cvw (k : Nat → Int) (t i : Nat) : Int := if (i : Int) < k (311 + t) then k (317 + 400 * t + i) else 0
/-- what is kept: ranges, and laws that were read -/
def KR (k : Nat → Int) : Prop := (1 ≤ k 304 ∧ k 304 ≤ 8) ∧ (2 ≤ k 305 ∧ k 305 ≤ 8) ∧ (0 ≤ k 307 ∧ k 307 ≤ 255) ∧ (0 ≤ k 308 ∧ k 308 ≤ 24) ∧ (0 ≤ k 309 ∧ k 309 ≤ 16) ∧ (0 ≤ k 310 ∧ k 310 ≤ 6) ∧ (∀ j, 317 ≤ j → j < 2717 → 0 ≤ k j ∧ k j ≤ 400) ∧ (∀ t : Nat, (t : Int) < k 310 → (0 ≤ k (311 + t) ∧ k (311 + t) ≤ 400) ∧ LawG (cvw k t) (k (311 + t)).toNat)
def LB (f : Nat → Int) : Prop := ∀ j, j < 256 → 0 ≤ f j ∧ f j ≤ 256 - j
def RX (I : aI1) : Prop := KR (I 51) ∧ (∀ i, i < 2 → I 53 i = 0 ∨ (I 53 i = 1 ∧ KR (fun j => I 52 (5117 * i + j)))) ∧ LB (I 61) ∧ (0 ≤ I 49 10 ∧ I 49 10 ≤ 400) ∧ (0 ≤ I 49 33 ∧ I 49 33 ≤ 30) ∧ (-1 ≤ I 49 39 ∧ I 49 39 ≤ 24) ∧ I 54 59 = 32
theorem RX_o {I : aI1} (h : RX I) : (1 ≤ I 51 304 ∧ I 51 304 ≤ 8) ∧ (2 ≤ I 51 305 ∧ I 51 305 ≤ 8) ∧ (0 ≤ I 51 307 ∧ I 51 307 ≤ 255) ∧ (0 ≤ I 51 308 ∧ I 51 308 ≤ 24) ∧ (0 ≤ I 51 309 ∧ I 51 309 ≤ 16) ∧ (0 ≤ I 51 310 ∧ I 51 310 ≤ 6) ∧ (0 ≤ I 49 10 ∧ I 49 10 ≤ 400) ∧ (0 ≤ I 49 33 ∧ I 49 33 ≤ 30) ∧ (-1 ≤ I 49 39 ∧ I 49 39 ≤ 24) ∧ (1 ≤ FU (I 51 304) ∧ FU (I 51 304) ≤ 255) := by
  have hf := FU_r h.1.1.1 h.1.1.2
  exact ⟨h.1.1, h.1.2.1, h.1.2.2.1, h.1.2.2.2.1, h.1.2.2.2.2.1, h.1.2.2.2.2.2.1, h.2.2.2.1, h.2.2.2.2.1, h.2.2.2.2.2.1, hf.1, hf.2.1⟩
theorem KR_of {k k' : Nat → Int} (h : KR k) (e : ∀ j, 307 ≤ j → k' j = k j) (h4 : 1 ≤ k' 304 ∧ k' 304 ≤ 8) (h5 : 2 ≤ k' 305 ∧ k' 305 ≤ 8) : KR k' := by
  unfold KR at h ⊢
  rw [e 307 (by decide), e 308 (by decide), e 309 (by decide), e 310 (by decide)]
  obtain ⟨-, -, a7, a8, a9, a10, b1, b2⟩ := h
  refine ⟨h4, h5, a7, a8, a9, a10, fun j g1 g2 => by rw [e j (by omega)]; exact b1 j g1 g2, fun t ht => ?_⟩
  have hv : cvw k' t = cvw k t := by
    funext i
    unfold cvw
    rw [e _ (by omega), e _ (by omega)]
  rw [hv, e _ (by omega)]
  exact b2 t ht
theorem KR_n {k k' : Nat → Int} {q : Nat} (h : KR k) (hq : q = 307 ∨ q = 308 ∨ q = 309) (e : ∀ j, j ≠ q → k' j = k j) (h7 : 0 ≤ k' 307 ∧ k' 307 ≤ 255) (h8 : 0 ≤ k' 308 ∧ k' 308 ≤ 24) (h9 : 0 ≤ k' 309 ∧ k' 309 ≤ 16) : KR k' := by
  unfold KR at h ⊢
  rw [e 304 (by omega), e 305 (by omega), e 310 (by omega)]
  obtain ⟨a4, a5, -, -, -, a10, b1, b2⟩ := h
  refine ⟨a4, a5, h7, h8, h9, a10, fun j g1 g2 => by rw [e j (by omega)]; exact b1 j g1 g2, fun t ht => ?_⟩
  have hv : cvw k' t = cvw k t := by
    funext i
    unfold cvw
    rw [e _ (by omega), e _ (by omega)]
  rw [hv, e _ (by omega)]
  exact b2 t ht
/-- row 51 alone differs -/
theorem RX_k {I I' : aI1} (h : RX I) (e : ∀ a, a ≠ 51 → I' a = I a) (hk : KR (I' 51)) : RX I' := by
  unfold RX at h ⊢
  rw [e 53 (by decide), e 52 (by decide), e 61 (by decide), e 49 (by decide), e 54 (by decide)]
  exact ⟨hk, h.2⟩
theorem RX_lo {I : aI1} {j : Nat} {v : Int} (h : RX I) (hj : j < 304 ∨ j = 306) : RX (up2 I 51 j v) := by
  refine RX_k h (fun a ha => up2_off _ _ _ ha) ?_
  have e : ∀ b, b ≠ j → up2 I 51 j v 51 b = I 51 b := fun b hb => up2_n _ _ (Or.inr hb)
  exact KR_of h.1 (fun b hb => e b (by omega)) (by rw [e _ (by omega)]; exact h.1.1) (by rw [e _ (by omega)]; exact h.1.2.1)
theorem RX_304 {I : aI1} {v : Int} (h : RX I) (h1 : 1 ≤ v) (h2 : v ≤ 8) : RX (up2 I 51 (304 : Int).toNat v) := by
  refine RX_k h (fun a ha => up2_off _ _ _ ha) ?_
  have e : ∀ b, b ≠ 304 → up2 I 51 304 v 51 b = I 51 b := fun b hb => up2_n _ _ (Or.inr hb)
  exact KR_of h.1 (fun b hb => e b (by omega)) (by show 1 ≤ up2 I 51 304 v 51 304 ∧ up2 I 51 304 v 51 304 ≤ 8; rw [up2_s]; exact ⟨h1, h2⟩) (by rw [show up2 I 51 (304 : Int).toNat v 51 305 = I 51 305 from e _ (by omega)]; exact h.1.2.1)
theorem RX_305 {I : aI1} {v : Int} (h : RX I) (h1 : 2 ≤ v) (h2 : v ≤ 8) : RX (up2 I 51 (305 : Int).toNat v) := by
  refine RX_k h (fun a ha => up2_off _ _ _ ha) ?_
  have e : ∀ b, b ≠ 305 → up2 I 51 305 v 51 b = I 51 b := fun b hb => up2_n _ _ (Or.inr hb)
  exact KR_of h.1 (fun b hb => e b (by omega)) (by rw [show up2 I 51 (305 : Int).toNat v 51 304 = I 51 304 from e _ (by omega)]; exact h.1.1) (by show 2 ≤ up2 I 51 305 v 51 305 ∧ up2 I 51 305 v 51 305 ≤ 8; rw [up2_s]; exact ⟨h1, h2⟩)
theorem RX_307 {I : aI1} {v : Int} (h : RX I) (h1 : 0 ≤ v) (h2 : v ≤ 255) : RX (up2 I 51 (307 : Int).toNat v) :=
  RX_k h (fun a ha => up2_off _ _ _ ha) (KR_n (q := 307) h.1 (by decide) (fun b hb => up2_n _ _ (Or.inr hb)) (by rw [show up2 I 51 (307 : Int).toNat v 51 307 = v from up2_s _ _ _ _]; exact ⟨h1, h2⟩) (by rw [show up2 I 51 (307 : Int).toNat v 51 308 = I 51 308 from up2_n _ _ (Or.inr (by decide))]; exact h.1.2.2.2.1) (by rw [show up2 I 51 (307 : Int).toNat v 51 309 = I 51 309 from up2_n _ _ (Or.inr (by decide))]; exact h.1.2.2.2.2.1))
theorem RX_308 {I : aI1} {v : Int} (h : RX I) (h1 : 0 ≤ v) (h2 : v ≤ 24) : RX (up2 I 51 (308 : Int).toNat v) :=
  RX_k h (fun a ha => up2_off _ _ _ ha) (KR_n (q := 308) h.1 (by decide) (fun b hb => up2_n _ _ (Or.inr hb)) (by rw [show up2 I 51 (308 : Int).toNat v 51 307 = I 51 307 from up2_n _ _ (Or.inr (by decide))]; exact h.1.2.2.1) (by rw [show up2 I 51 (308 : Int).toNat v 51 308 = v from up2_s _ _ _ _]; exact ⟨h1, h2⟩) (by rw [show up2 I 51 (308 : Int).toNat v 51 309 = I 51 309 from up2_n _ _ (Or.inr (by decide))]; exact h.1.2.2.2.2.1))
theorem RX_309 {I : aI1} {v : Int} (h : RX I) (h1 : 0 ≤ v) (h2 : v ≤ 16) : RX (up2 I 51 (309 : Int).toNat v) :=
  RX_k h (fun a ha => up2_off _ _ _ ha) (KR_n (q := 309) h.1 (by decide) (fun b hb => up2_n _ _ (Or.inr hb)) (by rw [show up2 I 51 (309 : Int).toNat v 51 307 = I 51 307 from up2_n _ _ (Or.inr (by decide))]; exact h.1.2.2.1) (by rw [show up2 I 51 (309 : Int).toNat v 51 308 = I 51 308 from up2_n _ _ (Or.inr (by decide))]; exact h.1.2.2.2.1) (by rw [show up2 I 51 (309 : Int).toNat v 51 309 = v from up2_s _ _ _ _]; exact ⟨h1, h2⟩))
theorem RX_f {I : aI1} {j : Nat} {v : Int} (h : RX I) (hj : j ≠ 10 ∧ j ≠ 33 ∧ j ≠ 39) : RX (up2 I 49 j v) := by
  unfold RX at h ⊢
  rw [up2_off _ _ _ (show 51 ≠ 49 by decide), up2_off _ _ _ (show 53 ≠ 49 by decide), up2_off _ _ _ (show 52 ≠ 49 by decide), up2_off _ _ _ (show 61 ≠ 49 by decide), up2_off _ _ _ (show 54 ≠ 49 by decide), up2_n _ _ (Or.inr (show 10 ≠ j by omega)), up2_n _ _ (Or.inr (show 33 ≠ j by omega)), up2_n _ _ (Or.inr (show 39 ≠ j by omega))]
  exact h
theorem RX_r {I : aI1} {k j : Nat} {v : Int} (h : RX I) (hk : k ≠ 49 ∧ k ≠ 51 ∧ k ≠ 52 ∧ k ≠ 53 ∧ k ≠ 54 ∧ k ≠ 61) : RX (up2 I k j v) := by
  unfold RX at h ⊢
  rw [up2_off _ _ _ (show 51 ≠ k by omega), up2_off _ _ _ (show 53 ≠ k by omega), up2_off _ _ _ (show 52 ≠ k by omega), up2_off _ _ _ (show 61 ≠ k by omega), up2_off _ _ _ (show 54 ≠ k by omega), up2_off _ _ _ (show 49 ≠ k by omega)]
  exact h
theorem RX_61 {I : aI1} {i v : Int} (h : RX I) (h1 : 0 ≤ v) (h2 : v ≤ 256 - i.toNat) : RX (up2 I 61 i.toNat v) := by
  unfold RX at h ⊢
  rw [up2_off _ _ _ (show 51 ≠ 61 by decide), up2_off _ _ _ (show 53 ≠ 61 by decide), up2_off _ _ _ (show 52 ≠ 61 by decide), up2_off _ _ _ (show 54 ≠ 61 by decide), up2_off _ _ _ (show 49 ≠ 61 by decide)]
  refine ⟨h.1, h.2.1, fun j hj => ?_, h.2.2.2⟩
  by_cases e : j = i.toNat
  · subst e; rw [up2_s]; exact ⟨h1, h2⟩
  · rw [up2_n _ _ (Or.inr e)]; exact h.2.2.1 j hj
theorem RX_10 {I : aI1} {v : Int} (h : RX I) (h1 : 0 ≤ v) (h2 : v ≤ 400) : RX (up2 I 49 10 v) := by
  unfold RX at h ⊢
  rw [up2_off _ _ _ (show 51 ≠ 49 by decide), up2_off _ _ _ (show 53 ≠ 49 by decide), up2_off _ _ _ (show 52 ≠ 49 by decide), up2_off _ _ _ (show 61 ≠ 49 by decide), up2_off _ _ _ (show 54 ≠ 49 by decide), up2_s, up2_n _ _ (Or.inr (show 33 ≠ 10 by decide)), up2_n _ _ (Or.inr (show 39 ≠ 10 by decide))]
  exact ⟨h.1, h.2.1, h.2.2.1, ⟨h1, h2⟩, h.2.2.2.2.1, h.2.2.2.2.2.1, h.2.2.2.2.2.2⟩
theorem RX_33 {I : aI1} {v : Int} (h : RX I) (h1 : 0 ≤ v) (h2 : v ≤ 30) : RX (up2 I 49 33 v) := by
  unfold RX at h ⊢
  rw [up2_off _ _ _ (show 51 ≠ 49 by decide), up2_off _ _ _ (show 53 ≠ 49 by decide), up2_off _ _ _ (show 52 ≠ 49 by decide), up2_off _ _ _ (show 61 ≠ 49 by decide), up2_off _ _ _ (show 54 ≠ 49 by decide), up2_n _ _ (Or.inr (show 10 ≠ 33 by decide)), up2_s, up2_n _ _ (Or.inr (show 39 ≠ 33 by decide))]
  exact ⟨h.1, h.2.1, h.2.2.1, h.2.2.2.1, ⟨h1, h2⟩, h.2.2.2.2.2.1, h.2.2.2.2.2.2⟩
theorem RX_39 {I : aI1} {v : Int} (h : RX I) (h1 : -1 ≤ v) (h2 : v ≤ 24) : RX (up2 I 49 39 v) := by
  unfold RX at h ⊢
  rw [up2_off _ _ _ (show 51 ≠ 49 by decide), up2_off _ _ _ (show 53 ≠ 49 by decide), up2_off _ _ _ (show 52 ≠ 49 by decide), up2_off _ _ _ (show 61 ≠ 49 by decide), up2_off _ _ _ (show 54 ≠ 49 by decide), up2_n _ _ (Or.inr (show 10 ≠ 39 by decide)), up2_n _ _ (Or.inr (show 33 ≠ 39 by decide)), up2_s]
  exact ⟨h.1, h.2.1, h.2.2.1, h.2.2.2.1, h.2.2.2.2.1, ⟨h1, h2⟩, h.2.2.2.2.2.2⟩
end
section
set_option maxHeartbeats 4000000 in
set_option maxRecDepth 20000 in
theorem c_X11_lies (l0 : Launch) {Ia Ja : aI1} {Ra : aR1} {Sa : aS1} {a b c : Int} (ha0 : -2147483648 ≤ a) (ha1 : a < 2147483648) (hb0 : -2147483648 ≤ b) (hb1 : b < 2147483648) (hc0 : -2147483648 ≤ c) (hc1 : c < 2147483648)  : CT l0 0 0 0 mX11_lies [kI a, kI b, kI c] Ia Ja Ra Sa (cI (fun x I' J' => Ia = I' ∧ Ja = J' ∧ (x = 0 ∨ x = 1) ∧ (x = 1 ↔ b ≤ a ∧ a ≤ c)) Ra Sa) := by
  refine ct_in pn_X11 (Nat.le_of_ble_eq_true rfl) (fun X hX hT hIn => ?_)
  have hX : aK l0 X cX11_lies 3 RX11 (some .boolean) 0 0 0 := hX
  change WW X 0 [some (kI a), some (kI b), some (kI c)] [] Ia Ja Ra Sa 0 0
  refine ww_iload_n hX (pc := 0) dX11_lies_0 rfl ?_
  refine ww_iload_n hX (pc := 1) dX11_lies_1 rfl ?_
  refine ww_icmp_lt hX (pc := 2) (tgt := 14) dX11_lies_2 (by decide) (fun h_2 => ?_) (fun h_2 => ?_)
  · simp only [w32_mod] at h_2
    refine ww_iconst hX (pc := 14) (x := 0) dX11_lies_14 rfl ?_
    refine rZ hX (pc := 15) hT (Nat.le_refl 0) (Nat.le_refl 0) dX11_lies_15 (by decide) ?_
    exact ⟨rfl, rfl, by omega, by omega⟩
  · simp only [w32_mod] at h_2
    refine ww_iload_n hX (pc := 5) dX11_lies_5 rfl ?_
    refine ww_iload_n hX (pc := 6) dX11_lies_6 rfl ?_
    refine ww_icmp_gt hX (pc := 7) (tgt := 14) dX11_lies_7 (by decide) (fun h_7 => ?_) (fun h_7 => ?_)
    · simp only [w32_mod] at h_7
      refine ww_iconst hX (pc := 14) (x := 0) dX11_lies_14 rfl ?_
      refine rZ hX (pc := 15) hT (Nat.le_refl 0) (Nat.le_refl 0) dX11_lies_15 (by decide) ?_
      exact ⟨rfl, rfl, by omega, by omega⟩
    · simp only [w32_mod] at h_7
      refine ww_iconst hX (pc := 10) (x := 1) dX11_lies_10 rfl ?_
      refine ww_goto hX (pc := 11) (tgt := 15) dX11_lies_11 (by decide) ?_
      refine rZ hX (pc := 15) hT (Nat.le_refl 0) (Nat.le_refl 0) dX11_lies_15 (by decide) ?_
      exact ⟨rfl, rfl, by omega, by omega⟩
set_option maxHeartbeats 4000000 in
set_option maxRecDepth 20000 in
theorem c_X11_isManner (l0 : Launch) {Ia Ja : aI1} {Ra : aR1} {Sa : aS1} {a : Int} (ha0 : -2147483648 ≤ a) (ha1 : a < 2147483648)  : CT l0 1 0 0 mX11_isManner [kI a] Ia Ja Ra Sa (cI (fun x I' J' => Ia = I' ∧ Ja = J' ∧ (x = 0 ∨ x = 1) ∧ (x = 1 ↔ 0 ≤ a ∧ a ≤ 3)) Ra Sa) := by
  refine ct_in pn_X11 (Nat.le_of_ble_eq_true rfl) (fun X hX hT hIn => ?_)
  have hX : aK l0 X cX11_isManner 1 RX11 (some .boolean) 1 0 0 := hX
  change WW X 0 [some (kI a)] [] Ia Ja Ra Sa 0 0
  refine ww_iload_n hX (pc := 0) dX11_isManner_0 rfl ?_
  refine ww_iconst hX (pc := 1) (x := 0) dX11_isManner_1 rfl ?_
  refine ww_iconst hX (pc := 2) (x := 3) dX11_isManner_2 rfl ?_
  refine sI3 hX (pc := 3) sX11_101 (c_X11_lies l0 (by omega) (by omega) (by omega) (by omega) (by omega) (by omega)) (by decide) (Nat.le_refl 0) (Nat.le_refl 0) (Nat.le_of_ble_eq_true rfl) dX11_isManner_3 (fun x_3 I_3 J_3 h_3 => ?_)
  obtain ⟨rfl, rfl, h_3⟩ := h_3
  refine rZ hX (pc := 6) hT (Nat.le_refl 0) (Nat.le_refl 0) dX11_isManner_6 (by omega) ?_
  exact ⟨rfl, rfl, by omega, by omega⟩
set_option maxHeartbeats 4000000 in
set_option maxRecDepth 20000 in
theorem c_X11_areCodes (l0 : Launch) {Ia Ja : aI1} {Ra : aR1} {Sa : aS1} {a b c : Int} (ha0 : -2147483648 ≤ a) (ha1 : a < 2147483648) (hb0 : -2147483648 ≤ b) (hb1 : b < 2147483648) (hc0 : -2147483648 ≤ c) (hc1 : c < 2147483648)  : CT l0 1 0 0 mX11_areCodes [kI a, kI b, kI c] Ia Ja Ra Sa (cI (fun x I' J' => Ia = I' ∧ Ja = J' ∧ (x = 0 ∨ x = 1) ∧ (x = 1 ↔ 1 ≤ a ∧ a ≤ 3 ∧ 2 ≤ b ∧ b ≤ 4 ∧ 0 ≤ c ∧ c ≤ 8)) Ra Sa) := by
  refine ct_in pn_X11 (Nat.le_of_ble_eq_true rfl) (fun X hX hT hIn => ?_)
  have hX : aK l0 X cX11_areCodes 3 RX11 (some .boolean) 1 0 0 := hX
  change WW X 0 [some (kI a), some (kI b), some (kI c)] [] Ia Ja Ra Sa 0 0
  refine ww_iload_n hX (pc := 0) dX11_areCodes_0 rfl ?_
  refine ww_iconst hX (pc := 1) (x := 1) dX11_areCodes_1 rfl ?_
  refine ww_iconst hX (pc := 2) (x := 3) dX11_areCodes_2 rfl ?_
  refine sI3 hX (pc := 3) sX11_101 (c_X11_lies l0 (by omega) (by omega) (by omega) (by omega) (by omega) (by omega)) (by decide) (Nat.le_refl 0) (Nat.le_refl 0) (Nat.le_of_ble_eq_true rfl) dX11_areCodes_3 (fun x_3 I_3 J_3 h_3 => ?_)
  obtain ⟨rfl, rfl, h_3⟩ := h_3
  refine ww_if_eq hX (pc := 6) (tgt := 32) dX11_areCodes_6 (by decide) (fun h_6 => ?_) (fun h_6 => ?_)
  · simp only [w32_mod] at h_6
    refine ww_iconst hX (pc := 32) (x := 0) dX11_areCodes_32 rfl ?_
    refine rZ hX (pc := 33) hT (Nat.le_refl 0) (Nat.le_refl 0) dX11_areCodes_33 (by decide) ?_
    exact ⟨rfl, rfl, by omega, by omega⟩
  · simp only [w32_mod] at h_6
    have k_3 := h_3.2.mp (by omega)
    clear h_3
    refine ww_iload_n hX (pc := 9) dX11_areCodes_9 rfl ?_
    refine ww_iconst hX (pc := 10) (x := 2) dX11_areCodes_10 rfl ?_
    refine ww_iconst hX (pc := 11) (x := 4) dX11_areCodes_11 rfl ?_
    refine sI3 hX (pc := 12) sX11_101 (c_X11_lies l0 (by omega) (by omega) (by omega) (by omega) (by omega) (by omega)) (by decide) (Nat.le_refl 0) (Nat.le_refl 0) (Nat.le_of_ble_eq_true rfl) dX11_areCodes_12 (fun x_12 I_12 J_12 h_12 => ?_)
    obtain ⟨rfl, rfl, h_12⟩ := h_12
    refine ww_if_eq hX (pc := 15) (tgt := 32) dX11_areCodes_15 (by decide) (fun h_15 => ?_) (fun h_15 => ?_)
    · simp only [w32_mod] at h_15
      refine ww_iconst hX (pc := 32) (x := 0) dX11_areCodes_32 rfl ?_
      refine rZ hX (pc := 33) hT (Nat.le_refl 0) (Nat.le_refl 0) dX11_areCodes_33 (by decide) ?_
      exact ⟨rfl, rfl, by omega, by omega⟩
    · simp only [w32_mod] at h_15
      have k_12 := h_12.2.mp (by omega)
      clear h_12
      refine ww_iload_n hX (pc := 18) dX11_areCodes_18 rfl ?_
      refine ww_iconst hX (pc := 19) (x := 0) dX11_areCodes_19 rfl ?_
      refine ww_bipush hX (pc := 20) (x := 8) dX11_areCodes_20 (by decide) ?_
      refine sI3 hX (pc := 22) sX11_101 (c_X11_lies l0 (by omega) (by omega) (by omega) (by omega) (by omega) (by omega)) (by decide) (Nat.le_refl 0) (Nat.le_refl 0) (Nat.le_of_ble_eq_true rfl) dX11_areCodes_22 (fun x_22 I_22 J_22 h_22 => ?_)
      obtain ⟨rfl, rfl, h_22⟩ := h_22
      refine ww_if_eq hX (pc := 25) (tgt := 32) dX11_areCodes_25 (by decide) (fun h_25 => ?_) (fun h_25 => ?_)
      · simp only [w32_mod] at h_25
        refine ww_iconst hX (pc := 32) (x := 0) dX11_areCodes_32 rfl ?_
        refine rZ hX (pc := 33) hT (Nat.le_refl 0) (Nat.le_refl 0) dX11_areCodes_33 (by decide) ?_
        exact ⟨rfl, rfl, by omega, by omega⟩
      · simp only [w32_mod] at h_25
        have k_22 := h_22.2.mp (by omega)
        clear h_22
        refine ww_iconst hX (pc := 28) (x := 1) dX11_areCodes_28 rfl ?_
        refine ww_goto hX (pc := 29) (tgt := 33) dX11_areCodes_29 (by decide) ?_
        refine rZ hX (pc := 33) hT (Nat.le_refl 0) (Nat.le_refl 0) dX11_areCodes_33 (by decide) ?_
        exact ⟨rfl, rfl, by omega, by omega⟩
set_option maxHeartbeats 4000000 in
set_option maxRecDepth 20000 in
theorem c_X11_greater (l0 : Launch) {Ia Ja : aI1} {Ra : aR1} {Sa : aS1} {a b : Int} (ha0 : -2147483648 ≤ a) (ha1 : a < 2147483648) (hb0 : -2147483648 ≤ b) (hb1 : b < 2147483648)  : CT l0 0 0 0 mX11_greater [kI a, kI b] Ia Ja Ra Sa (cI (fun x I' J' => Ia = I' ∧ Ja = J' ∧ x = max a b) Ra Sa) := by
  refine ct_in pn_X11 (Nat.le_of_ble_eq_true rfl) (fun X hX hT hIn => ?_)
  have hX : aK l0 X cX11_greater 2 RX11 (some .int) 0 0 0 := hX
  change WW X 0 [some (kI a), some (kI b)] [] Ia Ja Ra Sa 0 0
  refine ww_iload_n hX (pc := 0) dX11_greater_0 rfl ?_
  refine ww_iload_n hX (pc := 1) dX11_greater_1 rfl ?_
  refine ww_icmp_le hX (pc := 2) (tgt := 9) dX11_greater_2 (by decide) (fun h_2 => ?_) (fun h_2 => ?_)
  · simp only [w32_mod] at h_2
    refine ww_iload_n hX (pc := 9) dX11_greater_9 rfl ?_
    refine rI hX (pc := 10) hT (Nat.le_refl 0) (Nat.le_refl 0) dX11_greater_10 ?_
    exact ⟨rfl, rfl, by omega⟩
  · simp only [w32_mod] at h_2
    refine ww_iload_n hX (pc := 5) dX11_greater_5 rfl ?_
    refine ww_goto hX (pc := 6) (tgt := 10) dX11_greater_6 (by decide) ?_
    refine rI hX (pc := 10) hT (Nat.le_refl 0) (Nat.le_refl 0) dX11_greater_10 ?_
    exact ⟨rfl, rfl, by omega⟩
set_option maxHeartbeats 4000000 in
set_option maxRecDepth 20000 in
theorem c_X11_isSmall (l0 : Launch) {Ia Ja : aI1} {Ra : aR1} {Sa : aS1} {a : Int} (ha0 : -2147483648 ≤ a) (ha1 : a < 2147483648)  : CT l0 0 0 0 mX11_isSmall [kI a] Ia Ja Ra Sa (cI (fun x I' J' => Ia = I' ∧ Ja = J' ∧ (x = 0 ∨ x = 1) ∧ (x = 1 ↔ 97 ≤ a ∧ a ≤ 122)) Ra Sa) := by
  refine ct_in pn_X11 (Nat.le_of_ble_eq_true rfl) (fun X hX hT hIn => ?_)
  have hX : aK l0 X cX11_isSmall 1 RX11 (some .boolean) 0 0 0 := hX
  change WW X 0 [some (kI a)] [] Ia Ja Ra Sa 0 0
  refine ww_iload_n hX (pc := 0) dX11_isSmall_0 rfl ?_
  refine ww_bipush hX (pc := 1) (x := 97) dX11_isSmall_1 (by decide) ?_
  refine ww_icmp_lt hX (pc := 3) (tgt := 16) dX11_isSmall_3 (by decide) (fun h_3 => ?_) (fun h_3 => ?_)
  · simp only [w32_mod] at h_3
    refine ww_iconst hX (pc := 16) (x := 0) dX11_isSmall_16 rfl ?_
    refine rZ hX (pc := 17) hT (Nat.le_refl 0) (Nat.le_refl 0) dX11_isSmall_17 (by decide) ?_
    exact ⟨rfl, rfl, by omega, by omega⟩
  · simp only [w32_mod] at h_3
    refine ww_iload_n hX (pc := 6) dX11_isSmall_6 rfl ?_
    refine ww_bipush hX (pc := 7) (x := 122) dX11_isSmall_7 (by decide) ?_
    refine ww_icmp_gt hX (pc := 9) (tgt := 16) dX11_isSmall_9 (by decide) (fun h_9 => ?_) (fun h_9 => ?_)
    · simp only [w32_mod] at h_9
      refine ww_iconst hX (pc := 16) (x := 0) dX11_isSmall_16 rfl ?_
      refine rZ hX (pc := 17) hT (Nat.le_refl 0) (Nat.le_refl 0) dX11_isSmall_17 (by decide) ?_
      exact ⟨rfl, rfl, by omega, by omega⟩
    · simp only [w32_mod] at h_9
      refine ww_iconst hX (pc := 12) (x := 1) dX11_isSmall_12 rfl ?_
      refine ww_goto hX (pc := 13) (tgt := 17) dX11_isSmall_13 (by decide) ?_
      refine rZ hX (pc := 17) hT (Nat.le_refl 0) (Nat.le_refl 0) dX11_isSmall_17 (by decide) ?_
      exact ⟨rfl, rfl, by omega, by omega⟩
set_option maxHeartbeats 4000000 in
set_option maxRecDepth 20000 in
theorem c_X11_isDigit (l0 : Launch) {Ia Ja : aI1} {Ra : aR1} {Sa : aS1} {a : Int} (ha0 : -2147483648 ≤ a) (ha1 : a < 2147483648)  : CT l0 0 0 0 mX11_isDigit [kI a] Ia Ja Ra Sa (cI (fun x I' J' => Ia = I' ∧ Ja = J' ∧ (x = 0 ∨ x = 1) ∧ (x = 1 ↔ 48 ≤ a ∧ a ≤ 57)) Ra Sa) := by
  refine ct_in pn_X11 (Nat.le_of_ble_eq_true rfl) (fun X hX hT hIn => ?_)
  have hX : aK l0 X cX11_isDigit 1 RX11 (some .boolean) 0 0 0 := hX
  change WW X 0 [some (kI a)] [] Ia Ja Ra Sa 0 0
  refine ww_iload_n hX (pc := 0) dX11_isDigit_0 rfl ?_
  refine ww_bipush hX (pc := 1) (x := 48) dX11_isDigit_1 (by decide) ?_
  refine ww_icmp_lt hX (pc := 3) (tgt := 16) dX11_isDigit_3 (by decide) (fun h_3 => ?_) (fun h_3 => ?_)
  · simp only [w32_mod] at h_3
    refine ww_iconst hX (pc := 16) (x := 0) dX11_isDigit_16 rfl ?_
    refine rZ hX (pc := 17) hT (Nat.le_refl 0) (Nat.le_refl 0) dX11_isDigit_17 (by decide) ?_
    exact ⟨rfl, rfl, by omega, by omega⟩
  · simp only [w32_mod] at h_3
    refine ww_iload_n hX (pc := 6) dX11_isDigit_6 rfl ?_
    refine ww_bipush hX (pc := 7) (x := 57) dX11_isDigit_7 (by decide) ?_
    refine ww_icmp_gt hX (pc := 9) (tgt := 16) dX11_isDigit_9 (by decide) (fun h_9 => ?_) (fun h_9 => ?_)
    · simp only [w32_mod] at h_9
      refine ww_iconst hX (pc := 16) (x := 0) dX11_isDigit_16 rfl ?_
      refine rZ hX (pc := 17) hT (Nat.le_refl 0) (Nat.le_refl 0) dX11_isDigit_17 (by decide) ?_
      exact ⟨rfl, rfl, by omega, by omega⟩
    · simp only [w32_mod] at h_9
      refine ww_iconst hX (pc := 12) (x := 1) dX11_isDigit_12 rfl ?_
      refine ww_goto hX (pc := 13) (tgt := 17) dX11_isDigit_13 (by decide) ?_
      refine rZ hX (pc := 17) hT (Nat.le_refl 0) (Nat.le_refl 0) dX11_isDigit_17 (by decide) ?_
      exact ⟨rfl, rfl, by omega, by omega⟩
set_option maxHeartbeats 4000000 in
set_option maxRecDepth 20000 in
theorem c_X11_sign (l0 : Launch) {Ia Ja : aI1} {Ra : aR1} {Sa : aS1} {a : Int}  : CT l0 0 0 0 mX11_sign [kI a] Ia Ja Ra Sa (cI (fun x I' J' => Ia = I' ∧ Ja = J' ∧ x = 100 + a) Ra Sa) := by
  refine ct_in pn_X11 (Nat.le_of_ble_eq_true rfl) (fun X hX hT hIn => ?_)
  have hX : aK l0 X cX11_sign 1 RX11 (some .int) 0 0 0 := hX
  change WW X 0 [some (kI a)] [] Ia Ja Ra Sa 0 0
  refine ww_bipush hX (pc := 0) (x := 100) dX11_sign_0 (by decide) ?_
  refine ww_iload_n hX (pc := 2) dX11_sign_2 rfl ?_
  refine ww_iadd hX (pc := 3) dX11_sign_3 ?_
  refine rI hX (pc := 4) hT (Nat.le_refl 0) (Nat.le_refl 0) dX11_sign_4 ?_
  exact ⟨rfl, rfl, rfl⟩
set_option maxHeartbeats 4000000 in
set_option maxRecDepth 20000 in
theorem c_X11_refuses (l0 : Launch) {Ia Ja : aI1} {Ra : aR1} {Sa : aS1} (hL : LY Ra Sa) (hQ : RX Ia) {a : Int} (ha0 : -6 ≤ a) (ha1 : a ≤ -1)  : CT l0 0 0 0 mX11_refuses [kR (some 49), kI a] Ia Ja Ra Sa (cI (fun x I' J' => Ch [50] [0] Ia I' ∧ Kp 49 73 Ja J' ∧ RX I' ∧ x = a) Ra Sa) := by
  refine ct_in pn_X11 (Nat.le_of_ble_eq_true rfl) (fun X hX hT hIn => ?_)
  have hX : aK l0 X cX11_refuses 2 RX11 (some .int) 0 0 0 := hX
  change WW X 0 [some (kR (some 49)), some (kI a)] [] Ia Ja Ra Sa 0 0
  have qIa := RX_o hQ
  refine ww_aload_n hX (pc := 0) dX11_refuses_0 rfl ?_
  refine ww_iload_n hX (pc := 1) dX11_refuses_1 rfl ?_
  refine ww_putI hX (pc := 2) (fun h9 => absurd h9 (by decide)) gX11_3 rfl (xs_49 hL) dX11_refuses_2 ?_
  refine ww_nmH (fun I_2 eI_2 => ?_)
  have kI_2 : Ch [50] [0] Ia I_2 := by rw [eI_2]; exact Ch_f Ch_rf (by decide)
  have cI_2 : RX I_2 := by rw [eI_2]; exact RX_f hQ (by decide)
  have qI_2 := RX_o cI_2
  have r304_I_2 : I_2 51 304 = Ia 51 304 := by rw [eI_2, up2_off _ _ _ (by decide)]
  have r305_I_2 : I_2 51 305 = Ia 51 305 := by rw [eI_2, up2_off _ _ _ (by decide)]
  have rf_I_2 : FU (I_2 51 304) = FU (Ia 51 304) := by rw [r304_I_2]
  refine ww_aload_n hX (pc := 5) dX11_refuses_5 rfl ?_
  refine ww_getR hX (pc := 6) fX11_7 (by decide) (xs_49 hL) (xr_49_2 hL) dX11_refuses_6 ?_
  refine ww_iload_n hX (pc := 9) dX11_refuses_9 rfl ?_
  refine ww_ineg hX (pc := 10) dX11_refuses_10 ?_
  refine ww_dup2 hX (pc := 11) dX11_refuses_11 ?_
  refine ww_iald hX (pc := 12) (xs_50 hL) (by decide) (by omega) (by omega) dX11_refuses_12 ?_
  refine ww_iconst hX (pc := 13) (x := 1) dX11_refuses_13 rfl ?_
  refine ww_iadd hX (pc := 14) dX11_refuses_14 ?_
  refine ww_iast hX (pc := 15) (xs_50 hL) (by decide) (by omega) (by omega) dX11_refuses_15 ?_
  refine ww_nmH (fun I_15 eI_15 => ?_)
  have kI_15 : Ch [50] [0] Ia I_15 := by rw [eI_15]; exact Ch_r kI_2 (by decide) (by decide)
  have cI_15 : RX I_15 := by rw [eI_15]; exact RX_r cI_2 (by decide)
  have qI_15 := RX_o cI_15
  have r304_I_15 : I_15 51 304 = I_2 51 304 := by rw [eI_15, up2_off _ _ _ (by decide)]
  have r305_I_15 : I_15 51 305 = I_2 51 305 := by rw [eI_15, up2_off _ _ _ (by decide)]
  have rf_I_15 : FU (I_15 51 304) = FU (I_2 51 304) := by rw [r304_I_15]
  refine ww_iload_n hX (pc := 16) dX11_refuses_16 rfl ?_
  refine rI hX (pc := 17) hT (Nat.le_refl 0) (Nat.le_refl 0) dX11_refuses_17 ?_
  exact ⟨kI_15, (Kp_rf (a := 49) (b := 73)), cI_15, rfl⟩
set_option maxHeartbeats 4000000 in
set_option maxRecDepth 20000 in
theorem c_X11_good (l0 : Launch) {Ia Ja : aI1} {Ra : aR1} {Sa : aS1} (hL : LY Ra Sa) (hQ : RX Ia) {a : Int}  : CT l0 0 0 0 mX11_good [kR (some 49), kI a] Ia Ja Ra Sa (cI (fun x I' J' => Ch [] [0, 1] Ia I' ∧ Kp 49 73 Ja J' ∧ RX I' ∧ x = a) Ra Sa) := by
  refine ct_in pn_X11 (Nat.le_of_ble_eq_true rfl) (fun X hX hT hIn => ?_)
  have hX : aK l0 X cX11_good 2 RX11 (some .int) 0 0 0 := hX
  change WW X 0 [some (kR (some 49)), some (kI a)] [] Ia Ja Ra Sa 0 0
  have qIa := RX_o hQ
  refine ww_aload_n hX (pc := 0) dX11_good_0 rfl ?_
  refine ww_iconst hX (pc := 1) (x := 0) dX11_good_1 rfl ?_
  refine ww_putI hX (pc := 2) (fun h9 => absurd h9 (by decide)) gX11_3 rfl (xs_49 hL) dX11_good_2 ?_
  refine ww_nmH (fun I_2 eI_2 => ?_)
  have kI_2 : Ch [] [0, 1] Ia I_2 := by rw [eI_2]; exact Ch_f Ch_rf (by decide)
  have cI_2 : RX I_2 := by rw [eI_2]; exact RX_f hQ (by decide)
  have qI_2 := RX_o cI_2
  have r304_I_2 : I_2 51 304 = Ia 51 304 := by rw [eI_2, up2_off _ _ _ (by decide)]
  have r305_I_2 : I_2 51 305 = Ia 51 305 := by rw [eI_2, up2_off _ _ _ (by decide)]
  have rf_I_2 : FU (I_2 51 304) = FU (Ia 51 304) := by rw [r304_I_2]
  refine ww_aload_n hX (pc := 5) dX11_good_5 rfl ?_
  refine ww_dupR hX (pc := 6) dX11_good_6 ?_
  refine ww_getI hX (pc := 7) fX11_11 (by decide) (xs_49 hL) dX11_good_7 ?_
  refine ww_iconst hX (pc := 10) (x := 1) dX11_good_10 rfl ?_
  refine ww_iadd hX (pc := 11) dX11_good_11 ?_
  refine ww_putI hX (pc := 12) (fun h9 => absurd h9 (by decide)) gX11_11 rfl (xs_49 hL) dX11_good_12 ?_
  refine ww_nmH (fun I_12 eI_12 => ?_)
  have kI_12 : Ch [] [0, 1] Ia I_12 := by rw [eI_12]; exact Ch_f kI_2 (by decide)
  have cI_12 : RX I_12 := by rw [eI_12]; exact RX_f cI_2 (by decide)
  have qI_12 := RX_o cI_12
  have r304_I_12 : I_12 51 304 = I_2 51 304 := by rw [eI_12, up2_off _ _ _ (by decide)]
  have r305_I_12 : I_12 51 305 = I_2 51 305 := by rw [eI_12, up2_off _ _ _ (by decide)]
  have rf_I_12 : FU (I_12 51 304) = FU (I_2 51 304) := by rw [r304_I_12]
  refine ww_iload_n hX (pc := 15) dX11_good_15 rfl ?_
  refine rI hX (pc := 16) hT (Nat.le_refl 0) (Nat.le_refl 0) dX11_good_16 ?_
  exact ⟨kI_12, (Kp_rf (a := 49) (b := 73)), cI_12, rfl⟩
set_option maxHeartbeats 4000000 in
set_option maxRecDepth 20000 in
theorem c_X11_states (l0 : Launch) {Ia Ja : aI1} {Ra : aR1} {Sa : aS1} (hL : LY Ra Sa) (hQ : RX Ia)  : CT l0 0 0 0 mX11_states [kR (some 49)] Ia Ja Ra Sa (cI (fun x I' J' => Ia = I' ∧ Ja = J' ∧ x = FU (Ia 51 304) + 1) Ra Sa) := by
  refine ct_in pn_X11 (Nat.le_of_ble_eq_true rfl) (fun X hX hT hIn => ?_)
  have hX : aK l0 X cX11_states 1 RX11 (some .int) 0 0 0 := hX
  change WW X 0 [some (kR (some 49))] [] Ia Ja Ra Sa 0 0
  have qIa := RX_o hQ
  refine ww_iconst hX (pc := 0) (x := 1) dX11_states_0 rfl ?_
  refine ww_aload_n hX (pc := 1) dX11_states_1 rfl ?_
  refine ww_getR hX (pc := 2) fX11_20 (by decide) (xs_49 hL) (xr_49_3 hL) dX11_states_2 ?_
  refine ww_sipush hX (pc := 5) (x := 304) dX11_states_5 (by decide) ?_
  refine ww_iald hX (pc := 8) (xs_51 hL) (by decide) (by omega) (by omega) dX11_states_8 ?_
  refine ww_toI (b := Ia 51 304) rfl ?_
  refine ww_ishl hX (pc := 9) dX11_states_9 ?_
  refine rI hX (pc := 10) hT (Nat.le_refl 0) (Nat.le_refl 0) dX11_states_10 ?_
  exact ⟨rfl, rfl, by rw [i_shl1 (by omega) (by omega)]; exact (FU_r (by omega) (by omega)).2.2.symm⟩
set_option maxHeartbeats 4000000 in
set_option maxRecDepth 20000 in
theorem c_X11_isState (l0 : Launch) {Ia Ja : aI1} {Ra : aR1} {Sa : aS1} (hL : LY Ra Sa) (hQ : RX Ia) {a : Int} (ha0 : -2147483648 ≤ a) (ha1 : a < 2147483648)  : CT l0 1 0 0 mX11_isState [kR (some 49), kI a] Ia Ja Ra Sa (cI (fun x I' J' => Ia = I' ∧ Ja = J' ∧ (x = 0 ∨ x = 1) ∧ (x = 1 ↔ 0 ≤ a ∧ a ≤ FU (Ia 51 304))) Ra Sa) := by
  refine ct_in pn_X11 (Nat.le_of_ble_eq_true rfl) (fun X hX hT hIn => ?_)
  have hX : aK l0 X cX11_isState 2 RX11 (some .boolean) 1 0 0 := hX
  change WW X 0 [some (kR (some 49)), some (kI a)] [] Ia Ja Ra Sa 0 0
  have qIa := RX_o hQ
  refine ww_iload_n hX (pc := 0) dX11_isState_0 rfl ?_
  refine ww_iconst hX (pc := 1) (x := 0) dX11_isState_1 rfl ?_
  refine ww_aload_n hX (pc := 2) dX11_isState_2 rfl ?_
  refine vI0 hX (pc := 3) sX11_112 (xs_49 hL) (c_X11_states l0 hL hQ ) (by decide) (Nat.le_refl 0) (Nat.le_refl 0) (Nat.le_of_ble_eq_true rfl) dX11_isState_3 (fun x_3 I_3 J_3 h_3 => ?_)
  obtain ⟨rfl, rfl, h_3⟩ := h_3
  refine ww_iconst hX (pc := 6) (x := 1) dX11_isState_6 rfl ?_
  refine ww_isub hX (pc := 7) dX11_isState_7 ?_
  refine sI3 hX (pc := 8) sX11_101 (c_X11_lies l0 (by omega) (by omega) (by omega) (by omega) (by omega) (by omega)) (by decide) (Nat.le_refl 0) (Nat.le_refl 0) (Nat.le_of_ble_eq_true rfl) dX11_isState_8 (fun x_8 I_8 J_8 h_8 => ?_)
  obtain ⟨rfl, rfl, h_8⟩ := h_8
  refine rZ hX (pc := 11) hT (Nat.le_refl 0) (Nat.le_refl 0) dX11_isState_11 (by omega) ?_
  exact ⟨rfl, rfl, by omega, by omega⟩
set_option maxHeartbeats 4000000 in
set_option maxRecDepth 20000 in
theorem c_X11_isNews (l0 : Launch) {Ia Ja : aI1} {Ra : aR1} {Sa : aS1} (hL : LY Ra Sa) (hQ : RX Ia) {a : Int} (ha0 : -2147483648 ≤ a) (ha1 : a < 2147483648)  : CT l0 1 0 0 mX11_isNews [kR (some 49), kI a] Ia Ja Ra Sa (cI (fun x I' J' => Ia = I' ∧ Ja = J' ∧ (x = 0 ∨ x = 1) ∧ (x = 1 ↔ 0 ≤ a ∧ a < Ia 51 305)) Ra Sa) := by
  refine ct_in pn_X11 (Nat.le_of_ble_eq_true rfl) (fun X hX hT hIn => ?_)
  have hX : aK l0 X cX11_isNews 2 RX11 (some .boolean) 1 0 0 := hX
  change WW X 0 [some (kR (some 49)), some (kI a)] [] Ia Ja Ra Sa 0 0
  have qIa := RX_o hQ
  refine ww_iload_n hX (pc := 0) dX11_isNews_0 rfl ?_
  refine ww_iconst hX (pc := 1) (x := 0) dX11_isNews_1 rfl ?_
  refine ww_aload_n hX (pc := 2) dX11_isNews_2 rfl ?_
  refine ww_getR hX (pc := 3) fX11_20 (by decide) (xs_49 hL) (xr_49_3 hL) dX11_isNews_3 ?_
  refine ww_sipush hX (pc := 6) (x := 305) dX11_isNews_6 (by decide) ?_
  refine ww_iald hX (pc := 9) (xs_51 hL) (by decide) (by omega) (by omega) dX11_isNews_9 ?_
  refine ww_toI (b := Ia 51 305) rfl ?_
  refine ww_iconst hX (pc := 10) (x := 1) dX11_isNews_10 rfl ?_
  refine ww_isub hX (pc := 11) dX11_isNews_11 ?_
  refine sI3 hX (pc := 12) sX11_101 (c_X11_lies l0 (by omega) (by omega) (by omega) (by omega) (by omega) (by omega)) (by decide) (Nat.le_refl 0) (Nat.le_refl 0) (Nat.le_of_ble_eq_true rfl) dX11_isNews_12 (fun x_12 I_12 J_12 h_12 => ?_)
  obtain ⟨rfl, rfl, h_12⟩ := h_12
  refine rZ hX (pc := 15) hT (Nat.le_refl 0) (Nat.le_refl 0) dX11_isNews_15 (by omega) ?_
  exact ⟨rfl, rfl, by omega, by omega⟩
set_option maxHeartbeats 4000000 in
set_option maxRecDepth 20000 in
theorem c_X11_isLamp (l0 : Launch) {Ia Ja : aI1} {Ra : aR1} {Sa : aS1} (hL : LY Ra Sa) (hQ : RX Ia) {a : Int} (ha0 : -2147483648 ≤ a) (ha1 : a < 2147483648)  : CT l0 1 0 0 mX11_isLamp [kR (some 49), kI a] Ia Ja Ra Sa (cI (fun x I' J' => Ia = I' ∧ Ja = J' ∧ (x = 0 ∨ x = 1) ∧ (x = 1 ↔ 0 ≤ a ∧ a < Ia 51 304)) Ra Sa) := by
  refine ct_in pn_X11 (Nat.le_of_ble_eq_true rfl) (fun X hX hT hIn => ?_)
  have hX : aK l0 X cX11_isLamp 2 RX11 (some .boolean) 1 0 0 := hX
  change WW X 0 [some (kR (some 49)), some (kI a)] [] Ia Ja Ra Sa 0 0
  have qIa := RX_o hQ
  refine ww_iload_n hX (pc := 0) dX11_isLamp_0 rfl ?_
  refine ww_iconst hX (pc := 1) (x := 0) dX11_isLamp_1 rfl ?_
  refine ww_aload_n hX (pc := 2) dX11_isLamp_2 rfl ?_
  refine ww_getR hX (pc := 3) fX11_20 (by decide) (xs_49 hL) (xr_49_3 hL) dX11_isLamp_3 ?_
  refine ww_sipush hX (pc := 6) (x := 304) dX11_isLamp_6 (by decide) ?_
  refine ww_iald hX (pc := 9) (xs_51 hL) (by decide) (by omega) (by omega) dX11_isLamp_9 ?_
  refine ww_toI (b := Ia 51 304) rfl ?_
  refine ww_iconst hX (pc := 10) (x := 1) dX11_isLamp_10 rfl ?_
  refine ww_isub hX (pc := 11) dX11_isLamp_11 ?_
  refine sI3 hX (pc := 12) sX11_101 (c_X11_lies l0 (by omega) (by omega) (by omega) (by omega) (by omega) (by omega)) (by decide) (Nat.le_refl 0) (Nat.le_refl 0) (Nat.le_of_ble_eq_true rfl) dX11_isLamp_12 (fun x_12 I_12 J_12 h_12 => ?_)
  obtain ⟨rfl, rfl, h_12⟩ := h_12
  refine rZ hX (pc := 15) hT (Nat.le_refl 0) (Nat.le_refl 0) dX11_isLamp_15 (by omega) ?_
  exact ⟨rfl, rfl, by omega, by omega⟩
set_option maxHeartbeats 4000000 in
set_option maxRecDepth 20000 in
theorem c_X11_readOf (l0 : Launch) {Ia Ja : aI1} {Ra : aR1} {Sa : aS1} (hL : LY Ra Sa) (hQ : RX Ia) {a : Int} (ha0 : 0 ≤ a) (ha1 : a ≤ 255)  : CT l0 0 0 0 mX11_readOf [kR (some 49), kI a] Ia Ja Ra Sa (cI (fun x I' J' => Ia = I' ∧ Ja = J' ∧ x = Ia 51 a.toNat) Ra Sa) := by
  refine ct_in pn_X11 (Nat.le_of_ble_eq_true rfl) (fun X hX hT hIn => ?_)
  have hX : aK l0 X cX11_readOf 2 RX11 (some .int) 0 0 0 := hX
  change WW X 0 [some (kR (some 49)), some (kI a)] [] Ia Ja Ra Sa 0 0
  have qIa := RX_o hQ
  refine ww_aload_n hX (pc := 0) dX11_readOf_0 rfl ?_
  refine ww_getR hX (pc := 1) fX11_20 (by decide) (xs_49 hL) (xr_49_3 hL) dX11_readOf_1 ?_
  refine ww_iconst hX (pc := 4) (x := 0) dX11_readOf_4 rfl ?_
  refine ww_iload_n hX (pc := 5) dX11_readOf_5 rfl ?_
  refine ww_iadd hX (pc := 6) dX11_readOf_6 ?_
  refine ww_iald hX (pc := 7) (xs_51 hL) (by decide) (by omega) (by omega) dX11_readOf_7 ?_
  refine rI hX (pc := 8) hT (Nat.le_refl 0) (Nat.le_refl 0) dX11_readOf_8 ?_
  exact ⟨rfl, rfl, by rw [Int.zero_add]⟩
def canC (s t b : Int) : Prop := w32 (i_and s (i_xor t (-1))) = 0 ∧ w32 (i_and (i_and t (i_xor s (-1))) b) = 0
set_option maxHeartbeats 4000000 in
set_option maxRecDepth 20000 in
theorem c_X11_canCome (l0 : Launch) {Ia Ja : aI1} {Ra : aR1} {Sa : aS1} (hL : LY Ra Sa) (hQ : RX Ia) {a b c : Int}  : CT l0 0 0 0 mX11_canCome [kR (some 49), kI a, kI b, kI c] Ia Ja Ra Sa (cI (fun x I' J' => Ia = I' ∧ Ja = J' ∧ (x = 0 ∨ x = 1) ∧ (x = 1 ↔ canC a b c)) Ra Sa) := by
  refine ct_in pn_X11 (Nat.le_of_ble_eq_true rfl) (fun X hX hT hIn => ?_)
  have hX : aK l0 X cX11_canCome 4 RX11 (some .boolean) 0 0 0 := hX
  change WW X 0 [some (kR (some 49)), some (kI a), some (kI b), some (kI c)] [] Ia Ja Ra Sa 0 0
  have qIa := RX_o hQ
  refine ww_iload_n hX (pc := 0) dX11_canCome_0 rfl ?_
  refine ww_iload_n hX (pc := 1) dX11_canCome_1 rfl ?_
  refine ww_iconst hX (pc := 2) (x := (-1)) dX11_canCome_2 rfl ?_
  refine ww_ixor hX (pc := 3) dX11_canCome_3 ?_
  refine ww_iand hX (pc := 4) dX11_canCome_4 ?_
  refine ww_if_ne hX (pc := 5) (tgt := 22) dX11_canCome_5 (by decide) (fun h_5 => ?_) (fun h_5 => ?_)
  · simp only [w32_mod] at h_5
    refine ww_iconst hX (pc := 22) (x := 0) dX11_canCome_22 rfl ?_
    refine rZ hX (pc := 23) hT (Nat.le_refl 0) (Nat.le_refl 0) dX11_canCome_23 (by decide) ?_
    exact ⟨rfl, rfl, by omega, fun h8 => by unfold canC; simp only [w32_mod]; omega, fun h9 => by unfold canC at h9; simp only [w32_mod] at h9; omega⟩
  · simp only [w32_mod] at h_5
    refine ww_iload_n hX (pc := 8) dX11_canCome_8 rfl ?_
    refine ww_iload_n hX (pc := 9) dX11_canCome_9 rfl ?_
    refine ww_iconst hX (pc := 10) (x := (-1)) dX11_canCome_10 rfl ?_
    refine ww_ixor hX (pc := 11) dX11_canCome_11 ?_
    refine ww_iand hX (pc := 12) dX11_canCome_12 ?_
    refine ww_iload_n hX (pc := 13) dX11_canCome_13 rfl ?_
    refine ww_iand hX (pc := 14) dX11_canCome_14 ?_
    refine ww_if_ne hX (pc := 15) (tgt := 22) dX11_canCome_15 (by decide) (fun h_15 => ?_) (fun h_15 => ?_)
    · simp only [w32_mod] at h_15
      refine ww_iconst hX (pc := 22) (x := 0) dX11_canCome_22 rfl ?_
      refine rZ hX (pc := 23) hT (Nat.le_refl 0) (Nat.le_refl 0) dX11_canCome_23 (by decide) ?_
      exact ⟨rfl, rfl, by omega, fun h8 => by unfold canC; simp only [w32_mod]; omega, fun h9 => by unfold canC at h9; simp only [w32_mod] at h9; omega⟩
    · simp only [w32_mod] at h_15
      refine ww_iconst hX (pc := 18) (x := 1) dX11_canCome_18 rfl ?_
      refine ww_goto hX (pc := 19) (tgt := 23) dX11_canCome_19 (by decide) ?_
      refine rZ hX (pc := 23) hT (Nat.le_refl 0) (Nat.le_refl 0) dX11_canCome_23 (by decide) ?_
      exact ⟨rfl, rfl, by omega, fun h8 => by unfold canC; simp only [w32_mod]; omega, fun h9 => by unfold canC at h9; simp only [w32_mod] at h9; omega⟩
set_option maxHeartbeats 4000000 in
set_option maxRecDepth 20000 in
theorem c_X11_ones (l0 : Launch) {Ia Ja : aI1} {Ra : aR1} {Sa : aS1} {a : Int}  : CT l0 0 0 0 mX11_ones [kI a] Ia Ja Ra Sa (cI (fun x I' J' => Ia = I' ∧ Ja = J' ∧ 0 ≤ x ∧ x ≤ 16) Ra Sa) := by
  refine ct_in pn_X11 (Nat.le_of_ble_eq_true rfl) (fun X hX hT hIn => ?_)
  have hX : aK l0 X cX11_ones 3 RX11 (some .int) 0 0 0 := hX
  change WW X 0 [some (kI a), none, none] [] Ia Ja Ra Sa 0 0
  refine ww_iconst hX (pc := 0) (x := 0) dX11_ones_0 rfl ?_
  refine ww_istore_n hX (pc := 1) (lv' := [some (kI a), some (kI 0), none]) dX11_ones_1 (by decide) rfl rfl ?_
  refine ww_iconst hX (pc := 2) (x := 0) dX11_ones_2 rfl ?_
  refine ww_istore_n hX (pc := 3) (lv' := [some (kI a), some (kI 0), some (kI 0)]) dX11_ones_3 (by decide) rfl rfl ?_
  have hl_4 : ∀ (n_4 : Nat) (n : Int) (i : Int), (16 - i).toNat = n_4 → ((0 ≤ i ∧ i ≤ 16 ∧ 0 ≤ n ∧ n ≤ i)) → WW X 4 [some (kI a), some (kI n), some (kI i)] [] Ia Ja Ra Sa 0 0 := by
    intro n_4
    induction n_4 using Nat.strongRecOn with
    | ind n_4 ih_4 =>
      intro n i hm_4 hv_4
      have hq_4 := Sh0_i hm_4
      clear hm_4
      have hv := hv_4
      refine ww_iload_n hX (pc := 4) dX11_ones_4 rfl ?_
      refine ww_bipush hX (pc := 5) (x := 16) dX11_ones_5 (by decide) ?_
      refine ww_icmp_ge hX (pc := 7) (tgt := 24) dX11_ones_7 (by decide) (fun h_7 => ?_) (fun h_7 => ?_)
      · simp only [w32_mod] at h_7
        refine ww_iload_n hX (pc := 24) dX11_ones_24 rfl ?_
        refine rI hX (pc := 25) hT (Nat.le_refl 0) (Nat.le_refl 0) dX11_ones_25 ?_
        exact ⟨rfl, rfl, by omega⟩
      · simp only [w32_mod] at h_7
        refine ww_iload_n hX (pc := 10) dX11_ones_10 rfl ?_
        refine ww_iload_n hX (pc := 11) dX11_ones_11 rfl ?_
        refine ww_iload_n hX (pc := 12) dX11_ones_12 rfl ?_
        refine ww_ishr hX (pc := 13) dX11_ones_13 ?_
        refine ww_iconst hX (pc := 14) (x := 1) dX11_ones_14 rfl ?_
        refine ww_iand hX (pc := 15) dX11_ones_15 ?_
        have hb1 := i_and_1 (i_shr a i)
        refine ww_iadd hX (pc := 16) dX11_ones_16 ?_
        refine ww_nmI (fun v_17 hv_17 => ?_)
        refine ww_istore_n hX (pc := 17) (lv' := [some (kI a), some (kI v_17), some (kI i)]) dX11_ones_17 (by decide) rfl rfl ?_
        refine ww_iinc hX (pc := 18) (lv' := [some (kI a), some (kI v_17), some (kI (i + 1))]) dX11_ones_18 rfl (by decide) rfl rfl ?_
        refine ww_goto hX (pc := 21) (tgt := 4) dX11_ones_21 (by decide) ?_
        exact ih_4 _ (by have hm9 := Sh0_e hq_4; omega) v_17 (i + 1) rfl (by omega)
  exact hl_4 _ 0 0 rfl (by omega)
set_option maxHeartbeats 4000000 in
set_option maxRecDepth 20000 in
theorem c_X11_dark (l0 : Launch) {Ia Ja : aI1} {Ra : aR1} {Sa : aS1} (hL : LY Ra Sa) (hQ : RX Ia) {a : Int}  : CT l0 1 0 0 mX11_dark [kR (some 49), kI a] Ia Ja Ra Sa (cI (fun x I' J' => Ia = I' ∧ Ja = J' ∧ -16 ≤ x ∧ x ≤ 8) Ra Sa) := by
  refine ct_in pn_X11 (Nat.le_of_ble_eq_true rfl) (fun X hX hT hIn => ?_)
  have hX : aK l0 X cX11_dark 2 RX11 (some .int) 1 0 0 := hX
  change WW X 0 [some (kR (some 49)), some (kI a)] [] Ia Ja Ra Sa 0 0
  have qIa := RX_o hQ
  refine ww_aload_n hX (pc := 0) dX11_dark_0 rfl ?_
  refine ww_getR hX (pc := 1) fX11_20 (by decide) (xs_49 hL) (xr_49_3 hL) dX11_dark_1 ?_
  refine ww_sipush hX (pc := 4) (x := 304) dX11_dark_4 (by decide) ?_
  refine ww_iald hX (pc := 7) (xs_51 hL) (by decide) (by omega) (by omega) dX11_dark_7 ?_
  refine ww_toI (b := Ia 51 304) rfl ?_
  refine ww_iload_n hX (pc := 8) dX11_dark_8 rfl ?_
  refine sI1 hX (pc := 9) sX11_259 (c_X11_ones l0 ) (by decide) (Nat.le_refl 0) (Nat.le_refl 0) (Nat.le_of_ble_eq_true rfl) dX11_dark_9 (fun x_9 I_9 J_9 h_9 => ?_)
  obtain ⟨rfl, rfl, h_9⟩ := h_9
  refine ww_isub hX (pc := 12) dX11_dark_12 ?_
  refine rI hX (pc := 13) hT (Nat.le_refl 0) (Nat.le_refl 0) dX11_dark_13 ?_
  exact ⟨rfl, rfl, by omega⟩
def oilF (k : Nat → Int) (a : Int) : Nat → Int
  | 0 => 0
  | n + 1 => oilF k a n + (if w32 (i_and (i_shr a (n : Int)) 1) = 1 then k (256 + n) else 0)
theorem oilF_s (k : Nat → Int) (a : Int) {i : Int} (h : 0 ≤ i) : oilF k a (i + 1).toNat = oilF k a i.toNat + (if w32 (i_and (i_shr a i) 1) = 1 then k (256 + i).toNat else 0) := by
  obtain ⟨n, rfl⟩ := Int.eq_ofNat_of_zero_le h
  rw [show ((n : Int) + 1).toNat = n + 1 by omega, show ((n : Int)).toNat = n by omega, show (256 + (n : Int)).toNat = 256 + n by omega]
  rfl
set_option maxHeartbeats 4000000 in
set_option maxRecDepth 20000 in
theorem c_X11_oilOf (l0 : Launch) {Ia Ja : aI1} {Ra : aR1} {Sa : aS1} (hL : LY Ra Sa) (hQ : RX Ia) {a : Int}  : CT l0 0 0 0 mX11_oilOf [kR (some 49), kI a] Ia Ja Ra Sa (cI (fun x I' J' => Ia = I' ∧ Ja = J' ∧ x = oilF (Ia 51) a (Ia 51 304).toNat) Ra Sa) := by
  refine ct_in pn_X11 (Nat.le_of_ble_eq_true rfl) (fun X hX hT hIn => ?_)
  have hX : aK l0 X cX11_oilOf 4 RX11 (some .int) 0 0 0 := hX
  change WW X 0 [some (kR (some 49)), some (kI a), none, none] [] Ia Ja Ra Sa 0 0
  have qIa := RX_o hQ
  refine ww_iconst hX (pc := 0) (x := 0) dX11_oilOf_0 rfl ?_
  refine ww_istore_n hX (pc := 1) (lv' := [some (kR (some 49)), some (kI a), some (kI 0), none]) dX11_oilOf_1 (by decide) rfl rfl ?_
  refine ww_iconst hX (pc := 2) (x := 0) dX11_oilOf_2 rfl ?_
  refine ww_istore_n hX (pc := 3) (lv' := [some (kR (some 49)), some (kI a), some (kI 0), some (kI 0)]) dX11_oilOf_3 (by decide) rfl rfl ?_
  have hl_4 : ∀ (n_4 : Nat) (n : Int) (i : Int), (Ia 51 304 - i).toNat = n_4 → ((0 ≤ i ∧ i ≤ Ia 51 304 ∧ n = oilF (Ia 51) a i.toNat)) → WW X 4 [some (kR (some 49)), some (kI a), some (kI n), some (kI i)] [] Ia Ja Ra Sa 0 0 := by
    intro n_4
    induction n_4 using Nat.strongRecOn with
    | ind n_4 ih_4 =>
      intro n i hm_4 hv_4
      have hq_4 := Sh0_i hm_4
      clear hm_4
      have hv := hv_4
      refine ww_iload_n hX (pc := 4) dX11_oilOf_4 rfl ?_
      refine ww_aload_n hX (pc := 5) dX11_oilOf_5 rfl ?_
      refine ww_getR hX (pc := 6) fX11_20 (by decide) (xs_49 hL) (xr_49_3 hL) dX11_oilOf_6 ?_
      refine ww_sipush hX (pc := 9) (x := 304) dX11_oilOf_9 (by decide) ?_
      refine ww_iald hX (pc := 12) (xs_51 hL) (by decide) (by omega) (by omega) dX11_oilOf_12 ?_
      refine ww_toI (b := Ia 51 304) rfl ?_
      refine ww_icmp_ge hX (pc := 13) (tgt := 48) dX11_oilOf_13 (by decide) (fun h_13 => ?_) (fun h_13 => ?_)
      · simp only [w32_mod] at h_13
        refine ww_iload_n hX (pc := 48) dX11_oilOf_48 rfl ?_
        refine rI hX (pc := 49) hT (Nat.le_refl 0) (Nat.le_refl 0) dX11_oilOf_49 ?_
        exact ⟨rfl, rfl, by rw [hv.2.2]; exact congrArg _ (show i.toNat = (Ia 51 304).toNat by omega)⟩
      · simp only [w32_mod] at h_13
        refine ww_iload_n hX (pc := 16) dX11_oilOf_16 rfl ?_
        refine ww_iload_n hX (pc := 17) dX11_oilOf_17 rfl ?_
        refine ww_iload_n hX (pc := 18) dX11_oilOf_18 rfl ?_
        refine ww_ishr hX (pc := 19) dX11_oilOf_19 ?_
        refine ww_iconst hX (pc := 20) (x := 1) dX11_oilOf_20 rfl ?_
        refine ww_iand hX (pc := 21) dX11_oilOf_21 ?_
        refine ww_iconst hX (pc := 22) (x := 1) dX11_oilOf_22 rfl ?_
        refine ww_icmp_ne hX (pc := 23) (tgt := 39) dX11_oilOf_23 (by decide) (fun h_23 => ?_) (fun h_23 => ?_)
        · simp only [w32_mod] at h_23
          have hos : oilF (Ia 51) a (i + 1).toNat = oilF (Ia 51) a i.toNat + 0 := by rw [oilF_s _ _ (by omega), if_neg (by simp only [w32_mod]; omega)]
          refine ww_iconst hX (pc := 39) (x := 0) dX11_oilOf_39 rfl ?_
          refine ww_iadd hX (pc := 40) dX11_oilOf_40 ?_
          refine ww_nmI (fun v_41 hv_41 => ?_)
          refine ww_istore_n hX (pc := 41) (lv' := [some (kR (some 49)), some (kI a), some (kI v_41), some (kI i)]) dX11_oilOf_41 (by decide) rfl rfl ?_
          refine ww_iinc hX (pc := 42) (lv' := [some (kR (some 49)), some (kI a), some (kI v_41), some (kI (i + 1))]) dX11_oilOf_42 rfl (by decide) rfl rfl ?_
          refine ww_goto hX (pc := 45) (tgt := 4) dX11_oilOf_45 (by decide) ?_
          exact ih_4 _ (by have hm9 := Sh0_e hq_4; omega) v_41 (i + 1) rfl (by omega)
        · simp only [w32_mod] at h_23
          have hos : oilF (Ia 51) a (i + 1).toNat = oilF (Ia 51) a i.toNat + Ia 51 (256 + i).toNat := by rw [oilF_s _ _ (by omega), if_pos (by simp only [w32_mod]; omega)]
          refine ww_aload_n hX (pc := 26) dX11_oilOf_26 rfl ?_
          refine ww_getR hX (pc := 27) fX11_20 (by decide) (xs_49 hL) (xr_49_3 hL) dX11_oilOf_27 ?_
          refine ww_sipush hX (pc := 30) (x := 256) dX11_oilOf_30 (by decide) ?_
          refine ww_iload_n hX (pc := 33) dX11_oilOf_33 rfl ?_
          refine ww_iadd hX (pc := 34) dX11_oilOf_34 ?_
          refine ww_iald hX (pc := 35) (xs_51 hL) (by decide) (by omega) (by omega) dX11_oilOf_35 ?_
          refine ww_goto hX (pc := 36) (tgt := 40) dX11_oilOf_36 (by decide) ?_
          refine ww_iadd hX (pc := 40) dX11_oilOf_40 ?_
          refine ww_nmI (fun v_41 hv_41 => ?_)
          refine ww_istore_n hX (pc := 41) (lv' := [some (kR (some 49)), some (kI a), some (kI v_41), some (kI i)]) dX11_oilOf_41 (by decide) rfl rfl ?_
          refine ww_iinc hX (pc := 42) (lv' := [some (kR (some 49)), some (kI a), some (kI v_41), some (kI (i + 1))]) dX11_oilOf_42 rfl (by decide) rfl rfl ?_
          refine ww_goto hX (pc := 45) (tgt := 4) dX11_oilOf_45 (by decide) ?_
          exact ih_4 _ (by have hm9 := Sh0_e hq_4; omega) v_41 (i + 1) rfl (by omega)
  exact hl_4 _ 0 0 rfl (⟨by omega, by omega, rfl⟩)
end
