/-! what the pure parser takes is grammatical -/
theorem zRest_G {P : zP} {G : Nat → Nat → Prop} {ops : List Int} {op : Int → Prop} {jn : Int → zD → zD → zD} {c : Nat → Int} {T : Nat} (hP : ∀ t l q, P t l = .inr q → G t q.1 ∧ t < q.1) (ho : ∀ x, op x ↔ x ∈ ops) (hz : ∀ t, T ≤ t → c t = 0) (hT : T ≤ 400) (h0 : (0 : Int) ∉ ops) : ∀ (n t l : Nat) (D : zD) (q : Nat × Nat × zD), zRest P ops jn c n t l D = .inr q → 400 ≤ n + t → (∃ k, GRest G op c k t q.1) ∧ t ≤ q.1
  | 0, t, l, D, q, h, hn => by
    cases h
    exact ⟨⟨0, rfl, fun g => h0 (by rw [← hz t (by omega)]; exact (ho _).mp g)⟩, Nat.le_refl _⟩
  | n + 1, t, l, D, q, h, hn => by
    by_cases hc : c t ∈ ops
    · cases hp : P (t + 1) l with
      | inl f => rw [zRest_f hc hp] at h; cases h
      | inr p =>
        rw [zRest_s hc hp] at h
        obtain ⟨g1, g2⟩ := hP _ _ _ hp
        obtain ⟨⟨k, hk⟩, h2⟩ := zRest_G hP ho hz hT h0 n p.1 p.2.1 _ q h (by omega)
        exact ⟨⟨k + 1, (ho _).mpr hc, p.1, g1, hk⟩, by omega⟩
    · rw [zRest_no hc] at h
      cases h
      exact ⟨⟨0, rfl, fun g => hc ((ho _).mp g)⟩, Nat.le_refl _⟩
theorem zSeq_G {P : zP} {G : Nat → Nat → Prop} {ops : List Int} {op : Int → Prop} {jn : Int → zD → zD → zD} {c : Nat → Int} {T : Nat} (hP : ∀ t l q, P t l = .inr q → G t q.1 ∧ t < q.1) (ho : ∀ x, op x ↔ x ∈ ops) (hz : ∀ t, T ≤ t → c t = 0) (hT : T ≤ 400) (h0 : (0 : Int) ∉ ops) (t l : Nat) (q : Nat × Nat × zD) (h : zSeq P ops jn c t l = .inr q) : GSeq G op c t q.1 ∧ t < q.1 := by
  cases hp : P t l with
  | inl f => rw [zSeq_f hp] at h; cases h
  | inr p =>
    rw [zSeq_s hp] at h
    obtain ⟨g1, g2⟩ := hP _ _ _ hp
    obtain ⟨⟨k, hk⟩, h2⟩ := zRest_G hP ho hz hT h0 400 p.1 p.2.1 _ q h (by omega)
    exact ⟨⟨p.1, g1, k, hk⟩, by omega⟩
theorem opT_i (x : Int) : opT x ↔ x ∈ ([142, 147, 137] : List Int) := by
  unfold opT
  simp only [List.mem_cons, List.not_mem_nil, or_false]
theorem opS_i (x : Int) : opS x ↔ x ∈ ([143, 145] : List Int) := by
  unfold opS
  simp only [List.mem_cons, List.not_mem_nil, or_false]
theorem opA_i (x : Int) : opA x ↔ x ∈ ([4] : List Int) := by
  unfold opA
  simp only [List.mem_cons, List.not_mem_nil, or_false]
theorem opO_i (x : Int) : opO x ↔ x ∈ ([3] : List Int) := by
  unfold opO
  simp only [List.mem_cons, List.not_mem_nil, or_false]
theorem zLe_G {c vl : Nat → Int} {t l : Nat} {q : Nat × Nat × zD} (h : zLe c vl t l = .inr q) : GLeaf c t ∧ q.1 = t + 1 := by
  cases hD : zLf c vl t with
  | none => rw [zLe_0 hD] at h; cases h
  | some D =>
    by_cases hl : l < 50
    · rw [zLe_s hD hl] at h
      cases h
      refine ⟨?_, rfl⟩
      unfold zLf at hD
      unfold GLeaf
      by_cases h1 : c t = 50 ∧ vl t ≤ 1000
      · exact Or.inl h1.1
      · rw [if_neg h1] at hD
        by_cases h2 : 6 ≤ c t ∧ c t ≤ 13
        · exact Or.inr h2
        · rw [if_neg h2] at hD; cases hD
    · rw [zLe_f hD hl] at h; cases h
theorem zBr_G {P : zP} {c : Nat → Int} {cl : Int} {t l : Nat} {q : Nat × Nat × zD} (h : zBr (some P) c cl t l = .inr q) : ∃ p, P (t + 1) l = .inr p ∧ c p.1 = cl ∧ q.1 = p.1 + 1 := by
  cases hp : P (t + 1) l with
  | inl f => rw [zBr_f hp] at h; cases h
  | inr p =>
    by_cases hc : c p.1 = cl
    · rw [zBr_s hp hc] at h
      cases h
      exact ⟨p, rfl, hc, rfl⟩
    · rw [zBr_n hp hc] at h; cases h
theorem zS_G {c vl : Nat → Int} {T : Nat} (hz : ∀ t, T ≤ t → c t = 0) (hT : T ≤ 400) : ∀ (m t l : Nat) (q : Nat × Nat × zD), zS c vl m t l = .inr q → GSum c m t q.1 ∧ t < q.1
  | 0, t, l, q, h => by
    rw [GSum_eq]
    refine zSeq_G (zSeq_G (fun t l q h => ?_) opT_i hz hT (by decide)) opS_i hz hT (by decide) t l q h
    by_cases hc : c t = 191
    · rw [zPart_b hc] at h; cases h
    · rw [zPart_l hc] at h
      have h1 := zLe_G h
      exact ⟨Or.inl h1, by omega⟩
  | m + 1, t, l, q, h => by
    rw [GSum_eq]
    refine zSeq_G (zSeq_G (fun t l q h => ?_) opT_i hz hT (by decide)) opS_i hz hT (by decide) t l q h
    by_cases hc : c t = 191
    · rw [zPart_b hc] at h
      obtain ⟨p, p1, p2, p3⟩ := zBr_G h
      obtain ⟨g1, g2⟩ := zS_G hz hT m (t + 1) l p p1
      exact ⟨Or.inr ⟨hc, p.1, g1, p2, p3⟩, by omega⟩
    · rw [zPart_l hc] at h
      have h1 := zLe_G h
      exact ⟨Or.inl h1, by omega⟩
theorem zNt_G {c : Nat → Int} {T : Nat} (hz : ∀ t, T ≤ t → c t = 0) (hT : T ≤ 400) (Q : Nat → Nat → Prop) (b : Nat) : ∀ (n t : Nat) (f : Int), 400 ≤ n + t → Q (zNt c n t f).1 b → (∃ k, GNots Q c k t b) ∧ t ≤ (zNt c n t f).1
  | 0, t, f, hn, h => ⟨⟨0, by rw [hz t (by omega)]; decide, h⟩, Nat.le_refl _⟩
  | n + 1, t, f, hn, h => by
    by_cases hc : c t = 5
    · rw [zNt_s hc] at h ⊢
      obtain ⟨⟨k, hk⟩, h2⟩ := zNt_G hz hT Q b n (t + 1) (1 - f) (by omega) h
      exact ⟨⟨k + 1, hc, hk⟩, by omega⟩
    · rw [zNt_n hc] at h ⊢
      exact ⟨⟨0, hc, h⟩, Nat.le_refl _⟩
theorem zFp_i {f : Int} {r : zR} {q : Nat × Nat × zD} (h : zFp f r = .inr q) : ∃ p, r = .inr p ∧ q.1 = p.1 := by
  cases r with
  | inl a => cases h
  | inr p => cases h; exact ⟨p, rfl, rfl⟩
theorem zCm_G {S : zP} {c : Nat → Int} {t l : Nat} {q : Nat × Nat × zD} (h : zCm S c t l = .inr q) : ∃ p r, S t l = .inr p ∧ S (p.1 + 1) p.2.1 = .inr r ∧ q.1 = r.1 := by
  cases hp : S t l with
  | inl f => rw [zCm_f hp] at h; cases h
  | inr p =>
    by_cases hc : 160 ≤ c p.1 ∧ c p.1 ≤ 162
    · cases hr : S (p.1 + 1) p.2.1 with
      | inl f => rw [zCm_g hp hc hr] at h; cases h
      | inr r =>
        rw [zCm_s hp hc hr] at h
        cases h
        exact ⟨p, r, rfl, hr, rfl⟩
    · rw [zCm_n hp hc] at h; cases h
theorem zT_G {c vl : Nat → Int} {T : Nat} (hz : ∀ t, T ≤ t → c t = 0) (hT : T ≤ 400) : ∀ (m t l : Nat) (q : Nat × Nat × zD), zT c vl m t l = .inr q → GTest c m t q.1 ∧ t < q.1
  | 0, t, l, q, h => by
    rw [GTest_eq]
    refine zSeq_G (zSeq_G (fun t l q h => ?_) opA_i hz hT (by decide)) opO_i hz hT (by decide) t l q h
    obtain ⟨p, p1, p2⟩ := zFp_i h
    have hQ : GPos (fun _ _ => False) (GSum c 0) c (zNt c 400 t 0).1 q.1 ∧ (zNt c 400 t 0).1 < q.1 := by
      rw [p2]
      by_cases hc : c (zNt c 400 t 0).1 = 140
      · rw [zPos_b hc] at p1; cases p1
      · rw [zPos_c hc] at p1
        obtain ⟨u, v, u1, v1, e1⟩ := zCm_G p1
        obtain ⟨g1, g2⟩ := zS_G hz hT 0 _ _ _ u1
        obtain ⟨g3, g4⟩ := zS_G hz hT 0 _ _ _ v1
        rw [e1]
        exact ⟨Or.inr ⟨hc, u.1, g1, g3⟩, by omega⟩
    obtain ⟨⟨k, hk⟩, h2⟩ := zNt_G hz hT (GPos (fun _ _ => False) (GSum c 0) c) q.1 400 t 0 (by omega) hQ.1
    exact ⟨⟨k, hk⟩, by omega⟩
  | m + 1, t, l, q, h => by
    rw [GTest_eq]
    refine zSeq_G (zSeq_G (fun t l q h => ?_) opA_i hz hT (by decide)) opO_i hz hT (by decide) t l q h
    obtain ⟨p, p1, p2⟩ := zFp_i h
    have hQ : GPos (GTest c m) (GSum c (m + 1)) c (zNt c 400 t 0).1 q.1 ∧ (zNt c 400 t 0).1 < q.1 := by
      rw [p2]
      by_cases hc : c (zNt c 400 t 0).1 = 140
      · rw [zPos_b hc] at p1
        obtain ⟨u, u1, u2, u3⟩ := zBr_G p1
        obtain ⟨g1, g2⟩ := zT_G hz hT m _ _ u u1
        exact ⟨Or.inl ⟨hc, u.1, g1, u2, u3⟩, by omega⟩
      · rw [zPos_c hc] at p1
        obtain ⟨u, v, u1, v1, e1⟩ := zCm_G p1
        obtain ⟨g1, g2⟩ := zS_G hz hT (m + 1) _ _ _ u1
        obtain ⟨g3, g4⟩ := zS_G hz hT (m + 1) _ _ _ v1
        rw [e1]
        exact ⟨Or.inr ⟨hc, u.1, g1, g3⟩, by omega⟩
    obtain ⟨⟨k, hk⟩, h2⟩ := zNt_G hz hT (GPos (GTest c m) (GSum c (m + 1)) c) q.1 400 t 0 (by omega) hQ.1
    exact ⟨⟨k, hk⟩, by omega⟩
theorem zCl_G {c vl : Nat → Int} {T t l : Nat} (hz : ∀ t, T ≤ t → c t = 0) (hT : T ≤ 400) {q : Nat × Nat × zQ} (h : zCl c vl t l = .inr q) : GClause c t q.1 := by
  by_cases hc : c t = 1
  · cases hs : zS c vl 8 (t + 1) l with
    | inl f => rw [zCl_f hc hs] at h; cases h
    | inr p =>
      obtain ⟨g1, g2⟩ := zS_G hz hT 8 _ _ p hs
      by_cases h2 : c p.1 = 2
      · cases ht : zT c vl 8 (p.1 + 1) p.2.1 with
        | inl f => rw [zCl_g hc hs h2 ht] at h; cases h
        | inr r =>
          rw [zCl_s hc hs h2 ht] at h
          cases h
          exact ⟨hc, p.1, g1, Or.inl ⟨h2, (zT_G hz hT 8 _ _ r ht).1⟩⟩
      · rw [zCl_n hc hs h2] at h
        cases h
        exact ⟨hc, p.1, g1, Or.inr ⟨h2, rfl⟩⟩
  · rw [zCl_0 hc] at h; cases h
theorem zLw_G {c vl : Nat → Int} {T : Nat} (hz : ∀ t, T ≤ t → c t = 0) (hT : T ≤ 400) : ∀ (n t l : Nat) (qs : List zQ), zLw c vl T n t l = .inr qs → ∃ m, GLaw c T m t
  | 0, t, l, qs, h => by cases h
  | n + 1, t, l, qs, h => by
    cases hq : zCl c vl t l with
    | inl f => rw [zLw_f hq] at h; cases h
    | inr q =>
      have g := zCl_G hz hT hq
      by_cases hT9 : q.1 = T
      · rw [hT9] at g
        exact ⟨0, g⟩
      · by_cases hc : c q.1 = 159
        · rw [zLw_s hq hT9 hc] at h
          cases hr : zLw c vl T n (q.1 + 1) q.2.1 with
          | inl f => rw [hr] at h; cases h
          | inr ps =>
            obtain ⟨m, hm⟩ := zLw_G hz hT n (q.1 + 1) q.2.1 ps hr
            exact ⟨m + 1, q.1, g, hc, hm⟩
        · rw [zLw_n hq hT9 hc] at h; cases h
theorem zCd_z {f : Nat → Int} {L : List (Nat × Nat)} : ∀ t, L.length ≤ t → zCd f L t = 0 := fun t ht => zCd_n (List.getElem?_eq_none ht)
theorem zTx_G {f : Nat → Int} {N : Nat} (hT : (zTk f N 0).length ≤ 400) {qs : List zQ} (h : zTx f N = .inr qs) : LawG (zCd f (zTk f N 0)) (zTk f N 0).length := zLw_G zCd_z hT 12 0 0 qs h
theorem zpvw {f : Nat → Int} {L : List (Nat × Nat)} {I : aI1} (h15 : I 49 15 = L.length) (h : ∀ t, t ≤ L.length → I 57 t = zCd f L t) : pvw I = zCd f L := by
  funext i
  unfold pvw
  by_cases hi : (i : Int) < I 49 15
  · rw [if_pos hi]; exact h i (by omega)
  · rw [if_neg hi]; exact (zCd_z i (by omega)).symm
/-! the row of clauses -/
def zSm (A B : Nat ⊕ List zQ) : Prop := ∀ f, A = .inl f ↔ B = .inl f
def zLk (c vl : Nat → Int) (T m t l : Nat) : Nat ⊕ List zQ := if t = T then .inr [] else if c t = 159 then zLw c vl T m (t + 1) l else .inl t
theorem zLw_sm {c vl : Nat → Int} {T m t l : Nat} {q : Nat × Nat × zQ} (h : zCl c vl t l = .inr q) : zSm (zLw c vl T (m + 1) t l) (zLk c vl T m q.1 q.2.1) := by
  unfold zLk
  intro f
  by_cases hT : q.1 = T
  · rw [zLw_e h hT, if_pos hT]
    exact ⟨fun g => (by cases g), fun g => (by cases g)⟩
  · rw [if_neg hT]
    by_cases hc : c q.1 = 159
    · rw [zLw_s h hT hc, if_pos hc]
      cases zLw c vl T m (q.1 + 1) q.2.1 with
      | inl a => exact ⟨id, id⟩
      | inr a => exact ⟨fun g => (by cases g), fun g => (by cases g)⟩
    · rw [zLw_n h hT hc, if_neg hc]
theorem zSm_tr {A B C : Nat ⊕ List zQ} (h : zSm A B) (g : zSm B C) : zSm A C := fun f => (h f).trans (g f)
def zLG (c vl pl : Nat → Int) (T : Nat) (R : Nat ⊕ List zQ) (n : Int) (I : aI1) : Prop := (∃ f, R = .inl f ∧ f ≤ T ∧ I 49 18 = pl f ∧ 0 ≤ pl f) ∨ (∃ t l m : Nat, zFi I T t l ∧ n + m = 12 ∧ zSm R (zLk c vl T m t l))
theorem zLG_0 {c vl pl : Nat → Int} {T : Nat} {I I5 : aI1} (h : zRC T pl c vl I I5) (hf : zFi I T 0 0) : zLG c vl pl T (zLw c vl T 12 0 0) 1 I5 := by
  have h1 := h.2 0 0 hf
  cases hq : zCl c vl 0 0 with
  | inl f =>
    rw [hq] at h1
    exact Or.inl ⟨f, zLw_f hq, h1⟩
  | inr q =>
    rw [hq] at h1
    exact Or.inr ⟨q.1, q.2.1, 11, h1, rfl, zLw_sm hq⟩
theorem zLG_at {c vl pl : Nat → Int} {T : Nat} {R : Nat ⊕ List zQ} {n : Int} {I : aI1} (h : zLG c vl pl T R n I) (hb : I 49 18 = -1) : ∃ t l m : Nat, zFi I T t l ∧ n + m = 12 ∧ zSm R (zLk c vl T m t l) := by
  rcases h with ⟨f, f1, f2, f3, f4⟩ | h
  · omega
  · exact h
theorem zLG_s {c vl pl : Nat → Int} {T : Nat} {R : Nat ⊕ List zQ} {n : Int} {I I6 I7 : aI1} (h : zLG c vl pl T R n I) (hs : I 49 18 = -1 ∧ c (I 49 16).toNat = 159 ∧ I6 49 16 = I 49 16 + 1) (e17 : I6 49 17 = I 49 17) (e18 : I6 49 18 = I 49 18) (hT : c T = 0) (hn : ¬ n = 12) (h7 : zRC T pl c vl I6 I7) : zLG c vl pl T R (n + 1) I7 := by
  obtain ⟨s1, s2, s3⟩ := hs
  obtain ⟨t, l, m, q1, q2, q3⟩ := zLG_at h s1
  obtain ⟨a1, a2, a3, a4, a5⟩ := id q1
  rw [a2] at s2
  rw [show ((t : Int)).toNat = t from rfl] at s2
  have htT : ¬ t = T := fun e => by rw [e] at s2; omega
  obtain ⟨k, rfl⟩ : ∃ k, m = k + 1 := ⟨m - 1, by omega⟩
  have h8 := h7.2 (t + 1) l ⟨by omega, by omega, by omega, by omega, a5⟩
  have e9 : zLk c vl T (k + 1) t l = zLw c vl T (k + 1) (t + 1) l := (if_neg htT).trans (if_pos s2)
  rw [e9] at q3
  cases hq : zCl c vl (t + 1) l with
  | inl f =>
    rw [hq] at h8
    exact Or.inl ⟨f, (q3 f).mpr (zLw_f hq), h8⟩
  | inr q =>
    rw [hq] at h8
    exact Or.inr ⟨q.1, q.2.1, k, h8, by omega, zSm_tr q3 (zLw_sm hq)⟩
theorem zLG_f {c vl pl : Nat → Int} {T : Nat} {R : Nat ⊕ List zQ} {n k : Int} {I I6 I7 : aI1} (h : zLG c vl pl T R n I) (hs : I 49 18 = -1 ∧ c (I 49 16).toNat = 159 ∧ I6 49 16 = I 49 16 + 1) (e18 : I6 49 18 = I 49 18) (hT : c T = 0) (hn : n = 12) (h7 : zFT pl I6 I7) (hp : zPp pl T) : zLG c vl pl T R k I7 := by
  obtain ⟨s1, s2, s3⟩ := hs
  obtain ⟨t, l, m, q1, q2, q3⟩ := zLG_at h s1
  obtain ⟨a1, a2, a3, a4, a5⟩ := id q1
  rw [a2] at s2
  rw [show ((t : Int)).toNat = t from rfl] at s2
  have htT : ¬ t = T := fun e => by rw [e] at s2; omega
  obtain rfl : m = 0 := by omega
  have e9 : zLk c vl T 0 t l = .inl (t + 1) := (if_neg htT).trans (if_pos s2)
  refine Or.inl ⟨t + 1, (q3 (t + 1)).mpr e9, by omega, ?_, hp _ (by omega)⟩
  rw [h7.2 (by omega), show (I6 49 16).toNat = t + 1 by omega]
theorem zLG_e1 {c vl pl : Nat → Int} {T : Nat} {R : Nat ⊕ List zQ} {n : Int} {I : aI1} (h : zLG c vl pl T R n I) (nb : NB I) : ∃ f, R = .inl f ∧ I 49 18 = pl f := by
  rcases h with ⟨f, f1, f2, f3, f4⟩ | ⟨t, l, m, q1, -⟩
  · exact ⟨f, f1, f3⟩
  · exact absurd q1.1 nb
theorem zLG_e2 {c vl pl : Nat → Int} {T : Nat} {R : Nat ⊕ List zQ} {n : Int} {I I6 I7 : aI1} (h : zLG c vl pl T R n I) (hb : I 49 18 = -1) (z : I6 49 16 = I 49 16) (e18 : I6 49 18 = I 49 18) (hn : NOP c 159 I) (hlt : I6 49 16 < T) (h7 : zFT pl I6 I7) : ∃ f, R = .inl f ∧ I7 49 18 = pl f := by
  obtain ⟨t, l, m, q1, q2, q3⟩ := zLG_at h hb
  obtain ⟨a1, a2, a3, a4, a5⟩ := id q1
  have h1 := hn hb
  rw [a2] at h1
  rw [show ((t : Int)).toNat = t from rfl] at h1
  have e9 : zLk c vl T m t l = .inl t := (if_neg (by omega)).trans (if_neg h1)
  refine ⟨t, (q3 t).mpr e9, ?_⟩
  rw [h7.2 (by omega), z, a2]
  rfl
theorem zLG_e3 {c vl pl : Nat → Int} {T : Nat} {R : Nat ⊕ List zQ} {n : Int} {I I6 : aI1} (h : zLG c vl pl T R n I) (hb : I 49 18 = -1) (z : I6 49 16 = I 49 16) (hlt : ¬ I6 49 16 < T) : ∃ qs, R = .inr qs := by
  obtain ⟨t, l, m, q1, q2, q3⟩ := zLG_at h hb
  obtain ⟨a1, a2, a3, a4, a5⟩ := id q1
  have e9 : zLk c vl T m t l = .inr [] := if_pos (by omega)
  cases R with
  | inl f =>
    have h2 := (q3 f).mp rfl
    rw [e9] at h2
    cases h2
  | inr qs => exact ⟨qs, rfl⟩
/-- what reads leaves -/
def zRE (f : Nat → Int) (N : Nat) (x : Int) (I : aI1) : Prop := (∀ fp, zTx f N = .inl fp → x = 0 ∧ I 49 11 = zPc N (zTk f N 0) fp) ∧ (∀ qs, zTx f N = .inr qs → x = 1 ∧ I 49 11 = -1)
theorem zRE_0 {f : Nat → Int} {N : Nat} {x : Int} {I : aI1} {fp : Nat} (h : zTx f N = .inl fp) (hx : x = 0) (h1 : I 49 11 = zPc N (zTk f N 0) fp) : zRE f N x I := ⟨fun g hg => (by rw [h] at hg; cases hg; exact ⟨hx, h1⟩), fun qs hq => (by rw [h] at hq; cases hq)⟩
theorem zRE_1 {f : Nat → Int} {N : Nat} {x : Int} {I : aI1} {qs : List zQ} (h : zTx f N = .inr qs) (hx : x = 1) (h1 : I 49 11 = -1) : zRE f N x I := ⟨fun g hg => (by rw [h] at hg; cases hg), fun _ _ => ⟨hx, h1⟩⟩
theorem zpv_at {I : aI1} {L t : Nat} (h : I 49 15 = L) (ht : t ≤ L) (h0 : I 57 (I 49 15).toNat = 0) : pvw I t = I 57 t := by
  unfold pvw
  by_cases hi : (t : Int) < I 49 15
  · rw [if_pos hi]
  · rw [if_neg hi, show t = (I 49 15).toNat by omega]
    exact h0.symm
