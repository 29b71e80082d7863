/-! what the pure parser takes is grammatical -/
theorem zRest_G {P : zP} {G : Nat → Nat → Prop} {ops : List Int} {op : Int → Prop} {jn : Int → zD → zD → zD} {c : Nat → Int} {T : Nat} (hP : ∀ t l q, P t l = .inr q → G t q.1 ∧ t < q.1) (ho : ∀ x, op x ↔ x ∈ ops) (hz : ∀ t, T ≤ t → c t = 0) (hT : T ≤ 400) (h0 : (0 : Int) ∉ ops) : ∀ (n t l : Nat) (D : zD) (q : Nat × Nat × zD), zRest P ops jn c n t l D = .inr q → 400 ≤ n + t → (∃ k, GRest G op c k t q.1) ∧ t ≤ q.1
  | 0, t, l, D, q, h, hn => by
    cases h
    exact ⟨⟨0, rfl, fun g => h0 (by rw [← hz t (by omega)]; exact (ho _).mp g)⟩, Nat.le_refl _⟩
  | n + 1, t, l, D, q, h, hn => by
    by_cases hc : c t ∈ ops
    · cases hp : P (t + 1) l with
      | inl f => rw [zRest_f hc hp] at h; cases h
      | inr p =>
        rw [zRest_s hc hp] at h
        obtain ⟨g1, g2⟩ := hP _ _ _ hp
        obtain ⟨⟨k, hk⟩, h2⟩ := zRest_G hP ho hz hT h0 n p.1 p.2.1 _ q h (by omega)
        exact ⟨⟨k + 1, (ho _).mpr hc, p.1, g1, hk⟩, by omega⟩
    · rw [zRest_no hc] at h
      cases h
      exact ⟨⟨0, rfl, fun g => hc ((ho _).mp g)⟩, Nat.le_refl _⟩
theorem zSeq_G {P : zP} {G : Nat → Nat → Prop} {ops : List Int} {op : Int → Prop} {jn : Int → zD → zD → zD} {c : Nat → Int} {T : Nat} (hP : ∀ t l q, P t l = .inr q → G t q.1 ∧ t < q.1) (ho : ∀ x, op x ↔ x ∈ ops) (hz : ∀ t, T ≤ t → c t = 0) (hT : T ≤ 400) (h0 : (0 : Int) ∉ ops) (t l : Nat) (q : Nat × Nat × zD) (h : zSeq P ops jn c t l = .inr q) : GSeq G op c t q.1 ∧ t < q.1 := by
  cases hp : P t l with
  | inl f => rw [zSeq_f hp] at h; cases h
  | inr p =>
    rw [zSeq_s hp] at h
    obtain ⟨g1, g2⟩ := hP _ _ _ hp
    obtain ⟨⟨k, hk⟩, h2⟩ := zRest_G hP ho hz hT h0 400 p.1 p.2.1 _ q h (by omega)
    exact ⟨⟨p.1, g1, k, hk⟩, by omega⟩
theorem opT_i (x : Int) : opT x ↔ x ∈ ([142, 147, 137] : List Int) := by
  unfold opT
  simp only [List.mem_cons, List.not_mem_nil, or_false]
theorem opS_i (x : Int) : opS x ↔ x ∈ ([143, 145] : List Int) := by
  unfold opS
  simp only [List.mem_cons, List.not_mem_nil, or_false]
theorem opA_i (x : Int) : opA x ↔ x ∈ ([4] : List Int) := by
  unfold opA
  simp only [List.mem_cons, List.not_mem_nil, or_false]
theorem opO_i (x : Int) : opO x ↔ x ∈ ([3] : List Int) := by
  unfold opO
  simp only [List.mem_cons, List.not_mem_nil, or_false]
theorem zLe_G {c vl : Nat → Int} {t l : Nat} {q : Nat × Nat × zD} (h : zLe c vl t l = .inr q) : GLeaf c t ∧ q.1 = t + 1 := by
  cases hD : zLf c vl t with
  | none => rw [zLe_0 hD] at h; cases h
  | some D =>
    by_cases hl : l < 50
    · rw [zLe_s hD hl] at h
      cases h
      refine ⟨?_, rfl⟩
      unfold zLf at hD
      unfold GLeaf
      by_cases h1 : c t = 50 ∧ vl t ≤ 1000
      · exact Or.inl h1.1
      · rw [if_neg h1] at hD
        by_cases h2 : 6 ≤ c t ∧ c t ≤ 13
        · exact Or.inr h2
        · rw [if_neg h2] at hD; cases hD
    · rw [zLe_f hD hl] at h; cases h
theorem zBr_G {P : zP} {c : Nat → Int} {cl : Int} {t l : Nat} {q : Nat × Nat × zD} (h : zBr (some P) c cl t l = .inr q) : ∃ p, P (t + 1) l = .inr p ∧ c p.1 = cl ∧ q.1 = p.1 + 1 := by
  cases hp : P (t + 1) l with
  | inl f => rw [zBr_f hp] at h; cases h
  | inr p =>
    by_cases hc : c p.1 = cl
    · rw [zBr_s hp hc] at h
      cases h
      exact ⟨p, rfl, hc, rfl⟩
    · rw [zBr_n hp hc] at h; cases h
theorem zS_G {c vl : Nat → Int} {T : Nat} (hz : ∀ t, T ≤ t → c t = 0) (hT : T ≤ 400) : ∀ (m t l : Nat) (q : Nat × Nat × zD), zS c vl m t l = .inr q → GSum c m t q.1 ∧ t < q.1
  | 0, t, l, q, h => by
    rw [GSum_eq]
    refine zSeq_G (zSeq_G (fun t l q h => ?_) opT_i hz hT (by decide)) opS_i hz hT (by decide) t l q h
    by_cases hc : c t = 191
    · rw [zPart_b hc] at h; cases h
    · rw [zPart_l hc] at h
      have h1 := zLe_G h
      exact ⟨Or.inl h1, by omega⟩
  | m + 1, t, l, q, h => by
    rw [GSum_eq]
    refine zSeq_G (zSeq_G (fun t l q h => ?_) opT_i hz hT (by decide)) opS_i hz hT (by decide) t l q h
    by_cases hc : c t = 191
    · rw [zPart_b hc] at h
      obtain ⟨p, p1, p2, p3⟩ := zBr_G h
      obtain ⟨g1, g2⟩ := zS_G hz hT m (t + 1) l p p1
      exact ⟨Or.inr ⟨hc, p.1, g1, p2, p3⟩, by omega⟩
    · rw [zPart_l hc] at h
      have h1 := zLe_G h
      exact ⟨Or.inl h1, by omega⟩
theorem zNt_G {c : Nat → Int} {T : Nat} (hz : ∀ t, T ≤ t → c t = 0) (hT : T ≤ 400) (Q : Nat → Nat → Prop) (b : Nat) : ∀ (n t : Nat) (f : Int), 400 ≤ n + t → Q (zNt c n t f).1 b → (∃ k, GNots Q c k t b) ∧ t ≤ (zNt c n t f).1
  | 0, t, f, hn, h => ⟨⟨0, by rw [hz t (by omega)]; decide, h⟩, Nat.le_refl _⟩
  | n + 1, t, f, hn, h => by
    by_cases hc : c t = 5
    · rw [zNt_s hc] at h ⊢
      obtain ⟨⟨k, hk⟩, h2⟩ := zNt_G hz hT Q b n (t + 1) (1 - f) (by omega) h
      exact ⟨⟨k + 1, hc, hk⟩, by omega⟩
    · rw [zNt_n hc] at h ⊢
      exact ⟨⟨0, hc, h⟩, Nat.le_refl _⟩
theorem zFp_i {f : Int} {r : zR} {q : Nat × Nat × zD} (h : zFp f r = .inr q) : ∃ p, r = .inr p ∧ q.1 = p.1 := by
  cases r with
  | inl a => cases h
  | inr p => cases h; exact ⟨p, rfl, rfl⟩
theorem zCm_G {S : zP} {c : Nat → Int} {t l : Nat} {q : Nat × Nat × zD} (h : zCm S c t l = .inr q) : ∃ p r, S t l = .inr p ∧ S (p.1 + 1) p.2.1 = .inr r ∧ q.1 = r.1 := by
  cases hp : S t l with
  | inl f => rw [zCm_f hp] at h; cases h
  | inr p =>
    by_cases hc : 160 ≤ c p.1 ∧ c p.1 ≤ 162
    · cases hr : S (p.1 + 1) p.2.1 with
      | inl f => rw [zCm_g hp hc hr] at h; cases h
      | inr r =>
        rw [zCm_s hp hc hr] at h
        cases h
        exact ⟨p, r, rfl, hr, rfl⟩
    · rw [zCm_n hp hc] at h; cases h
theorem zT_G {c vl : Nat → Int} {T : Nat} (hz : ∀ t, T ≤ t → c t = 0) (hT : T ≤ 400) : ∀ (m t l : Nat) (q : Nat × Nat × zD), zT c vl m t l = .inr q → GTest c m t q.1 ∧ t < q.1
  | 0, t, l, q, h => by
    rw [GTest_eq]
    refine zSeq_G (zSeq_G (fun t l q h => ?_) opA_i hz hT (by decide)) opO_i hz hT (by decide) t l q h
    obtain ⟨p, p1, p2⟩ := zFp_i h
    have hQ : GPos (fun _ _ => False) (GSum c 0) c (zNt c 400 t 0).1 q.1 ∧ (zNt c 400 t 0).1 < q.1 := by
      rw [p2]
      by_cases hc : c (zNt c 400 t 0).1 = 140
      · rw [zPos_b hc] at p1; cases p1
      · rw [zPos_c hc] at p1
        obtain ⟨u, v, u1, v1, e1⟩ := zCm_G p1
        obtain ⟨g1, g2⟩ := zS_G hz hT 0 _ _ _ u1
        obtain ⟨g3, g4⟩ := zS_G hz hT 0 _ _ _ v1
        rw [e1]
        exact ⟨Or.inr ⟨hc, u.1, g1, g3⟩, by omega⟩
    obtain ⟨⟨k, hk⟩, h2⟩ := zNt_G hz hT (GPos (fun _ _ => False) (GSum c 0) c) q.1 400 t 0 (by omega) hQ.1
    exact ⟨⟨k, hk⟩, by omega⟩
  | m + 1, t, l, q, h => by
    rw [GTest_eq]
    refine zSeq_G (zSeq_G (fun t l q h => ?_) opA_i hz hT (by decide)) opO_i hz hT (by decide) t l q h
    obtain ⟨p, p1, p2⟩ := zFp_i h
    have hQ : GPos (GTest c m) (GSum c (m + 1)) c (zNt c 400 t 0).1 q.1 ∧ (zNt c 400 t 0).1 < q.1 := by
      rw [p2]
      by_cases hc : c (zNt c 400 t 0).1 = 140
      · rw [zPos_b hc] at p1
        obtain ⟨u, u1, u2, u3⟩ := zBr_G p1
        obtain ⟨g1, g2⟩ := zT_G hz hT m _ _ u u1
        exact ⟨Or.inl ⟨hc, u.1, g1, u2, u3⟩, by omega⟩
      · rw [zPos_c hc] at p1
        obtain ⟨u, v, u1, v1, e1⟩ := zCm_G p1
        obtain ⟨g1, g2⟩ := zS_G hz hT (m + 1) _ _ _ u1
        obtain ⟨g3, g4⟩ := zS_G hz hT (m + 1) _ _ _ v1
        rw [e1]
        exact ⟨Or.inr ⟨hc, u.1, g1, g3⟩, by omega⟩
    obtain ⟨⟨k, hk⟩, h2⟩ := zNt_G hz hT (GPos (GTest c m) (GSum c (m + 1)) c) q.1 400 t 0 (by omega) hQ.1
    exact ⟨⟨k, hk⟩, by omega⟩
theorem zCl_G {c vl : Nat → Int} {T t l : Nat} (hz : ∀ t, T ≤ t → c t = 0) (hT : T ≤ 400) {q : Nat × Nat × zQ} (h : zCl c vl t l = .inr q) : GClause c t q.1 := by
  by_cases hc : c t = 1
  · cases hs : zS c vl 8 (t + 1) l with
    | inl f => rw [zCl_f hc hs] at h; cases h
    | inr p =>
      obtain ⟨g1, g2⟩ := zS_G hz hT 8 _ _ p hs
      by_cases h2 : c p.1 = 2
      · cases ht : zT c vl 8 (p.1 + 1) p.2.1 with
        | inl f => rw [zCl_g hc hs h2 ht] at h; cases h
        | inr r =>
          rw [zCl_s hc hs h2 ht] at h
          cases h
          exact ⟨hc, p.1, g1, Or.inl ⟨h2, (zT_G hz hT 8 _ _ r ht).1⟩⟩
      · rw [zCl_n hc hs h2] at h
        cases h
        exact ⟨hc, p.1, g1, Or.inr ⟨h2, rfl⟩⟩
  · rw [zCl_0 hc] at h; cases h
theorem zLw_G {c vl : Nat → Int} {T : Nat} (hz : ∀ t, T ≤ t → c t = 0) (hT : T ≤ 400) : ∀ (n t l : Nat) (qs : List zQ), zLw c vl T n t l = .inr qs → ∃ m, GLaw c T m t
  | 0, t, l, qs, h => by cases h
  | n + 1, t, l, qs, h => by
    cases hq : zCl c vl t l with
    | inl f => rw [zLw_f hq] at h; cases h
    | inr q =>
      have g := zCl_G hz hT hq
      by_cases hT9 : q.1 = T
      · rw [hT9] at g
        exact ⟨0, g⟩
      · by_cases hc : c q.1 = 159
        · rw [zLw_s hq hT9 hc] at h
          cases hr : zLw c vl T n (q.1 + 1) q.2.1 with
          | inl f => rw [hr] at h; cases h
          | inr ps =>
            obtain ⟨m, hm⟩ := zLw_G hz hT n (q.1 + 1) q.2.1 ps hr
            exact ⟨m + 1, q.1, g, hc, hm⟩
        · rw [zLw_n hq hT9 hc] at h; cases h
theorem zCd_z {f : Nat → Int} {L : List (Nat × Nat)} : ∀ t, L.length ≤ t → zCd f L t = 0 := fun t ht => zCd_n (List.getElem?_eq_none ht)
theorem zTx_G {f : Nat → Int} {N : Nat} (hT : (zTk f N 0).length ≤ 400) {qs : List zQ} (h : zTx f N = .inr qs) : LawG (zCd f (zTk f N 0)) (zTk f N 0).length := zLw_G zCd_z hT 12 0 0 qs h
theorem zpvw {f : Nat → Int} {L : List (Nat × Nat)} {I : aI1} (h15 : I 49 15 = L.length) (h : ∀ t, t ≤ L.length → I 57 t = zCd f L t) : pvw I = zCd f L := by
  funext i
  unfold pvw
  by_cases hi : (i : Int) < I 49 15
  · rw [if_pos hi]; exact h i (by omega)
  · rw [if_neg hi]; exact (zCd_z i (by omega)).symm
/-! the row of clauses -/
def zSm (A B : Nat ⊕ List zQ) : Prop := ∀ f, A = .inl f ↔ B = .inl f
def zLk (c vl : Nat → Int) (T m t l : Nat) : Nat ⊕ List zQ := if t = T then .inr [] else if c t = 159 then zLw c vl T m (t + 1) l else .inl t
theorem zLw_sm {c vl : Nat → Int} {T m t l : Nat} {q : Nat × Nat × zQ} (h : zCl c vl t l = .inr q) : zSm (zLw c vl T (m + 1) t l) (zLk c vl T m q.1 q.2.1) := by
  unfold zLk
  intro f
  by_cases hT : q.1 = T
  · rw [zLw_e h hT, if_pos hT]
    exact ⟨fun g => (by cases g), fun g => (by cases g)⟩
  · rw [if_neg hT]
    by_cases hc : c q.1 = 159
    · rw [zLw_s h hT hc, if_pos hc]
      cases zLw c vl T m (q.1 + 1) q.2.1 with
      | inl a => exact ⟨id, id⟩
      | inr a => exact ⟨fun g => (by cases g), fun g => (by cases g)⟩
    · rw [zLw_n h hT hc, if_neg hc]
theorem zSm_tr {A B C : Nat ⊕ List zQ} (h : zSm A B) (g : zSm B C) : zSm A C := fun f => (h f).trans (g f)
def zLG (c vl pl : Nat → Int) (T : Nat) (R : Nat ⊕ List zQ) (n : Int) (I : aI1) : Prop := (∃ f, R = .inl f ∧ f ≤ T ∧ I 49 18 = pl f ∧ 0 ≤ pl f) ∨ (∃ t l m : Nat, zFi I T t l ∧ n + m = 12 ∧ zSm R (zLk c vl T m t l))
theorem zLG_0 {c vl pl : Nat → Int} {T : Nat} {I I5 : aI1} (h : zRC T pl c vl I I5) (hf : zFi I T 0 0) : zLG c vl pl T (zLw c vl T 12 0 0) 1 I5 := by
  have h1 := h.2 0 0 hf
  cases hq : zCl c vl 0 0 with
  | inl f =>
    rw [hq] at h1
    exact Or.inl ⟨f, zLw_f hq, h1⟩
  | inr q =>
    rw [hq] at h1
    exact Or.inr ⟨q.1, q.2.1, 11, h1, rfl, zLw_sm hq⟩
theorem zLG_at {c vl pl : Nat → Int} {T : Nat} {R : Nat ⊕ List zQ} {n : Int} {I : aI1} (h : zLG c vl pl T R n I) (hb : I 49 18 = -1) : ∃ t l m : Nat, zFi I T t l ∧ n + m = 12 ∧ zSm R (zLk c vl T m t l) := by
  rcases h with ⟨f, f1, f2, f3, f4⟩ | h
  · omega
  · exact h
theorem zLG_s {c vl pl : Nat → Int} {T : Nat} {R : Nat ⊕ List zQ} {n : Int} {I I6 I7 : aI1} (h : zLG c vl pl T R n I) (hs : I 49 18 = -1 ∧ c (I 49 16).toNat = 159 ∧ I6 49 16 = I 49 16 + 1) (e17 : I6 49 17 = I 49 17) (e18 : I6 49 18 = I 49 18) (hT : c T = 0) (hn : ¬ n = 12) (h7 : zRC T pl c vl I6 I7) : zLG c vl pl T R (n + 1) I7 := by
  obtain ⟨s1, s2, s3⟩ := hs
  obtain ⟨t, l, m, q1, q2, q3⟩ := zLG_at h s1
  obtain ⟨a1, a2, a3, a4, a5⟩ := id q1
  rw [a2] at s2
  rw [show ((t : Int)).toNat = t from rfl] at s2
  have htT : ¬ t = T := fun e => by rw [e] at s2; omega
  obtain ⟨k, rfl⟩ : ∃ k, m = k + 1 := ⟨m - 1, by omega⟩
  have h8 := h7.2 (t + 1) l ⟨by omega, by omega, by omega, by omega, a5⟩
  have e9 : zLk c vl T (k + 1) t l = zLw c vl T (k + 1) (t + 1) l := (if_neg htT).trans (if_pos s2)
  rw [e9] at q3
  cases hq : zCl c vl (t + 1) l with
  | inl f =>
    rw [hq] at h8
    exact Or.inl ⟨f, (q3 f).mpr (zLw_f hq), h8⟩
  | inr q =>
    rw [hq] at h8
    exact Or.inr ⟨q.1, q.2.1, k, h8, by omega, zSm_tr q3 (zLw_sm hq)⟩
theorem zLG_f {c vl pl : Nat → Int} {T : Nat} {R : Nat ⊕ List zQ} {n k : Int} {I I6 I7 : aI1} (h : zLG c vl pl T R n I) (hs : I 49 18 = -1 ∧ c (I 49 16).toNat = 159 ∧ I6 49 16 = I 49 16 + 1) (e18 : I6 49 18 = I 49 18) (hT : c T = 0) (hn : n = 12) (h7 : zFT pl I6 I7) (hp : zPp pl T) : zLG c vl pl T R k I7 := by
  obtain ⟨s1, s2, s3⟩ := hs
  obtain ⟨t, l, m, q1, q2, q3⟩ := zLG_at h s1
  obtain ⟨a1, a2, a3, a4, a5⟩ := id q1
  rw [a2] at s2
  rw [show ((t : Int)).toNat = t from rfl] at s2
  have htT : ¬ t = T := fun e => by rw [e] at s2; omega
  obtain rfl : m = 0 := by omega
  have e9 : zLk c vl T 0 t l = .inl (t + 1) := (if_neg htT).trans (if_pos s2)
  refine Or.inl ⟨t + 1, (q3 (t + 1)).mpr e9, by omega, ?_, hp _ (by omega)⟩
  rw [h7.2 (by omega), show (I6 49 16).toNat = t + 1 by omega]
theorem zLG_e1 {c vl pl : Nat → Int} {T : Nat} {R : Nat ⊕ List zQ} {n : Int} {I : aI1} (h : zLG c vl pl T R n I) (nb : NB I) : ∃ f, R = .inl f ∧ I 49 18 = pl f := by
  rcases h with ⟨f, f1, f2, f3, f4⟩ | ⟨t, l, m, q1, -⟩
  · exact ⟨f, f1, f3⟩
  · exact absurd q1.1 nb
theorem zLG_e2 {c vl pl : Nat → Int} {T : Nat} {R : Nat ⊕ List zQ} {n : Int} {I I6 I7 : aI1} (h : zLG c vl pl T R n I) (hb : I 49 18 = -1) (z : I6 49 16 = I 49 16) (e18 : I6 49 18 = I 49 18) (hn : NOP c 159 I) (hlt : I6 49 16 < T) (h7 : zFT pl I6 I7) : ∃ f, R = .inl f ∧ I7 49 18 = pl f := by
  obtain ⟨t, l, m, q1, q2, q3⟩ := zLG_at h hb
  obtain ⟨a1, a2, a3, a4, a5⟩ := id q1
  have h1 := hn hb
  rw [a2] at h1
  rw [show ((t : Int)).toNat = t from rfl] at h1
  have e9 : zLk c vl T m t l = .inl t := (if_neg (by omega)).trans (if_neg h1)
  refine ⟨t, (q3 t).mpr e9, ?_⟩
  rw [h7.2 (by omega), z, a2]
  rfl
theorem zLG_e3 {c vl pl : Nat → Int} {T : Nat} {R : Nat ⊕ List zQ} {n : Int} {I I6 : aI1} (h : zLG c vl pl T R n I) (hb : I 49 18 = -1) (z : I6 49 16 = I 49 16) (hlt : ¬ I6 49 16 < T) : ∃ qs, R = .inr qs := by
  obtain ⟨t, l, m, q1, q2, q3⟩ := zLG_at h hb
  obtain ⟨a1, a2, a3, a4, a5⟩ := id q1
  have e9 : zLk c vl T m t l = .inr [] := if_pos (by omega)
  cases R with
  | inl f =>
    have h2 := (q3 f).mp rfl
    rw [e9] at h2
    cases h2
  | inr qs => exact ⟨qs, rfl⟩
/-- what reads leaves -/
def zRE (f : Nat → Int) (N : Nat) (x : Int) (I : aI1) : Prop := (∀ fp, zTx f N = .inl fp → x = 0 ∧ I 49 11 = zPc N (zTk f N 0) fp) ∧ (∀ qs, zTx f N = .inr qs → x = 1 ∧ I 49 11 = -1)
theorem zRE_0 {f : Nat → Int} {N : Nat} {x : Int} {I : aI1} {fp : Nat} (h : zTx f N = .inl fp) (hx : x = 0) (h1 : I 49 11 = zPc N (zTk f N 0) fp) : zRE f N x I := ⟨fun g hg => (by rw [h] at hg; cases hg; exact ⟨hx, h1⟩), fun qs hq => (by rw [h] at hq; cases hq)⟩
theorem zRE_1 {f : Nat → Int} {N : Nat} {x : Int} {I : aI1} {qs : List zQ} (h : zTx f N = .inr qs) (hx : x = 1) (h1 : I 49 11 = -1) : zRE f N x I := ⟨fun g hg => (by rw [h] at hg; cases hg), fun _ _ => ⟨hx, h1⟩⟩
set_option maxHeartbeats 4000000 in
set_option maxRecDepth 20000 in
theorem c6_X11_readClause (l0 : Launch) {Ia Ja : aI1} {Ra : aR1} {Sa : aS1} (hL : LY Ra Sa) (hQ : RX Ia) (hP : PI Ia) {c : Nat → Int} (hc : pvw Ia = c) {vl pl : Nat → Int} {T : Nat} (hk : zRL Ia vl pl T)  : CT l0 33 0 0 mX11_readClause [kR (some 49)] Ia Ja Ra Sa (cV (fun I' J' => Ch [] [16, 17, 18] Ia I' ∧ Kp 49 73 Ja J' ∧ RX I' ∧ PI I' ∧ zRC T pl c vl Ia I' ∧ Ia 49 16 ≤ I' 49 16) Ra Sa) := by
  refine ct_in pn_X11 (Nat.le_of_ble_eq_true rfl) (fun X hX hT hIn => ?_)
  have hX : aK l0 X cX11_readClause 1 RX11 none 33 0 0 := hX
  change WW X 0 [some (kR (some 49))] [] Ia Ja Ra Sa 0 0
  have qIa := RX_w hQ
  have oIa := PI_o hP
  have tIa := PI_t hP
  have atIa := pvw_at hP hc
  refine ww_aload_n hX (pc := 0) dX11_readClause_0 rfl ?_
  refine ww_iconst hX (pc := 1) (x := 1) dX11_readClause_1 rfl ?_
  refine vV1 hX (pc := 2) sX11_174 (xs_49 hL) (c6_X11_must l0 hL hQ  hP hc hk (by omega) (by omega)) (by decide) (Nat.le_refl 0) (Nat.le_refl 0) (Nat.le_of_ble_eq_true rfl) dX11_readClause_2 (fun I_2 J_2 h_2 => ?_)
  have kJ_2 : Kp 49 73 Ja J_2 := Kp_tr (Kp_rf (a := 49) (b := 73)) h_2.2.1
  have kI_2 : Ch [] [16, 17, 18] Ia I_2 := Ch_tr Ch_rf (Ch_wd h_2.1 (by decide) (by decide))
  have cI_2 : RX I_2 := h_2.2.2.1
  have qI_2 := RX_w cI_2
  have f15_I_2 : I_2 49 15 = Ia 49 15 := h_2.1.2 15 (by decide)
  have f17_I_2 : I_2 49 17 = Ia 49 17 := h_2.1.2 17 (by decide)
  have pI_2 : PI I_2 := h_2.2.2.2.1
  have oI_2 := PI_o pI_2
  have yI_2 := h_2.2.2.2.2
  refine ww_aload_n hX (pc := 5) dX11_readClause_5 rfl ?_
  refine ww_iconst hX (pc := 6) (x := 0) dX11_readClause_6 rfl ?_
  refine vV1 hX (pc := 7) sX11_178 (xs_49 hL) (c_URSum l0 8 (by decide) hL cI_2 pI_2 (pvw_tr kI_2 (by decide) (by decide) hc) (zRL_tr kI_2 (by decide) (by decide) (by decide) hk)) (by decide) (Nat.le_refl 0) (Nat.le_refl 0) (Nat.le_of_ble_eq_true rfl) dX11_readClause_7 (fun I_7 J_7 h_7 => ?_)
  have kJ_7 : Kp 49 73 Ja J_7 := Kp_tr kJ_2 h_7.2.1
  have kI_7 : Ch [] [16, 17, 18] Ia I_7 := Ch_tr kI_2 (Ch_wd h_7.1 (by decide) (by decide))
  have cI_7 : RX I_7 := h_7.2.2.1
  have qI_7 := RX_w cI_7
  have f15_I_7 : I_7 49 15 = I_2 49 15 := h_7.1.2 15 (by decide)
  have pI_7 : PI I_7 := h_7.2.2.2.1
  have oI_7 := PI_o pI_7
  have yI_7 := h_7.2.2.2.2
  refine ww_aload_n hX (pc := 10) dX11_readClause_10 rfl ?_
  refine ww_iconst hX (pc := 11) (x := 2) dX11_readClause_11 rfl ?_
  refine vI1 hX (pc := 12) sX11_165 (xs_49 hL) (c_X11_takes0 l0 hL cI_7  pI_7 (pvw_tr kI_7 (by decide) (by decide) hc) (by omega) (by omega)) (by decide) (Nat.le_refl 0) (Nat.le_refl 0) (Nat.le_of_ble_eq_true rfl) dX11_readClause_12 (fun x_12 I_12 J_12 h_12 => ?_)
  have kJ_12 : Kp 49 73 Ja J_12 := Kp_tr kJ_7 h_12.2.1
  have kI_12 : Ch [] [16, 17, 18] Ia I_12 := Ch_tr kI_7 (Ch_wd h_12.1 (by decide) (by decide))
  have cI_12 : RX I_12 := h_12.2.2.1
  have qI_12 := RX_w cI_12
  have f15_I_12 : I_12 49 15 = I_7 49 15 := h_12.1.2 15 (by decide)
  have f17_I_12 : I_12 49 17 = I_7 49 17 := h_12.1.2 17 (by decide)
  have f18_I_12 : I_12 49 18 = I_7 49 18 := h_12.1.2 18 (by decide)
  have pI_12 : PI I_12 := h_12.2.2.2.1
  have oI_12 := PI_o pI_12
  have yI_12 := h_12.2.2.2.2
  refine ww_if_eq hX (pc := 15) (tgt := 23) dX11_readClause_15 (by decide) (fun h_15 => ?_) (fun h_15 => ?_)
  · simp only [w32_mod] at h_15
    obtain ⟨z12, n12⟩ := TK_0 yI_12.2.2.2 (by omega)
    refine rV hX (pc := 23) hT (Nat.le_refl 0) (Nat.le_refl 0) dX11_readClause_23 ?_
    exact ⟨kI_12, kJ_12, cI_12, pI_12, zRC_n yI_2.2 yI_7.1 z12 (by omega) (by omega) n12, by omega⟩
  · simp only [w32_mod] at h_15
    have s12 := TK_1 yI_12.2.2.2 (by omega)
    have at7 := pvw_at pI_7 (pvw_tr kI_7 (by decide) (by decide) hc)
    refine ww_aload_n hX (pc := 18) dX11_readClause_18 rfl ?_
    refine ww_iconst hX (pc := 19) (x := 0) dX11_readClause_19 rfl ?_
    refine vV1 hX (pc := 20) sX11_181 (xs_49 hL) (c_URTest l0 8 (by decide) hL cI_12 pI_12 (pvw_tr kI_12 (by decide) (by decide) hc) (zRL_tr kI_12 (by decide) (by decide) (by decide) hk)) (by decide) (Nat.le_refl 0) (Nat.le_refl 0) (Nat.le_of_ble_eq_true rfl) dX11_readClause_20 (fun I_20 J_20 h_20 => ?_)
    have kJ_20 : Kp 49 73 Ja J_20 := Kp_tr kJ_12 h_20.2.1
    have kI_20 : Ch [] [16, 17, 18] Ia I_20 := Ch_tr kI_12 (Ch_wd h_20.1 (by decide) (by decide))
    have cI_20 : RX I_20 := h_20.2.2.1
    have qI_20 := RX_w cI_20
    have f15_I_20 : I_20 49 15 = I_12 49 15 := h_20.1.2 15 (by decide)
    have pI_20 : PI I_20 := h_20.2.2.2.1
    have oI_20 := PI_o pI_20
    have yI_20 := h_20.2.2.2.2
    refine rV hX (pc := 23) hT (Nat.le_refl 0) (Nat.le_refl 0) dX11_readClause_23 ?_
    exact ⟨kI_20, kJ_20, cI_20, pI_20, zRC_s yI_2.2 yI_7.1 s12 (by omega) (by omega) (zRL_tr kI_7 (by decide) (by decide) (by decide) hk).1 (PI_lt pI_7 (by have h8 := s12.2.1; omega)) yI_20.1, by omega⟩
theorem zpv_at {I : aI1} {L t : Nat} (h : I 49 15 = L) (ht : t ≤ L) (h0 : I 57 (I 49 15).toNat = 0) : pvw I t = I 57 t := by
  unfold pvw
  by_cases hi : (t : Int) < I 49 15
  · rw [if_pos hi]
  · rw [if_neg hi, show t = (I 49 15).toNat by omega]
    exact h0.symm
set_option maxHeartbeats 4000000 in
set_option maxRecDepth 20000 in
theorem c6_X11_reads (l0 : Launch) {Ia Ja : aI1} {Ra : aR1} {Sa : aS1} (hL : LY Ra Sa) (hQ : RX Ia) {f : Nat → Int} {N : Nat} (hw : WD Ia) (hf : zTB f N (Ia 55)) (hN : Ia 49 10 = N)  : CT l0 34 0 0 mX11_reads [kR (some 49)] Ia Ja Ra Sa (cI (fun x I' J' => Ch [57, 58, 59] [10, 11, 15, 16, 17, 18] Ia I' ∧ Kp 49 73 Ja J' ∧ RX I' ∧ (0 ≤ x ∧ x ≤ 1) ∧ (x = 1 → (0 ≤ I' 49 15 ∧ I' 49 15 ≤ 400) ∧ RG (I' 57) (I' 49 15) ∧ LawG (pvw I') (I' 49 15).toNat) ∧ I' 49 10 = 0 ∧ zRE f N x I' ∧ I' 49 15 = (zTk f N 0).length ∧ (∀ t, t ≤ (zTk f N 0).length → I' 57 t = zCd f (zTk f N 0) t ∧ I' 58 t = zVl f (zTk f N 0) t)) Ra Sa) := by
  refine ct_in pn_X11 (Nat.le_of_ble_eq_true rfl) (fun X hX hT hIn => ?_)
  have hX : aK l0 X cX11_reads 2 RX11 (some .boolean) 34 0 0 := hX
  change WW X 0 [some (kR (some 49)), none] [] Ia Ja Ra Sa 0 0
  have qIa := RX_w hQ
  refine ww_aload_n hX (pc := 0) dX11_reads_0 rfl ?_
  refine ww_aload_n hX (pc := 1) dX11_reads_1 rfl ?_
  refine ww_getI hX (pc := 2) fX11_129 (by decide) (xs_49 hL) dX11_reads_2 ?_
  refine vV1 hX (pc := 5) sX11_203 (xs_49 hL) (c6_X11_splits l0 hL hQ (by omega) (by omega) hw hf hN) (by decide) (Nat.le_refl 0) (Nat.le_refl 0) (Nat.le_of_ble_eq_true rfl) dX11_reads_5 (fun I_5 J_5 h_5 => ?_)
  have kJ_5 : Kp 49 73 Ja J_5 := Kp_tr (Kp_rf (a := 49) (b := 73)) h_5.2.1
  have kI_5 : Ch [57, 58, 59] [10, 11, 15, 16, 17, 18] Ia I_5 := Ch_tr Ch_rf (Ch_wd h_5.1 (by decide) (by decide))
  have cI_5 : RX I_5 := h_5.2.2.1
  have qI_5 := RX_w cI_5
  have f10_I_5 : I_5 49 10 = Ia 49 10 := h_5.1.2 10 (by decide)
  have f16_I_5 : I_5 49 16 = Ia 49 16 := h_5.1.2 16 (by decide)
  have f17_I_5 : I_5 49 17 = Ia 49 17 := h_5.1.2 17 (by decide)
  have f18_I_5 : I_5 49 18 = Ia 49 18 := h_5.1.2 18 (by decide)
  refine ww_aload_n hX (pc := 8) dX11_reads_8 rfl ?_
  refine ww_iconst hX (pc := 9) (x := 0) dX11_reads_9 rfl ?_
  refine ww_putI hX (pc := 10) (fun h9 => absurd h9 (by decide)) gX11_129 rfl (xs_49 hL) dX11_reads_10 ?_
  refine ww_nmH (fun I_10 eI_10 => ?_)
  have kI_10 : Ch [57, 58, 59] [10, 11, 15, 16, 17, 18] Ia I_10 := by rw [eI_10]; exact Ch_f kI_5 (by decide)
  have cI_10 : RX I_10 := by rw [eI_10]; exact RX_10 cI_5 (by omega) (by omega)
  have qI_10 := RX_w cI_10
  have f15_I_10 : I_10 49 15 = I_5 49 15 := by rw [eI_10, up2_n _ _ (Or.inr (by decide))]
  have f16_I_10 : I_10 49 16 = I_5 49 16 := by rw [eI_10, up2_n _ _ (Or.inr (by decide))]
  have f17_I_10 : I_10 49 17 = I_5 49 17 := by rw [eI_10, up2_n _ _ (Or.inr (by decide))]
  have f18_I_10 : I_10 49 18 = I_5 49 18 := by rw [eI_10, up2_n _ _ (Or.inr (by decide))]
  have z10 : I_10 49 10 = 0 := by rw [eI_10, up2_s]
  refine ww_aload_n hX (pc := 13) dX11_reads_13 rfl ?_
  refine ww_iconst hX (pc := 14) (x := 0) dX11_reads_14 rfl ?_
  refine ww_putI hX (pc := 15) (fun h9 => absurd h9 (by decide)) gX11_162 rfl (xs_49 hL) dX11_reads_15 ?_
  refine ww_nmH (fun I_15 eI_15 => ?_)
  have kI_15 : Ch [57, 58, 59] [10, 11, 15, 16, 17, 18] Ia I_15 := by rw [eI_15]; exact Ch_f kI_10 (by decide)
  have cI_15 : RX I_15 := by rw [eI_15]; exact RX_f cI_10 (by decide)
  have qI_15 := RX_w cI_15
  have f10_I_15 : I_15 49 10 = I_10 49 10 := by rw [eI_15, up2_n _ _ (Or.inr (by decide))]
  have f15_I_15 : I_15 49 15 = I_10 49 15 := by rw [eI_15, up2_n _ _ (Or.inr (by decide))]
  have f17_I_15 : I_15 49 17 = I_10 49 17 := by rw [eI_15, up2_n _ _ (Or.inr (by decide))]
  have f18_I_15 : I_15 49 18 = I_10 49 18 := by rw [eI_15, up2_n _ _ (Or.inr (by decide))]
  have w16_15 : I_15 49 16 = 0 := by rw [eI_15, up2_s]
  refine ww_aload_n hX (pc := 18) dX11_reads_18 rfl ?_
  refine ww_iconst hX (pc := 19) (x := 0) dX11_reads_19 rfl ?_
  refine ww_putI hX (pc := 20) (fun h9 => absurd h9 (by decide)) gX11_171 rfl (xs_49 hL) dX11_reads_20 ?_
  refine ww_nmH (fun I_20 eI_20 => ?_)
  have kI_20 : Ch [57, 58, 59] [10, 11, 15, 16, 17, 18] Ia I_20 := by rw [eI_20]; exact Ch_f kI_15 (by decide)
  have cI_20 : RX I_20 := by rw [eI_20]; exact RX_f cI_15 (by decide)
  have qI_20 := RX_w cI_20
  have f10_I_20 : I_20 49 10 = I_15 49 10 := by rw [eI_20, up2_n _ _ (Or.inr (by decide))]
  have f15_I_20 : I_20 49 15 = I_15 49 15 := by rw [eI_20, up2_n _ _ (Or.inr (by decide))]
  have f16_I_20 : I_20 49 16 = I_15 49 16 := by rw [eI_20, up2_n _ _ (Or.inr (by decide))]
  have f18_I_20 : I_20 49 18 = I_15 49 18 := by rw [eI_20, up2_n _ _ (Or.inr (by decide))]
  have w17_20 : I_20 49 17 = 0 := by rw [eI_20, up2_s]
  refine ww_aload_n hX (pc := 23) dX11_reads_23 rfl ?_
  refine ww_iconst hX (pc := 24) (x := (-1)) dX11_reads_24 rfl ?_
  refine ww_putI hX (pc := 25) (fun h9 => absurd h9 (by decide)) gX11_155 rfl (xs_49 hL) dX11_reads_25 ?_
  refine ww_nmH (fun I_25 eI_25 => ?_)
  have kI_25 : Ch [57, 58, 59] [10, 11, 15, 16, 17, 18] Ia I_25 := by rw [eI_25]; exact Ch_f kI_20 (by decide)
  have cI_25 : RX I_25 := by rw [eI_25]; exact RX_f cI_20 (by decide)
  have qI_25 := RX_w cI_25
  have f10_I_25 : I_25 49 10 = I_20 49 10 := by rw [eI_25, up2_n _ _ (Or.inr (by decide))]
  have f15_I_25 : I_25 49 15 = I_20 49 15 := by rw [eI_25, up2_n _ _ (Or.inr (by decide))]
  have f16_I_25 : I_25 49 16 = I_20 49 16 := by rw [eI_25, up2_n _ _ (Or.inr (by decide))]
  have f17_I_25 : I_25 49 17 = I_20 49 17 := by rw [eI_25, up2_n _ _ (Or.inr (by decide))]
  have w18_25 : I_25 49 18 = -1 := by rw [eI_25, up2_s]
  have pI_25 : PI I_25 := PI_mk ⟨h_5.2.2.2.1, h_5.2.2.2.2.1, h_5.2.2.2.2.2.1, h_5.2.2.2.2.2.2.1⟩ (by rw [eI_25, up2_off _ _ _ (by decide), eI_20, up2_off _ _ _ (by decide), eI_15, up2_off _ _ _ (by decide), eI_10, up2_off _ _ _ (by decide)]) (by rw [eI_25, up2_off _ _ _ (by decide), eI_20, up2_off _ _ _ (by decide), eI_15, up2_off _ _ _ (by decide), eI_10, up2_off _ _ _ (by decide)]) (by omega) (by omega) w18_25
  have hL5 := h_5.2.2.2.2.2.2.2.1
  have hA5 := h_5.2.2.2.2.2.2.2.2
  have e57_25 : I_25 57 = I_5 57 := by rw [eI_25, up2_off _ _ _ (by decide), eI_20, up2_off _ _ _ (by decide), eI_15, up2_off _ _ _ (by decide), eI_10, up2_off _ _ _ (by decide)]
  have e58_25 : I_25 58 = I_5 58 := by rw [eI_25, up2_off _ _ _ (by decide), eI_20, up2_off _ _ _ (by decide), eI_15, up2_off _ _ _ (by decide), eI_10, up2_off _ _ _ (by decide)]
  have e59_25 : I_25 59 = I_5 59 := by rw [eI_25, up2_off _ _ _ (by decide), eI_20, up2_off _ _ _ (by decide), eI_15, up2_off _ _ _ (by decide), eI_10, up2_off _ _ _ (by decide)]
  obtain ⟨c, hcd⟩ : ∃ c, c = zCd f (zTk f N 0) := ⟨_, rfl⟩
  obtain ⟨vl, hvd⟩ : ∃ v, v = zVl f (zTk f N 0) := ⟨_, rfl⟩
  obtain ⟨pl, hpd⟩ : ∃ v, v = zPc N (zTk f N 0) := ⟨_, rfl⟩
  obtain ⟨T, hTd⟩ : ∃ v, v = (zTk f N 0).length := ⟨_, rfl⟩
  have hcI_25 : pvw I_25 = c := by rw [hcd]; exact zpvw (by omega) (fun t ht => by rw [e57_25]; exact (hA5 t ht).1)
  have hkI_25 : zRL I_25 vl pl T := ⟨by omega, by omega, fun t ht => by rw [e58_25, e59_25, hvd, hpd]; have h9 := hA5 t (by omega); have h8 := h_5.2.2.2.2.2.1 t (by omega); exact ⟨h9.2.1, h9.2.2, by omega, zVl_r⟩⟩
  have hRd : zTx f N = zLw c vl T 12 0 0 := by rw [hcd, hvd, hTd]; rfl
  have hcT : c T = 0 := by rw [hcd, hTd]; exact zCd_z _ (Nat.le_refl _)
  have oI_25 := PI_o pI_25
  refine ww_aload_n hX (pc := 28) dX11_reads_28 rfl ?_
  refine vV0 hX (pc := 29) sX11_206 (xs_49 hL) (c6_X11_readClause l0 hL cI_25 pI_25 hcI_25 hkI_25) (by decide) (Nat.le_refl 0) (Nat.le_refl 0) (Nat.le_of_ble_eq_true rfl) dX11_reads_29 (fun I_29 J_29 h_29 => ?_)
  have kJ_29 : Kp 49 73 Ja J_29 := Kp_tr kJ_5 h_29.2.1
  have kI_29 : Ch [57, 58, 59] [10, 11, 15, 16, 17, 18] Ia I_29 := Ch_tr kI_25 (Ch_wd h_29.1 (by decide) (by decide))
  have cI_29 : RX I_29 := h_29.2.2.1
  have qI_29 := RX_w cI_29
  have f10_I_29 : I_29 49 10 = I_25 49 10 := h_29.1.2 10 (by decide)
  have f15_I_29 : I_29 49 15 = I_25 49 15 := h_29.1.2 15 (by decide)
  have pI_29 : PI I_29 := h_29.2.2.2.1
  have oI_29 := PI_o pI_29
  have yI_29 := h_29.2.2.2.2
  have hcI_29 := pvw_tr h_29.1 (by decide) (by decide) hcI_25
  have hkI_29 := zRL_tr h_29.1 (by decide) (by decide) (by decide) hkI_25
  refine ww_iconst hX (pc := 32) (x := 1) dX11_reads_32 rfl ?_
  refine ww_istore_n hX (pc := 33) (lv' := [some (kR (some 49)), some (kI 1)]) dX11_reads_33 (by decide) rfl rfl ?_
  have hl_34 : ∀ (n_34 : Nat) (n : Int) (I34 : aI1) (J34 : aI1), (I34 49 15 - I34 49 16).toNat = n_34 → (Ch [57, 58, 59] [10, 11, 15, 16, 17, 18] Ia I34 ∧ RX I34 ∧ Kp 49 73 Ja J34 ∧ I34 49 10 = I_29 49 10 ∧ I34 49 15 = I_29 49 15 ∧ PI I34 ∧ (1 ≤ n ∧ n ≤ 13) ∧ pvw I34 = c ∧ zRL I34 vl pl T ∧ zLG c vl pl T (zLw c vl T 12 0 0) n I34) → WW X 34 [some (kR (some 49)), some (kI n)] [] I34 J34 Ra Sa 0 0 := by
    intro n_34
    induction n_34 using Nat.strongRecOn with
    | ind n_34 ih_34 =>
      intro n I34 J34 hm_34 hv_34
      obtain ⟨kI34, cI34, kJ34, f10_I34, f15_I34, pI34, hn13, hcI34, hkI34, hlg⟩ := hv_34
      have qI34 := RX_w cI34
      have oI34 := PI_o pI34
      have tI34 := PI_t pI34
      refine ww_aload_n hX (pc := 34) dX11_reads_34 rfl ?_
      refine ww_bipush hX (pc := 35) (x := 59) dX11_reads_35 (by decide) ?_
      refine sI1 hX (pc := 37) sX11_190 (c_X11_sign l0 ) (by decide) (Nat.le_refl 0) (Nat.le_refl 0) (Nat.le_of_ble_eq_true rfl) dX11_reads_37 (fun x_37 I_37 J_37 h_37 => ?_)
      obtain ⟨rfl, rfl, h_37⟩ := h_37
      refine vI1 hX (pc := 40) sX11_165 (xs_49 hL) (c_X11_takes0 l0 hL cI34 pI34 hcI34 (by omega) (by omega)) (by decide) (Nat.le_refl 0) (Nat.le_refl 0) (Nat.le_of_ble_eq_true rfl) dX11_reads_40 (fun x_40 I_40 J_40 h_40 => ?_)
      have kJ_40 : Kp 49 73 Ja J_40 := Kp_tr kJ34 h_40.2.1
      have kI_40 : Ch [57, 58, 59] [10, 11, 15, 16, 17, 18] Ia I_40 := Ch_tr kI34 (Ch_wd h_40.1 (by decide) (by decide))
      have cI_40 : RX I_40 := h_40.2.2.1
      have qI_40 := RX_w cI_40
      have f10_I_40 : I_40 49 10 = I34 49 10 := h_40.1.2 10 (by decide)
      have f15_I_40 : I_40 49 15 = I34 49 15 := h_40.1.2 15 (by decide)
      have f17_I_40 : I_40 49 17 = I34 49 17 := h_40.1.2 17 (by decide)
      have f18_I_40 : I_40 49 18 = I34 49 18 := h_40.1.2 18 (by decide)
      have pI_40 : PI I_40 := h_40.2.2.2.1
      have oI_40 := PI_o pI_40
      have yI_40 := h_40.2.2.2.2
      have hcI_40 := pvw_tr h_40.1 (by decide) (by decide) hcI34
      have hkI_40 := zRL_tr h_40.1 (by decide) (by decide) (by decide) hkI34
      refine ww_if_eq hX (pc := 43) (tgt := 73) dX11_reads_43 (by decide) (fun h_43 => ?_) (fun h_43 => ?_)
      · simp only [w32_mod] at h_43
        obtain ⟨z40, n41⟩ := TK_0 yI_40.2.2.2 (by omega)
        have n40 : NOP c 159 I34 := fun g9 => by have h8 := n41 g9; omega
        refine ww_aload_n hX (pc := 73) dX11_reads_73 rfl ?_
        refine vI0 hX (pc := 74) sX11_158 (xs_49 hL) (c_X11_fine l0 hL cI_40  pI_40) (by decide) (Nat.le_refl 0) (Nat.le_refl 0) (Nat.le_of_ble_eq_true rfl) dX11_reads_74 (fun x_74 I_74 J_74 h_74 => ?_)
        obtain ⟨rfl, rfl, h_74⟩ := h_74
        refine ww_if_eq hX (pc := 77) (tgt := 95) dX11_reads_77 (by decide) (fun h_77 => ?_) (fun h_77 => ?_)
        · simp only [w32_mod] at h_77
          have nb74 := FN_0 h_74.2 (by omega)
          refine ww_aload_n hX (pc := 95) dX11_reads_95 rfl ?_
          refine ww_aload_n hX (pc := 96) dX11_reads_96 rfl ?_
          refine ww_getI hX (pc := 97) fX11_155 (by decide) (xs_49 hL) dX11_reads_97 ?_
          refine ww_putI hX (pc := 100) (fun h9 => absurd h9 (by decide)) gX11_40 rfl (xs_49 hL) dX11_reads_100 ?_
          refine ww_nmH (fun I_100 eI_100 => ?_)
          have kI_100 : Ch [57, 58, 59] [10, 11, 15, 16, 17, 18] Ia I_100 := by rw [eI_100]; exact Ch_f kI_40 (by decide)
          have cI_100 : RX I_100 := by rw [eI_100]; exact RX_f cI_40 (by decide)
          have qI_100 := RX_w cI_100
          have f10_I_100 : I_100 49 10 = I_40 49 10 := by rw [eI_100, up2_n _ _ (Or.inr (by decide))]
          have f15_I_100 : I_100 49 15 = I_40 49 15 := by rw [eI_100, up2_n _ _ (Or.inr (by decide))]
          have f16_I_100 : I_100 49 16 = I_40 49 16 := by rw [eI_100, up2_n _ _ (Or.inr (by decide))]
          have f17_I_100 : I_100 49 17 = I_40 49 17 := by rw [eI_100, up2_n _ _ (Or.inr (by decide))]
          have f18_I_100 : I_100 49 18 = I_40 49 18 := by rw [eI_100, up2_n _ _ (Or.inr (by decide))]
          have w11 : I_100 49 11 = I_40 49 18 := by rw [eI_100, up2_s]
          have e57 : I_100 57 = I_40 57 := by rw [eI_100, up2_off _ _ _ (by decide)]
          have epv : pvw I_100 = c := by
            rw [← hcI_40]
            funext i
            unfold pvw
            rw [e57, f15_I_100]
          have epc : pvw I_100 = zCd f (zTk f N 0) := epv.trans hcd
          have z0_100 : I_100 57 (I_100 49 15).toNat = 0 := by rw [e57, f15_I_100]; exact pI_40.2.2.2.2.2
          have z10_100 : I_100 49 10 = 0 := by omega
          have pI_100 : PI I_100 := by rw [eI_100]; exact PI_g pI_40 (by decide)
          have oI_100 := PI_o pI_100
          have hkI_100 : zRL I_100 vl pl T := zRL_tr (rs := []) (fs := [11]) (by rw [eI_100]; exact Ch_f Ch_rf (by decide)) (by decide) (by decide) (by decide) hkI_40
          refine ww_aload_n hX (pc := 103) dX11_reads_103 rfl ?_
          refine vI0 hX (pc := 104) sX11_158 (xs_49 hL) (c_X11_fine l0 hL cI_100  pI_100) (by decide) (Nat.le_refl 0) (Nat.le_refl 0) (Nat.le_of_ble_eq_true rfl) dX11_reads_104 (fun x_104 I_104 J_104 h_104 => ?_)
          obtain ⟨rfl, rfl, h_104⟩ := h_104
          refine rZ hX (pc := 107) hT (Nat.le_refl 0) (Nat.le_refl 0) dX11_reads_107 (by omega) ?_
          exact ⟨kI_100, kJ_40, cI_100, (by omega), (fun h1 => absurd (show I_40 49 18 = -1 by have b9 := FN_1 h_104.2 h1; omega) nb74), z10_100, (by
              obtain ⟨fp, g1, g2⟩ := zLG_e1 hlg (fun g9 => nb74 (by omega))
              exact zRE_0 (hRd.trans g1) (by have b9 : x_104 = 0 ∨ x_104 = 1 := by omega
                                             rcases b9 with b9 | b9
                                             · exact b9
                                             · exact absurd (show I_40 49 18 = -1 by have b8 := FN_1 h_104.2 b9; omega) nb74) (by rw [← hpd]; omega)), (by omega), (fun t ht => ⟨by rw [← epc, zpv_at (show I_100 49 15 = (zTk f N 0).length by omega) ht z0_100], (hkI_100.2.2 t (by omega)).1.trans (by rw [hvd])⟩)⟩
        · simp only [w32_mod] at h_77
          have bb74 := FN_1 h_74.2 (by omega)
          refine ww_aload_n hX (pc := 80) dX11_reads_80 rfl ?_
          refine ww_getI hX (pc := 81) fX11_162 (by decide) (xs_49 hL) dX11_reads_81 ?_
          refine ww_aload_n hX (pc := 84) dX11_reads_84 rfl ?_
          refine ww_getI hX (pc := 85) fX11_142 (by decide) (xs_49 hL) dX11_reads_85 ?_
          refine ww_icmp_ge hX (pc := 88) (tgt := 95) dX11_reads_88 (by decide) (fun h_88 => ?_) (fun h_88 => ?_)
          · simp only [w32_mod] at h_88
            refine ww_aload_n hX (pc := 95) dX11_reads_95 rfl ?_
            refine ww_aload_n hX (pc := 96) dX11_reads_96 rfl ?_
            refine ww_getI hX (pc := 97) fX11_155 (by decide) (xs_49 hL) dX11_reads_97 ?_
            refine ww_putI hX (pc := 100) (fun h9 => absurd h9 (by decide)) gX11_40 rfl (xs_49 hL) dX11_reads_100 ?_
            refine ww_nmH (fun I_100 eI_100 => ?_)
            have kI_100 : Ch [57, 58, 59] [10, 11, 15, 16, 17, 18] Ia I_100 := by rw [eI_100]; exact Ch_f kI_40 (by decide)
            have cI_100 : RX I_100 := by rw [eI_100]; exact RX_f cI_40 (by decide)
            have qI_100 := RX_w cI_100
            have f10_I_100 : I_100 49 10 = I_40 49 10 := by rw [eI_100, up2_n _ _ (Or.inr (by decide))]
            have f15_I_100 : I_100 49 15 = I_40 49 15 := by rw [eI_100, up2_n _ _ (Or.inr (by decide))]
            have f16_I_100 : I_100 49 16 = I_40 49 16 := by rw [eI_100, up2_n _ _ (Or.inr (by decide))]
            have f17_I_100 : I_100 49 17 = I_40 49 17 := by rw [eI_100, up2_n _ _ (Or.inr (by decide))]
            have f18_I_100 : I_100 49 18 = I_40 49 18 := by rw [eI_100, up2_n _ _ (Or.inr (by decide))]
            have w11 : I_100 49 11 = I_40 49 18 := by rw [eI_100, up2_s]
            have e57 : I_100 57 = I_40 57 := by rw [eI_100, up2_off _ _ _ (by decide)]
            have epv : pvw I_100 = c := by
              rw [← hcI_40]
              funext i
              unfold pvw
              rw [e57, f15_I_100]
            have epc : pvw I_100 = zCd f (zTk f N 0) := epv.trans hcd
            have z0_100 : I_100 57 (I_100 49 15).toNat = 0 := by rw [e57, f15_I_100]; exact pI_40.2.2.2.2.2
            have z10_100 : I_100 49 10 = 0 := by omega
            have pI_100 : PI I_100 := by rw [eI_100]; exact PI_g pI_40 (by decide)
            have oI_100 := PI_o pI_100
            have hkI_100 : zRL I_100 vl pl T := zRL_tr (rs := []) (fs := [11]) (by rw [eI_100]; exact Ch_f Ch_rf (by decide)) (by decide) (by decide) (by decide) hkI_40
            refine ww_aload_n hX (pc := 103) dX11_reads_103 rfl ?_
            refine vI0 hX (pc := 104) sX11_158 (xs_49 hL) (c_X11_fine l0 hL cI_100  pI_100) (by decide) (Nat.le_refl 0) (Nat.le_refl 0) (Nat.le_of_ble_eq_true rfl) dX11_reads_104 (fun x_104 I_104 J_104 h_104 => ?_)
            obtain ⟨rfl, rfl, h_104⟩ := h_104
            refine rZ hX (pc := 107) hT (Nat.le_refl 0) (Nat.le_refl 0) dX11_reads_107 (by omega) ?_
            exact ⟨kI_100, kJ_40, cI_100, (by omega), (fun h1 => by
                obtain ⟨qs, g1⟩ := zLG_e3 hlg (by omega) z40 (by omega)
                have g2 := zTx_G (f := f) (N := N) (by omega) (hRd.trans g1)
                exact ⟨⟨by omega, by omega⟩, (fun j hj => pI_100.2.2.2.1 j (by omega)), (by rw [epv, hcd, show (I_100 49 15).toNat = (zTk f N 0).length by omega]; exact g2)⟩), z10_100, (by
                obtain ⟨qs, g1⟩ := zLG_e3 hlg (by omega) z40 (by omega)
                have b9 : x_104 = 1 := by
                  rcases (show x_104 = 0 ∨ x_104 = 1 by omega) with b9 | b9
                  · exact absurd (show I_100 49 18 = -1 by omega) (FN_0 h_104.2 b9)
                  · exact b9
                exact zRE_1 (hRd.trans g1) b9 (by omega)), (by omega), (fun t ht => ⟨by rw [← epc, zpv_at (show I_100 49 15 = (zTk f N 0).length by omega) ht z0_100], (hkI_100.2.2 t (by omega)).1.trans (by rw [hvd])⟩)⟩
          · simp only [w32_mod] at h_88
            refine ww_aload_n hX (pc := 91) dX11_reads_91 rfl ?_
            refine vV0 hX (pc := 92) sX11_168 (xs_49 hL) (c6_X11_faults l0 hL cI_40 pI_40 hkI_40) (by decide) (Nat.le_refl 0) (Nat.le_refl 0) (Nat.le_of_ble_eq_true rfl) dX11_reads_92 (fun I_92 J_92 h_92 => ?_)
            have kJ_92 : Kp 49 73 Ja J_92 := Kp_tr kJ_40 h_92.2.1
            have kI_92 : Ch [57, 58, 59] [10, 11, 15, 16, 17, 18] Ia I_92 := Ch_tr kI_40 (Ch_wd h_92.1 (by decide) (by decide))
            have cI_92 : RX I_92 := h_92.2.2.1
            have qI_92 := RX_w cI_92
            have f10_I_92 : I_92 49 10 = I_40 49 10 := h_92.1.2 10 (by decide)
            have f15_I_92 : I_92 49 15 = I_40 49 15 := h_92.1.2 15 (by decide)
            have f16_I_92 : I_92 49 16 = I_40 49 16 := h_92.1.2 16 (by decide)
            have f17_I_92 : I_92 49 17 = I_40 49 17 := h_92.1.2 17 (by decide)
            have pI_92 : PI I_92 := h_92.2.2.2.1
            have oI_92 := PI_o pI_92
            have yI_92 := h_92.2.2.2.2
            have hcI_92 := pvw_tr h_92.1 (by decide) (by decide) hcI_40
            have hkI_92 := zRL_tr h_92.1 (by decide) (by decide) (by decide) hkI_40
            refine ww_aload_n hX (pc := 95) dX11_reads_95 rfl ?_
            refine ww_aload_n hX (pc := 96) dX11_reads_96 rfl ?_
            refine ww_getI hX (pc := 97) fX11_155 (by decide) (xs_49 hL) dX11_reads_97 ?_
            refine ww_putI hX (pc := 100) (fun h9 => absurd h9 (by decide)) gX11_40 rfl (xs_49 hL) dX11_reads_100 ?_
            refine ww_nmH (fun I_100 eI_100 => ?_)
            have kI_100 : Ch [57, 58, 59] [10, 11, 15, 16, 17, 18] Ia I_100 := by rw [eI_100]; exact Ch_f kI_92 (by decide)
            have cI_100 : RX I_100 := by rw [eI_100]; exact RX_f cI_92 (by decide)
            have qI_100 := RX_w cI_100
            have f10_I_100 : I_100 49 10 = I_92 49 10 := by rw [eI_100, up2_n _ _ (Or.inr (by decide))]
            have f15_I_100 : I_100 49 15 = I_92 49 15 := by rw [eI_100, up2_n _ _ (Or.inr (by decide))]
            have f16_I_100 : I_100 49 16 = I_92 49 16 := by rw [eI_100, up2_n _ _ (Or.inr (by decide))]
            have f17_I_100 : I_100 49 17 = I_92 49 17 := by rw [eI_100, up2_n _ _ (Or.inr (by decide))]
            have f18_I_100 : I_100 49 18 = I_92 49 18 := by rw [eI_100, up2_n _ _ (Or.inr (by decide))]
            have w11 : I_100 49 11 = I_92 49 18 := by rw [eI_100, up2_s]
            have e57 : I_100 57 = I_92 57 := by rw [eI_100, up2_off _ _ _ (by decide)]
            have epv : pvw I_100 = c := by
              rw [← hcI_92]
              funext i
              unfold pvw
              rw [e57, f15_I_100]
            have epc : pvw I_100 = zCd f (zTk f N 0) := epv.trans hcd
            have z0_100 : I_100 57 (I_100 49 15).toNat = 0 := by rw [e57, f15_I_100]; exact pI_92.2.2.2.2.2
            have z10_100 : I_100 49 10 = 0 := by omega
            have pI_100 : PI I_100 := by rw [eI_100]; exact PI_g pI_92 (by decide)
            have oI_100 := PI_o pI_100
            have hkI_100 : zRL I_100 vl pl T := zRL_tr (rs := []) (fs := [11]) (by rw [eI_100]; exact Ch_f Ch_rf (by decide)) (by decide) (by decide) (by decide) hkI_92
            refine ww_aload_n hX (pc := 103) dX11_reads_103 rfl ?_
            refine vI0 hX (pc := 104) sX11_158 (xs_49 hL) (c_X11_fine l0 hL cI_100  pI_100) (by decide) (Nat.le_refl 0) (Nat.le_refl 0) (Nat.le_of_ble_eq_true rfl) dX11_reads_104 (fun x_104 I_104 J_104 h_104 => ?_)
            obtain ⟨rfl, rfl, h_104⟩ := h_104
            refine rZ hX (pc := 107) hT (Nat.le_refl 0) (Nat.le_refl 0) dX11_reads_107 (by omega) ?_
            exact ⟨kI_100, kJ_92, cI_100, (by omega), (fun h1 => by
                exfalso
                have b9 := FN_1 h_104.2 h1
                obtain ⟨fp, g1, g2⟩ := zLG_e2 hlg (by omega) z40 (by omega) n40 (by omega) yI_92.2.2
                have h8 := yI_92.2.2.2 (by omega)
                have h6 := (zRL_p hkI_40 pI_40).2.2.1
                omega), z10_100, (by
                obtain ⟨fp, g1, g2⟩ := zLG_e2 hlg (by omega) z40 (by omega) n40 (by omega) yI_92.2.2
                have h8 := yI_92.2.2.2 (by omega)
                have h6 := (zRL_p hkI_40 pI_40).2.2.1
                have b9 : x_104 = 0 := by
                  rcases (show x_104 = 0 ∨ x_104 = 1 by omega) with b9 | b9
                  · exact b9
                  · exfalso
                    have b8 := FN_1 h_104.2 b9
                    omega
                exact zRE_0 (hRd.trans g1) b9 (by rw [← hpd]; omega)), (by omega), (fun t ht => ⟨by rw [← epc, zpv_at (show I_100 49 15 = (zTk f N 0).length by omega) ht z0_100], (hkI_100.2.2 t (by omega)).1.trans (by rw [hvd])⟩)⟩
      · simp only [w32_mod] at h_43
        have s41 := TK_1 yI_40.2.2.2 (by omega)
        have s40 : I34 49 18 = -1 ∧ c (I34 49 16).toNat = 159 ∧ I_40 49 16 = I34 49 16 + 1 := ⟨s41.1, by have h8 := s41.2.1; omega, s41.2.2⟩
        have hn12 : n ≤ 12 := by
          obtain ⟨_, _, _, _, h9, _⟩ := zLG_at hlg s40.1
          omega
        refine ww_iload_n hX (pc := 46) dX11_reads_46 rfl ?_
        refine ww_bipush hX (pc := 47) (x := 12) dX11_reads_47 (by decide) ?_
        refine ww_icmp_ne hX (pc := 49) (tgt := 56) dX11_reads_49 (by decide) (fun h_49 => ?_) (fun h_49 => ?_)
        · simp only [w32_mod] at h_49
          refine ww_aload_n hX (pc := 56) dX11_reads_56 rfl ?_
          refine vI0 hX (pc := 57) sX11_158 (xs_49 hL) (c_X11_fine l0 hL cI_40  pI_40) (by decide) (Nat.le_refl 0) (Nat.le_refl 0) (Nat.le_of_ble_eq_true rfl) dX11_reads_57 (fun x_57 I_57 J_57 h_57 => ?_)
          obtain ⟨rfl, rfl, h_57⟩ := h_57
          refine ww_if_eq hX (pc := 60) (tgt := 67) dX11_reads_60 (by decide) (fun h_60 => ?_) (fun h_60 => ?_)
          · simp only [w32_mod] at h_60
            have nb57 := FN_0 h_57.2 (by omega)
            exact absurd (show I_40 49 18 = -1 by have h8 := s40.1; omega) nb57
          · simp only [w32_mod] at h_60
            have bb57 := FN_1 h_57.2 (by omega)
            refine ww_aload_n hX (pc := 63) dX11_reads_63 rfl ?_
            refine vV0 hX (pc := 64) sX11_206 (xs_49 hL) (c6_X11_readClause l0 hL cI_40 pI_40 hcI_40 hkI_40) (by decide) (Nat.le_refl 0) (Nat.le_refl 0) (Nat.le_of_ble_eq_true rfl) dX11_reads_64 (fun I_64 J_64 h_64 => ?_)
            have kJ_64 : Kp 49 73 Ja J_64 := Kp_tr kJ_40 h_64.2.1
            have kI_64 : Ch [57, 58, 59] [10, 11, 15, 16, 17, 18] Ia I_64 := Ch_tr kI_40 (Ch_wd h_64.1 (by decide) (by decide))
            have cI_64 : RX I_64 := h_64.2.2.1
            have qI_64 := RX_w cI_64
            have f10_I_64 : I_64 49 10 = I_40 49 10 := h_64.1.2 10 (by decide)
            have f15_I_64 : I_64 49 15 = I_40 49 15 := h_64.1.2 15 (by decide)
            have pI_64 : PI I_64 := h_64.2.2.2.1
            have oI_64 := PI_o pI_64
            have yI_64 := h_64.2.2.2.2
            have hcI_64 := pvw_tr h_64.1 (by decide) (by decide) hcI_40
            have hkI_64 := zRL_tr h_64.1 (by decide) (by decide) (by decide) hkI_40
            refine ww_iinc hX (pc := 67) (lv' := [some (kR (some 49)), some (kI (n + 1))]) dX11_reads_67 rfl (by decide) rfl rfl ?_
            refine ww_goto hX (pc := 70) (tgt := 34) dX11_reads_70 (by decide) ?_
            exact ih_34 _ (by omega) (n + 1) I_64 J_64 rfl ⟨kI_64, cI_64, kJ_64, by omega, by omega, pI_64, by omega, hcI_64, hkI_64, zLG_s hlg s40 f17_I_40 (by omega) hcT (by omega) yI_64.1⟩
        · simp only [w32_mod] at h_49
          refine ww_aload_n hX (pc := 52) dX11_reads_52 rfl ?_
          refine vV0 hX (pc := 53) sX11_168 (xs_49 hL) (c6_X11_faults l0 hL cI_40 pI_40 hkI_40) (by decide) (Nat.le_refl 0) (Nat.le_refl 0) (Nat.le_of_ble_eq_true rfl) dX11_reads_53 (fun I_53 J_53 h_53 => ?_)
          have kJ_53 : Kp 49 73 Ja J_53 := Kp_tr kJ_40 h_53.2.1
          have kI_53 : Ch [57, 58, 59] [10, 11, 15, 16, 17, 18] Ia I_53 := Ch_tr kI_40 (Ch_wd h_53.1 (by decide) (by decide))
          have cI_53 : RX I_53 := h_53.2.2.1
          have qI_53 := RX_w cI_53
          have f10_I_53 : I_53 49 10 = I_40 49 10 := h_53.1.2 10 (by decide)
          have f15_I_53 : I_53 49 15 = I_40 49 15 := h_53.1.2 15 (by decide)
          have f16_I_53 : I_53 49 16 = I_40 49 16 := h_53.1.2 16 (by decide)
          have f17_I_53 : I_53 49 17 = I_40 49 17 := h_53.1.2 17 (by decide)
          have pI_53 : PI I_53 := h_53.2.2.2.1
          have oI_53 := PI_o pI_53
          have yI_53 := h_53.2.2.2.2
          have hcI_53 := pvw_tr h_53.1 (by decide) (by decide) hcI_40
          have hkI_53 := zRL_tr h_53.1 (by decide) (by decide) (by decide) hkI_40
          refine ww_aload_n hX (pc := 56) dX11_reads_56 rfl ?_
          refine vI0 hX (pc := 57) sX11_158 (xs_49 hL) (c_X11_fine l0 hL cI_53  pI_53) (by decide) (Nat.le_refl 0) (Nat.le_refl 0) (Nat.le_of_ble_eq_true rfl) dX11_reads_57 (fun x_57 I_57 J_57 h_57 => ?_)
          obtain ⟨rfl, rfl, h_57⟩ := h_57
          refine ww_if_eq hX (pc := 60) (tgt := 67) dX11_reads_60 (by decide) (fun h_60 => ?_) (fun h_60 => ?_)
          · simp only [w32_mod] at h_60
            have nb57 := FN_0 h_57.2 (by omega)
            refine ww_iinc hX (pc := 67) (lv' := [some (kR (some 49)), some (kI (n + 1))]) dX11_reads_67 rfl (by decide) rfl rfl ?_
            refine ww_goto hX (pc := 70) (tgt := 34) dX11_reads_70 (by decide) ?_
            exact ih_34 _ (by omega) (n + 1) I_53 J_53 rfl ⟨kI_53, cI_53, kJ_53, by omega, by omega, pI_53, by omega, hcI_53, hkI_53, zLG_f hlg s40 (by omega) hcT (by omega) yI_53.2.2 (zRL_pp hkI_40)⟩
          · simp only [w32_mod] at h_60
            have bb57 := FN_1 h_57.2 (by omega)
            exfalso
            have h8 := yI_53.2.2.2 (by have h7 := s40.1; omega)
            have h6 := (zRL_p hkI_40 pI_40).2.2.1
            omega
  exact hl_34 _ 1 I_29 J_29 rfl ⟨kI_29, cI_29, kJ_29, rfl, rfl, pI_29, by omega, hcI_29, hkI_29, zLG_0 yI_29.1 ⟨by omega, by omega, Nat.zero_le _, by omega, by omega⟩⟩
