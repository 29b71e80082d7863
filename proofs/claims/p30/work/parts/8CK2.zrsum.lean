/-! the reference's reader: what it reads is what the pure parser tells: places alone -/
def zRL (I : aI1) (vl pl : Nat → Int) (T : Nat) : Prop := I 49 15 = T ∧ T ≤ 400 ∧ ∀ t, t ≤ T → I 58 t = vl t ∧ I 59 t = pl t ∧ 0 ≤ pl t ∧ 0 ≤ vl t ∧ vl t ≤ 10000009
theorem zRL_tr {rs fs : List Nat} {I I' : aI1} {vl pl : Nat → Int} {T : Nat} (h : Ch rs fs I I') (h1 : 15 ∉ fs) (h2 : 58 ∉ rs) (h3 : 59 ∉ rs) (hk : zRL I vl pl T) : zRL I' vl pl T := by
  unfold zRL at hk ⊢
  rw [h.2 15 h1, h.1 58 (by decide) h2, h.1 59 (by decide) h3]
  exact hk
theorem zRL_p {I : aI1} {vl pl : Nat → Int} {T : Nat} (hk : zRL I vl pl T) (hp : PI I) : I 58 (I 49 16).toNat = vl (I 49 16).toNat ∧ I 59 (I 49 16).toNat = pl (I 49 16).toNat ∧ 0 ≤ pl (I 49 16).toNat ∧ 0 ≤ vl (I 49 16).toNat ∧ vl (I 49 16).toNat ≤ 10000009 := by
  have h1 := PI_o hp
  exact hk.2.2 (I 49 16).toNat (by have := hk.1; omega)
theorem zTs_st {f : Nat → Int} {n : Nat} : ∀ (m k t : Nat) (q : Nat × Nat), (zTs f n m k)[t]? = some q → q.2 = zSt f n q.1
  | 0, k, t, q, h => by
    have h9 : (([] : List (Nat × Nat)))[t]? = some q := h
    simp at h9
  | m + 1, k, t, q, h => by
    by_cases hk : k < n
    · by_cases hb : f k = 32
      · have e : zTs f n (m + 1) k = zTs f n m (k + 1) := (if_pos hk).trans (if_pos hb)
        rw [e] at h
        exact zTs_st m (k + 1) t q h
      · have e : zTs f n (m + 1) k = (k, zSt f n k) :: zTs f n m (zSt f n k) := (if_pos hk).trans (if_neg hb)
        rw [e] at h
        cases t with
        | zero =>
          have h9 : (k, zSt f n k) = q := by simpa using h
          rw [← h9]
        | succ t => exact zTs_st m (zSt f n k) t q (by simpa using h)
    · rw [zTs_0 _ _ hk] at h
      simp at h
theorem zVl_r {f : Nat → Int} {n t : Nat} : 0 ≤ zVl f (zTk f n 0) t ∧ zVl f (zTk f n 0) t ≤ 10000009 := by
  cases hq : (zTk f n 0)[t]? with
  | none => rw [zVl_n hq]; exact ⟨Int.le_refl _, by decide⟩
  | some q =>
    rw [zVl_s hq]
    have hst := zTs_st _ 0 t q hq
    by_cases h2 : zKl (f q.1) = 2
    · rw [zVa_2 h2, hst]
      exact zNu_r _ (fun i hi => zKl_2.mp ((zSt_all (n := n) (k := q.1) (by omega) (by omega)).trans h2))
    · rw [zVa_0 h2]; exact ⟨Int.le_refl _, by decide⟩
def zFi (I : aI1) (T t l : Nat) : Prop := I 49 18 = -1 ∧ I 49 16 = t ∧ t ≤ T ∧ I 49 17 = l ∧ l ≤ 50
def zQO (T : Nat) (pl : Nat → Int) (I : aI1) : zR → Prop
  | .inl f => f ≤ T ∧ I 49 18 = pl f ∧ 0 ≤ pl f
  | .inr q => zFi I T q.1 q.2.1
def zRP (T : Nat) (pl : Nat → Int) (P : zP) (I I' : aI1) : Prop := (NB I → I' 49 18 = I 49 18) ∧ ∀ t l, zFi I T t l → zQO T pl I' (P t l)
def zFT (pl : Nat → Int) (I I' : aI1) : Prop := (NB I → I' 49 18 = I 49 18) ∧ (I 49 18 = -1 → I' 49 18 = pl (I 49 16).toNat)
def zMS (c pl : Nat → Int) (r : Int) (T : Nat) (I I' : aI1) : Prop := (NB I → I' 49 18 = I 49 18) ∧ ∀ t l, zFi I T t l → (c t = r ∧ zFi I' T (t + 1) l) ∨ (¬ c t = r ∧ t ≤ T ∧ I' 49 18 = pl t ∧ 0 ≤ pl t)
def zLf6 (pl : Nat → Int) (T : Nat) (I I' : aI1) : Prop := ∀ t l, zFi I T t l → (l < 50 ∧ zFi I' T (t + 1) (l + 1)) ∨ (¬ l < 50 ∧ t ≤ T ∧ I' 49 18 = pl t ∧ 0 ≤ pl t)
def zPp (pl : Nat → Int) (T : Nat) : Prop := ∀ t, t ≤ T → 0 ≤ pl t
theorem zRL_pp {I : aI1} {vl pl : Nat → Int} {T : Nat} (hk : zRL I vl pl T) : zPp pl T := fun t ht => (hk.2.2 t ht).2.2.1
theorem zFT_n {pl : Nat → Int} {I : aI1} (nb : NB I) : zFT pl I I := ⟨fun _ => rfl, fun g => absurd g nb⟩
theorem zFT_f {pl : Nat → Int} {I I' : aI1} (hb : I 49 18 = -1) (h : I' 49 18 = pl (I 49 16).toNat) : zFT pl I I' := ⟨fun g => absurd hb g, fun _ => h⟩
theorem zMS_1 {c pl : Nat → Int} {r : Int} {T : Nat} {I I' : aI1} (h : I 49 18 = -1 ∧ c (I 49 16).toNat = r ∧ I' 49 16 = I 49 16 + 1) (e17 : I' 49 17 = I 49 17) (e18 : I' 49 18 = I 49 18) (hT : I 49 15 = T) (hlt : I 49 16 < I 49 15) : zMS c pl r T I I' := by
  obtain ⟨h1, h2, h3⟩ := h
  refine ⟨fun g => absurd h1 g, fun t l ⟨a1, a2, a3, a4, a5⟩ => Or.inl ⟨?_, by omega, by omega, by omega, by omega, a5⟩⟩
  rw [a2] at h2
  exact h2
theorem zMS_0 {c pl : Nat → Int} {r : Int} {T : Nat} {I I1 I' : aI1} (z : I1 49 16 = I 49 16) (e18 : I1 49 18 = I 49 18) (n : NOP c r I) (hf : zFT pl I1 I') (hp : zPp pl T) : zMS c pl r T I I' := by
  refine ⟨fun g => (hf.1 (fun q => g (by omega))).trans e18, fun t l ⟨a1, a2, a3, a4, a5⟩ => Or.inr ⟨fun q => ?_, a3, ?_, hp t a3⟩⟩
  · have h1 := n a1
    rw [a2] at h1
    exact h1 q
  · rw [hf.2 (by omega), z, a2]
    rfl
theorem zLf6_1 {pl : Nat → Int} {T : Nat} {I I' : aI1} (hne : ∀ l : Nat, I 49 17 = l → l ≤ 50 → ¬ l = 50) (e16 : I' 49 16 = I 49 16 + 1) (e17 : I' 49 17 = I 49 17 + 1) (e18 : I' 49 18 = I 49 18) (hT : I 49 15 = T) (hlt : I 49 16 < I 49 15) : zLf6 pl T I I' := fun t l ⟨a1, a2, a3, a4, a5⟩ => Or.inl ⟨by have h9 := hne l a4 a5; omega, by omega, by omega, by omega, by omega, by have h9 := hne l a4 a5; omega⟩
theorem zLf6_0 {pl : Nat → Int} {T : Nat} {I I1 I' : aI1} (he : ∀ l : Nat, I 49 17 = l → l ≤ 50 → l = 50) (hf : zFT pl I I1) (e18 : I' 49 18 = I1 49 18) (hp : zPp pl T) : zLf6 pl T I I' := fun t l ⟨a1, a2, a3, a4, a5⟩ => Or.inr ⟨by have h9 := he l a4 a5; omega, a3, by rw [e18, hf.2 a1, a2]; rfl, hp t a3⟩
theorem zRP_n {T : Nat} {pl : Nat → Int} {P : zP} {I : aI1} (nb : NB I) : zRP T pl P I I := ⟨fun _ => rfl, fun t l h => absurd h.1 nb⟩
theorem zRP_fa {T : Nat} {pl : Nat → Int} {P : zP} {I I' : aI1} (hf : zFT pl I I') (hp : zPp pl T) (hr : ∀ l, P (I 49 16).toNat l = .inl (I 49 16).toNat) : zRP T pl P I I' := ⟨hf.1, fun t l ⟨a1, a2, a3, a4, a5⟩ => by
  have h1 := hr l
  rw [a2] at h1
  rw [show ((t : Int)).toNat = t from rfl] at h1
  rw [h1]
  exact ⟨a3, by rw [hf.2 a1, a2]; rfl, hp t a3⟩⟩
theorem zRP_br {T : Nat} {c pl : Nat → Int} {P P0 : zP} {cl r9 : Int} {I I1 I2 I3 : aI1} (hb : I 49 18 = -1) (e16 : I1 49 16 = I 49 16 + 1) (e17 : I1 49 17 = I 49 17) (e18 : I1 49 18 = I 49 18) (hT : I 49 15 = T) (hlt : I 49 16 < I 49 15) (h2 : zRP T pl P0 I1 I2) (h3 : zMS c pl r9 T I2 I3) (hcr : r9 = cl) (hr : ∀ l, P (I 49 16).toNat l = zBr (some P0) c cl (I 49 16).toNat l) : zRP T pl P I I3 := ⟨fun g => absurd hb g, fun t l ⟨a1, a2, a3, a4, a5⟩ => by
  subst hcr
  have h1 := hr l
  rw [a2] at h1
  rw [show ((t : Int)).toNat = t from rfl] at h1
  rw [h1]
  have h4 := h2.2 (t + 1) l ⟨by omega, by omega, by omega, by omega, a5⟩
  cases hq : P0 (t + 1) l with
  | inl f =>
    rw [hq] at h4
    rw [zBr_f hq]
    obtain ⟨b1, b2, b3⟩ := h4
    exact ⟨b1, by rw [h3.1 (fun q => by omega)]; exact b2, b3⟩
  | inr q =>
    rw [hq] at h4
    rcases h3.2 q.1 q.2.1 h4 with ⟨g1, g2⟩ | ⟨g1, g2, g3, g4⟩
    · rw [zBr_s hq g1]; exact g2
    · rw [zBr_n hq g1]; exact ⟨g2, g3, g4⟩⟩
theorem zRP_lf {T : Nat} {c vl pl : Nat → Int} {P : zP} {I I' : aI1} {D : zD} (hb : I 49 18 = -1) (hl : zLf6 pl T I I') (hr : ∀ l, P (I 49 16).toNat l = zLe c vl (I 49 16).toNat l) (hD : zLf c vl (I 49 16).toNat = some D) : zRP T pl P I I' := ⟨fun g => absurd hb g, fun t l h => by
  obtain ⟨a1, a2, a3, a4, a5⟩ := id h
  have h1 := hr l
  rw [a2] at h1 hD
  rw [show ((t : Int)).toNat = t from rfl] at h1 hD
  rw [h1]
  rcases hl t l h with ⟨g1, g2⟩ | ⟨g1, g2, g3, g4⟩
  · rw [zLe_s hD g1]; exact g2
  · rw [zLe_f hD g1]; exact ⟨g2, g3, g4⟩⟩
/-- a loop over signs -/
def zLp6 (T : Nat) (c pl : Nat → Int) (P : zP) (ops : List Int) (jn : Int → zD → zD → zD) (I I5 : aI1) : Prop := (NB I → I5 49 18 = I 49 18) ∧ ∀ t l, zFi I T t l → (∃ f, zSeq P ops jn c t l = .inl f ∧ f ≤ T ∧ I5 49 18 = pl f ∧ 0 ≤ pl f) ∨ (∃ (q : Nat × Nat × zD) (n : Nat), zFi I5 T q.1 q.2.1 ∧ 400 ≤ n + q.1 ∧ zSeq P ops jn c t l = zRest P ops jn c n q.1 q.2.1 q.2.2)
theorem zLp6_0 {T : Nat} {c pl : Nat → Int} {P : zP} {ops : List Int} {jn : Int → zD → zD → zD} {I I5 : aI1} (h : zRP T pl P I I5) : zLp6 T c pl P ops jn I I5 := ⟨h.1, fun t l ht => by
  have h1 := h.2 t l ht
  cases hq : P t l with
  | inl f =>
    rw [hq] at h1
    exact Or.inl ⟨f, zSeq_f hq, h1⟩
  | inr q =>
    rw [hq] at h1
    exact Or.inr ⟨q, 400, h1, by omega, zSeq_s hq⟩⟩
theorem zLp6_s {T : Nat} {c pl : Nat → Int} {P : zP} {ops : List Int} {jn : Int → zD → zD → zD} {I I5 I6 I7 : aI1} (h : zLp6 T c pl P ops jn I I5) (hb : I5 49 18 = -1) (hc : c (I5 49 16).toNat ∈ ops) (e16 : I6 49 16 = I5 49 16 + 1) (e17 : I6 49 17 = I5 49 17) (e18 : I6 49 18 = I5 49 18) (hT : I5 49 15 = T) (hlt : I5 49 16 < I5 49 15) (hT4 : T ≤ 400) (h7 : zRP T pl P I6 I7) (hm : I6 49 16 ≤ I7 49 16) : zLp6 T c pl P ops jn I I7 := by
  refine ⟨fun g => ?_, fun t l ht => ?_⟩
  · exfalso
    have h1 := h.1 g
    exact g (by omega)
  · rcases h.2 t l ht with ⟨f, f1, f2, f3, f4⟩ | ⟨q, n, q1, q2, q3⟩
    · omega
    · obtain ⟨a1, a2, a3, a4, a5⟩ := id q1
      rw [a2] at hc
      rw [show ((q.1 : Int)).toNat = q.1 from rfl] at hc
      obtain ⟨m, rfl⟩ : ∃ m, n = m + 1 := ⟨n - 1, by omega⟩
      have h8 := h7.2 (q.1 + 1) q.2.1 ⟨by omega, by omega, by omega, by omega, a5⟩
      cases hp : P (q.1 + 1) q.2.1 with
      | inl f =>
        rw [hp] at h8
        exact Or.inl ⟨f, q3.trans (zRest_f hc hp), h8⟩
      | inr p =>
        rw [hp] at h8
        refine Or.inr ⟨(p.1, p.2.1, jn (c q.1) q.2.2 p.2.2), m, h8, ?_, q3.trans (zRest_s hc hp)⟩
        obtain ⟨d1, d2, d3, d4, d5⟩ := id h8
        omega
theorem zLp6_e {T : Nat} {c pl : Nat → Int} {P : zP} {ops : List Int} {jn : Int → zD → zD → zD} {I I5 I6 : aI1} (h : zLp6 T c pl P ops jn I I5) (e16 : I6 49 16 = I5 49 16) (e17 : I6 49 17 = I5 49 17) (e18 : I6 49 18 = I5 49 18) (ho : I5 49 18 = -1 → ¬ c (I5 49 16).toNat ∈ ops) : zRP T pl (zSeq P ops jn c) I I6 := by
  refine ⟨fun g => e18.trans (h.1 g), fun t l ht => ?_⟩
  rcases h.2 t l ht with ⟨f, f1, f2, f3, f4⟩ | ⟨q, n, q1, q2, q3⟩
  · rw [f1]
    exact ⟨f2, e18.trans f3, f4⟩
  · obtain ⟨a1, a2, a3, a4, a5⟩ := id q1
    have h1 := ho a1
    rw [a2] at h1
    rw [show ((q.1 : Int)).toNat = q.1 from rfl] at h1
    rw [q3, zRest_no h1]
    exact ⟨e18.trans a1, e16.trans a2, a3, e17.trans a4, a5⟩
/-- NOTs -/
def zNL (T : Nat) (c : Nat → Int) (I I2 : aI1) : Prop := (NB I → I2 49 18 = I 49 18) ∧ ∀ t l, zFi I T t l → ∃ (t2 n : Nat) (f : Int), zFi I2 T t2 l ∧ 400 ≤ n + t2 ∧ zNt c n t2 f = zNt c 400 t 0
theorem zNL_0 {T : Nat} {c : Nat → Int} {I : aI1} : zNL T c I I := ⟨fun _ => rfl, fun t l ht => ⟨t, 400, 0, ht, by omega, rfl⟩⟩
theorem zNL_t {T : Nat} {c : Nat → Int} {I I5 I6 : aI1} {x : Int} (h : zNL T c I I5) (hx : 0 ≤ x ∧ x ≤ 1) (ht : TK x c 5 I5 I6) (e17 : I6 49 17 = I5 49 17) (e18 : I6 49 18 = I5 49 18) (hT4 : T ≤ 400) (hle : I6 49 16 ≤ T) : zNL T c I I6 := by
  refine ⟨fun g => e18.trans (h.1 g), fun t l hf => ?_⟩
  obtain ⟨t2, n, f, q1, q2, q3⟩ := h.2 t l hf
  obtain ⟨a1, a2, a3, a4, a5⟩ := id q1
  rcases (show x = 0 ∨ x = 1 by omega) with hx | hx
  · exact ⟨t2, n, f, ⟨e18.trans a1, (TK_0 ht hx).1.trans a2, a3, e17.trans a4, a5⟩, q2, q3⟩
  · obtain ⟨b1, b2, b3⟩ := TK_1 ht hx
    rw [a2] at b2
    rw [show ((t2 : Int)).toNat = t2 from rfl] at b2
    obtain ⟨m, rfl⟩ : ∃ m, n = m + 1 := ⟨n - 1, by omega⟩
    exact ⟨t2 + 1, m, 1 - f, ⟨e18.trans a1, by omega, by omega, e17.trans a4, a5⟩, by omega, by rw [← zNt_s b2]; exact q3⟩
def zNE (T : Nat) (c : Nat → Int) (I I2 : aI1) : Prop := (NB I → I2 49 18 = I 49 18) ∧ ∀ t l, zFi I T t l → ∃ (t2 : Nat) (f : Int), zFi I2 T t2 l ∧ zNt c 400 t 0 = (t2, f)
theorem zNL_e {T : Nat} {c : Nat → Int} {I I2 : aI1} (h : zNL T c I I2) (h5 : NOP c 5 I2) : zNE T c I I2 := ⟨h.1, fun t l hf => by
  obtain ⟨t2, n, f, q1, q2, q3⟩ := h.2 t l hf
  have h1 := h5 q1.1
  rw [q1.2.1] at h1
  rw [show ((t2 : Int)).toNat = t2 from rfl] at h1
  exact ⟨t2, f, q1, by rw [← q3, zNt_n h1]⟩⟩
theorem zQO_fp {T : Nat} {pl : Nat → Int} {I : aI1} {f : Int} {r : zR} (h : zQO T pl I r) : zQO T pl I (zFp f r) := by
  cases r with
  | inl a => exact h
  | inr q => exact h
theorem zRP_pl {T : Nat} {c pl : Nat → Int} {P : Option zP} {S : zP} {I I2 I4 : aI1} (hn : zNE T c I I2) (h : zRP T pl (zPos P S c) I2 I4) : zRP T pl (zPl P S c) I I4 := by
  refine ⟨fun g => (h.1 (fun q => g (by have := hn.1 g; omega))).trans (hn.1 g), fun t l ht => ?_⟩
  obtain ⟨t2, f, q1, q2⟩ := hn.2 t l ht
  rw [zPl_e q2]
  exact zQO_fp (h.2 t2 l q1)
/-- the sign between two SUMS -/
def zSM (c pl : Nat → Int) (T : Nat) (I I' : aI1) : Prop := (NB I → I' 49 18 = I 49 18) ∧ ∀ t l, zFi I T t l → (160 ≤ c t ∧ c t ≤ 162 ∧ zFi I' T (t + 1) l) ∨ (¬ (160 ≤ c t ∧ c t ≤ 162) ∧ t ≤ T ∧ I' 49 18 = pl t ∧ 0 ≤ pl t)
theorem zSM_1 {c pl : Nat → Int} {r : Int} {T : Nat} {I I' : aI1} (h : I 49 18 = -1 ∧ c (I 49 16).toNat = r ∧ I' 49 16 = I 49 16 + 1) (hr : 160 ≤ r ∧ r ≤ 162) (e17 : I' 49 17 = I 49 17) (e18 : I' 49 18 = I 49 18) (hT : I 49 15 = T) (hlt : I 49 16 < I 49 15) : zSM c pl T I I' := by
  obtain ⟨h1, h2, h3⟩ := h
  refine ⟨fun g => absurd h1 g, fun t l ⟨a1, a2, a3, a4, a5⟩ => ?_⟩
  rw [a2] at h2
  rw [show ((t : Int)).toNat = t from rfl] at h2
  exact Or.inl ⟨by omega, by omega, by omega, by omega, by omega, by omega, a5⟩
theorem zSM_k {c pl : Nat → Int} {r9 : Int} {T : Nat} {I I2 I4 : aI1} (z : I2 49 16 = I 49 16) (e17 : I2 49 17 = I 49 17) (e18 : I2 49 18 = I 49 18) (n1 : NOP c 160 I) (n2 : NOP c 162 I) (h : zMS c pl r9 T I2 I4) (hcr : r9 = 161) : zSM c pl T I I4 := by
  subst hcr
  refine ⟨fun g => (h.1 (fun q => g (by omega))).trans e18, fun t l ⟨a1, a2, a3, a4, a5⟩ => ?_⟩
  have h1 := n1 a1
  have h2 := n2 a1
  rw [a2] at h1 h2
  rw [show ((t : Int)).toNat = t from rfl] at h1 h2
  rcases h.2 t l ⟨by omega, by omega, a3, by omega, a5⟩ with ⟨g1, g2⟩ | ⟨g1, g2, g3, g4⟩
  · exact Or.inl ⟨by omega, by omega, g2⟩
  · exact Or.inr ⟨by omega, g2, g3, g4⟩
theorem zRP_cm {T : Nat} {c pl : Nat → Int} {P : Option zP} {S : zP} {I I3 I4 I5 : aI1} (hb : I 49 18 = -1) (h140 : ¬ c (I 49 16).toNat = 140) (h1 : zRP T pl S I I3) (h2 : zSM c pl T I3 I4) (h3 : zRP T pl S I4 I5) : zRP T pl (zPos P S c) I I5 := ⟨fun g => absurd hb g, fun t l h => by
  obtain ⟨a1, a2, a3, a4, a5⟩ := id h
  rw [a2] at h140
  rw [show ((t : Int)).toNat = t from rfl] at h140
  rw [zPos_c h140]
  have h4 := h1.2 t l h
  cases hq : S t l with
  | inl f =>
    rw [hq] at h4
    rw [zCm_f hq]
    obtain ⟨b1, b2, b3⟩ := h4
    have nb3 : NB I3 := fun q => by omega
    have e4 := h2.1 nb3
    have nb4 : NB I4 := fun q => by omega
    exact ⟨b1, by rw [h3.1 nb4, e4]; exact b2, b3⟩
  | inr q =>
    rw [hq] at h4
    rcases h2.2 q.1 q.2.1 h4 with ⟨g1, g0, g2⟩ | ⟨g1, g2, g3, g4⟩
    · have h5 := h3.2 (q.1 + 1) q.2.1 g2
      cases hp : S (q.1 + 1) q.2.1 with
      | inl f =>
        rw [hp] at h5
        rw [zCm_g hq ⟨g1, g0⟩ hp]
        exact h5
      | inr p =>
        rw [hp] at h5
        rw [zCm_s hq ⟨g1, g0⟩ hp]
        exact h5
    · rw [zCm_n hq g1]
      have nb4 : NB I4 := fun q => by omega
      exact ⟨g2, by rw [h3.1 nb4]; exact g3, g4⟩⟩
/-- a clause -/
def zQC (T : Nat) (pl : Nat → Int) (I : aI1) : Nat ⊕ (Nat × Nat × zQ) → Prop
  | .inl f => f ≤ T ∧ I 49 18 = pl f ∧ 0 ≤ pl f
  | .inr q => zFi I T q.1 q.2.1
def zRC (T : Nat) (pl c vl : Nat → Int) (I I' : aI1) : Prop := (NB I → I' 49 18 = I 49 18) ∧ ∀ t l, zFi I T t l → zQC T pl I' (zCl c vl t l)
theorem zRC_n {T : Nat} {pl c vl : Nat → Int} {I I1 I2 I3 : aI1} (h1 : zMS c pl 1 T I I1) (h2 : zRP T pl (zS c vl 8) I1 I2) (z : I3 49 16 = I2 49 16) (e17 : I3 49 17 = I2 49 17) (e18 : I3 49 18 = I2 49 18) (hn : NOP c 2 I2) : zRC T pl c vl I I3 := by
  refine ⟨fun g => ?_, fun t l h => ?_⟩
  · have g1 := h1.1 g
    rw [e18, h2.1 (fun q => g (by omega)), g1]
  · rcases h1.2 t l h with ⟨c1, c2⟩ | ⟨g1, g2, g3, g4⟩
    · have h4 := h2.2 (t + 1) l c2
      cases hq : zS c vl 8 (t + 1) l with
      | inl f =>
        rw [hq] at h4
        rw [zCl_f c1 hq]
        exact ⟨h4.1, e18.trans h4.2.1, h4.2.2⟩
      | inr q =>
        rw [hq] at h4
        obtain ⟨a1, a2, a3, a4, a5⟩ := id h4
        have hn2 := hn a1
        rw [a2] at hn2
        rw [zCl_n c1 hq hn2]
        exact ⟨e18.trans a1, z.trans a2, a3, e17.trans a4, a5⟩
    · rw [zCl_0 g1]
      exact ⟨g2, by rw [e18, h2.1 (fun q => by omega)]; exact g3, g4⟩
theorem zRC_s {T : Nat} {pl c vl : Nat → Int} {I I1 I2 I3 I4 : aI1} (h1 : zMS c pl 1 T I I1) (h2 : zRP T pl (zS c vl 8) I1 I2) (hs : I2 49 18 = -1 ∧ c (I2 49 16).toNat = 2 ∧ I3 49 16 = I2 49 16 + 1) (e17 : I3 49 17 = I2 49 17) (e18 : I3 49 18 = I2 49 18) (hT : I2 49 15 = T) (hlt : I2 49 16 < I2 49 15) (h4 : zRP T pl (zT c vl 8) I3 I4) : zRC T pl c vl I I4 := by
  obtain ⟨s1, s2, s3⟩ := hs
  refine ⟨fun g => ?_, fun t l h => ?_⟩
  · exfalso
    have g1 := h1.1 g
    have g2 := h2.1 (fun q => g (by omega))
    exact g (by omega)
  · rcases h1.2 t l h with ⟨c1, c2⟩ | ⟨g1, g2, g3, g4⟩
    · have h5 := h2.2 (t + 1) l c2
      cases hq : zS c vl 8 (t + 1) l with
      | inl f =>
        rw [hq] at h5
        obtain ⟨b1, b2, b3⟩ := h5
        omega
      | inr q =>
        rw [hq] at h5
        obtain ⟨a1, a2, a3, a4, a5⟩ := id h5
        rw [a2] at s2
        rw [show ((q.1 : Int)).toNat = q.1 from rfl] at s2
        have h6 := h4.2 (q.1 + 1) q.2.1 ⟨by omega, by omega, by omega, by omega, a5⟩
        cases hp : zT c vl 8 (q.1 + 1) q.2.1 with
        | inl f =>
          rw [hp] at h6
          rw [zCl_g c1 hq s2 hp]
          exact h6
        | inr p =>
          rw [hp] at h6
          rw [zCl_s c1 hq s2 hp]
          exact h6
    · exfalso
      have g5 := h2.1 (fun q => by omega)
      omega
