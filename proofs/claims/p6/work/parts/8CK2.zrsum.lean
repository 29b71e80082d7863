/-! the reference's reader: what it reads is what the pure parser tells: places alone -/
def zRL (I : aI1) (vl pl : Nat → Int) (T : Nat) : Prop := I 49 15 = T ∧ T ≤ 400 ∧ ∀ t, t ≤ T → I 58 t = vl t ∧ I 59 t = pl t ∧ 0 ≤ pl t ∧ 0 ≤ vl t ∧ vl t ≤ 10000009
theorem zRL_tr {rs fs : List Nat} {I I' : aI1} {vl pl : Nat → Int} {T : Nat} (h : Ch rs fs I I') (h1 : 15 ∉ fs) (h2 : 58 ∉ rs) (h3 : 59 ∉ rs) (hk : zRL I vl pl T) : zRL I' vl pl T := by
  unfold zRL at hk ⊢
  rw [h.2 15 h1, h.1 58 (by decide) h2, h.1 59 (by decide) h3]
  exact hk
theorem zRL_p {I : aI1} {vl pl : Nat → Int} {T : Nat} (hk : zRL I vl pl T) (hp : PI I) : I 58 (I 49 16).toNat = vl (I 49 16).toNat ∧ I 59 (I 49 16).toNat = pl (I 49 16).toNat ∧ 0 ≤ pl (I 49 16).toNat ∧ 0 ≤ vl (I 49 16).toNat ∧ vl (I 49 16).toNat ≤ 10000009 := by
  have h1 := PI_o hp
  exact hk.2.2 (I 49 16).toNat (by have := hk.1; omega)
theorem zTs_st {f : Nat → Int} {n : Nat} : ∀ (m k t : Nat) (q : Nat × Nat), (zTs f n m k)[t]? = some q → q.2 = zSt f n q.1
  | 0, k, t, q, h => by
    have h9 : (([] : List (Nat × Nat)))[t]? = some q := h
    simp at h9
  | m + 1, k, t, q, h => by
    by_cases hk : k < n
    · by_cases hb : f k = 32
      · have e : zTs f n (m + 1) k = zTs f n m (k + 1) := (if_pos hk).trans (if_pos hb)
        rw [e] at h
        exact zTs_st m (k + 1) t q h
      · have e : zTs f n (m + 1) k = (k, zSt f n k) :: zTs f n m (zSt f n k) := (if_pos hk).trans (if_neg hb)
        rw [e] at h
        cases t with
        | zero =>
          have h9 : (k, zSt f n k) = q := by simpa using h
          rw [← h9]
        | succ t => exact zTs_st m (zSt f n k) t q (by simpa using h)
    · rw [zTs_0 _ _ hk] at h
      simp at h
theorem zVl_r {f : Nat → Int} {n t : Nat} : 0 ≤ zVl f (zTk f n 0) t ∧ zVl f (zTk f n 0) t ≤ 10000009 := by
  cases hq : (zTk f n 0)[t]? with
  | none => rw [zVl_n hq]; exact ⟨Int.le_refl _, by decide⟩
  | some q =>
    rw [zVl_s hq]
    have hst := zTs_st _ 0 t q hq
    by_cases h2 : zKl (f q.1) = 2
    · rw [zVa_2 h2, hst]
      exact zNu_r _ (fun i hi => zKl_2.mp ((zSt_all (n := n) (k := q.1) (by omega) (by omega)).trans h2))
    · rw [zVa_0 h2]; exact ⟨Int.le_refl _, by decide⟩
def zFi (I : aI1) (T t l : Nat) : Prop := I 49 18 = -1 ∧ I 49 16 = t ∧ t ≤ T ∧ I 49 17 = l ∧ l ≤ 50
def zQO (T : Nat) (pl : Nat → Int) (I : aI1) : zR → Prop
  | .inl f => f ≤ T ∧ I 49 18 = pl f ∧ 0 ≤ pl f
  | .inr q => zFi I T q.1 q.2.1
def zRP (T : Nat) (pl : Nat → Int) (P : zP) (I I' : aI1) : Prop := (NB I → I' 49 18 = I 49 18) ∧ ∀ t l, zFi I T t l → zQO T pl I' (P t l)
def zFT (pl : Nat → Int) (I I' : aI1) : Prop := (NB I → I' 49 18 = I 49 18) ∧ (I 49 18 = -1 → I' 49 18 = pl (I 49 16).toNat)
def zMS (c pl : Nat → Int) (r : Int) (T : Nat) (I I' : aI1) : Prop := (NB I → I' 49 18 = I 49 18) ∧ ∀ t l, zFi I T t l → (c t = r ∧ zFi I' T (t + 1) l) ∨ (¬ c t = r ∧ t ≤ T ∧ I' 49 18 = pl t ∧ 0 ≤ pl t)
def zLf6 (pl : Nat → Int) (T : Nat) (I I' : aI1) : Prop := ∀ t l, zFi I T t l → (l < 50 ∧ zFi I' T (t + 1) (l + 1)) ∨ (¬ l < 50 ∧ t ≤ T ∧ I' 49 18 = pl t ∧ 0 ≤ pl t)
def zPp (pl : Nat → Int) (T : Nat) : Prop := ∀ t, t ≤ T → 0 ≤ pl t
theorem zRL_pp {I : aI1} {vl pl : Nat → Int} {T : Nat} (hk : zRL I vl pl T) : zPp pl T := fun t ht => (hk.2.2 t ht).2.2.1
theorem zFT_n {pl : Nat → Int} {I : aI1} (nb : NB I) : zFT pl I I := ⟨fun _ => rfl, fun g => absurd g nb⟩
theorem zFT_f {pl : Nat → Int} {I I' : aI1} (hb : I 49 18 = -1) (h : I' 49 18 = pl (I 49 16).toNat) : zFT pl I I' := ⟨fun g => absurd hb g, fun _ => h⟩
theorem zMS_1 {c pl : Nat → Int} {r : Int} {T : Nat} {I I' : aI1} (h : I 49 18 = -1 ∧ c (I 49 16).toNat = r ∧ I' 49 16 = I 49 16 + 1) (e17 : I' 49 17 = I 49 17) (e18 : I' 49 18 = I 49 18) (hT : I 49 15 = T) (hlt : I 49 16 < I 49 15) : zMS c pl r T I I' := by
  obtain ⟨h1, h2, h3⟩ := h
  refine ⟨fun g => absurd h1 g, fun t l ⟨a1, a2, a3, a4, a5⟩ => Or.inl ⟨?_, by omega, by omega, by omega, by omega, a5⟩⟩
  rw [a2] at h2
  exact h2
theorem zMS_0 {c pl : Nat → Int} {r : Int} {T : Nat} {I I1 I' : aI1} (z : I1 49 16 = I 49 16) (e18 : I1 49 18 = I 49 18) (n : NOP c r I) (hf : zFT pl I1 I') (hp : zPp pl T) : zMS c pl r T I I' := by
  refine ⟨fun g => (hf.1 (fun q => g (by omega))).trans e18, fun t l ⟨a1, a2, a3, a4, a5⟩ => Or.inr ⟨fun q => ?_, a3, ?_, hp t a3⟩⟩
  · have h1 := n a1
    rw [a2] at h1
    exact h1 q
  · rw [hf.2 (by omega), z, a2]
    rfl
theorem zLf6_1 {pl : Nat → Int} {T : Nat} {I I' : aI1} (hne : ∀ l : Nat, I 49 17 = l → l ≤ 50 → ¬ l = 50) (e16 : I' 49 16 = I 49 16 + 1) (e17 : I' 49 17 = I 49 17 + 1) (e18 : I' 49 18 = I 49 18) (hT : I 49 15 = T) (hlt : I 49 16 < I 49 15) : zLf6 pl T I I' := fun t l ⟨a1, a2, a3, a4, a5⟩ => Or.inl ⟨by have h9 := hne l a4 a5; omega, by omega, by omega, by omega, by omega, by have h9 := hne l a4 a5; omega⟩
theorem zLf6_0 {pl : Nat → Int} {T : Nat} {I I1 I' : aI1} (he : ∀ l : Nat, I 49 17 = l → l ≤ 50 → l = 50) (hf : zFT pl I I1) (e18 : I' 49 18 = I1 49 18) (hp : zPp pl T) : zLf6 pl T I I' := fun t l ⟨a1, a2, a3, a4, a5⟩ => Or.inr ⟨by have h9 := he l a4 a5; omega, a3, by rw [e18, hf.2 a1, a2]; rfl, hp t a3⟩
theorem zRP_n {T : Nat} {pl : Nat → Int} {P : zP} {I : aI1} (nb : NB I) : zRP T pl P I I := ⟨fun _ => rfl, fun t l h => absurd h.1 nb⟩
theorem zRP_fa {T : Nat} {pl : Nat → Int} {P : zP} {I I' : aI1} (hf : zFT pl I I') (hp : zPp pl T) (hr : ∀ l, P (I 49 16).toNat l = .inl (I 49 16).toNat) : zRP T pl P I I' := ⟨hf.1, fun t l ⟨a1, a2, a3, a4, a5⟩ => by
  have h1 := hr l
  rw [a2] at h1
  rw [show ((t : Int)).toNat = t from rfl] at h1
  rw [h1]
  exact ⟨a3, by rw [hf.2 a1, a2]; rfl, hp t a3⟩⟩
theorem zRP_br {T : Nat} {c pl : Nat → Int} {P P0 : zP} {cl r9 : Int} {I I1 I2 I3 : aI1} (hb : I 49 18 = -1) (e16 : I1 49 16 = I 49 16 + 1) (e17 : I1 49 17 = I 49 17) (e18 : I1 49 18 = I 49 18) (hT : I 49 15 = T) (hlt : I 49 16 < I 49 15) (h2 : zRP T pl P0 I1 I2) (h3 : zMS c pl r9 T I2 I3) (hcr : r9 = cl) (hr : ∀ l, P (I 49 16).toNat l = zBr (some P0) c cl (I 49 16).toNat l) : zRP T pl P I I3 := ⟨fun g => absurd hb g, fun t l ⟨a1, a2, a3, a4, a5⟩ => by
  subst hcr
  have h1 := hr l
  rw [a2] at h1
  rw [show ((t : Int)).toNat = t from rfl] at h1
  rw [h1]
  have h4 := h2.2 (t + 1) l ⟨by omega, by omega, by omega, by omega, a5⟩
  cases hq : P0 (t + 1) l with
  | inl f =>
    rw [hq] at h4
    rw [zBr_f hq]
    obtain ⟨b1, b2, b3⟩ := h4
    exact ⟨b1, by rw [h3.1 (fun q => by omega)]; exact b2, b3⟩
  | inr q =>
    rw [hq] at h4
    rcases h3.2 q.1 q.2.1 h4 with ⟨g1, g2⟩ | ⟨g1, g2, g3, g4⟩
    · rw [zBr_s hq g1]; exact g2
    · rw [zBr_n hq g1]; exact ⟨g2, g3, g4⟩⟩
theorem zRP_lf {T : Nat} {c vl pl : Nat → Int} {P : zP} {I I' : aI1} {D : zD} (hb : I 49 18 = -1) (hl : zLf6 pl T I I') (hr : ∀ l, P (I 49 16).toNat l = zLe c vl (I 49 16).toNat l) (hD : zLf c vl (I 49 16).toNat = some D) : zRP T pl P I I' := ⟨fun g => absurd hb g, fun t l h => by
  obtain ⟨a1, a2, a3, a4, a5⟩ := id h
  have h1 := hr l
  rw [a2] at h1 hD
  rw [show ((t : Int)).toNat = t from rfl] at h1 hD
  rw [h1]
  rcases hl t l h with ⟨g1, g2⟩ | ⟨g1, g2, g3, g4⟩
  · rw [zLe_s hD g1]; exact g2
  · rw [zLe_f hD g1]; exact ⟨g2, g3, g4⟩⟩
/-- a loop over signs -/
def zLp6 (T : Nat) (c pl : Nat → Int) (P : zP) (ops : List Int) (jn : Int → zD → zD → zD) (I I5 : aI1) : Prop := (NB I → I5 49 18 = I 49 18) ∧ ∀ t l, zFi I T t l → (∃ f, zSeq P ops jn c t l = .inl f ∧ f ≤ T ∧ I5 49 18 = pl f ∧ 0 ≤ pl f) ∨ (∃ (q : Nat × Nat × zD) (n : Nat), zFi I5 T q.1 q.2.1 ∧ 400 ≤ n + q.1 ∧ zSeq P ops jn c t l = zRest P ops jn c n q.1 q.2.1 q.2.2)
theorem zLp6_0 {T : Nat} {c pl : Nat → Int} {P : zP} {ops : List Int} {jn : Int → zD → zD → zD} {I I5 : aI1} (h : zRP T pl P I I5) : zLp6 T c pl P ops jn I I5 := ⟨h.1, fun t l ht => by
  have h1 := h.2 t l ht
  cases hq : P t l with
  | inl f =>
    rw [hq] at h1
    exact Or.inl ⟨f, zSeq_f hq, h1⟩
  | inr q =>
    rw [hq] at h1
    exact Or.inr ⟨q, 400, h1, by omega, zSeq_s hq⟩⟩
theorem zLp6_s {T : Nat} {c pl : Nat → Int} {P : zP} {ops : List Int} {jn : Int → zD → zD → zD} {I I5 I6 I7 : aI1} (h : zLp6 T c pl P ops jn I I5) (hb : I5 49 18 = -1) (hc : c (I5 49 16).toNat ∈ ops) (e16 : I6 49 16 = I5 49 16 + 1) (e17 : I6 49 17 = I5 49 17) (e18 : I6 49 18 = I5 49 18) (hT : I5 49 15 = T) (hlt : I5 49 16 < I5 49 15) (hT4 : T ≤ 400) (h7 : zRP T pl P I6 I7) (hm : I6 49 16 ≤ I7 49 16) : zLp6 T c pl P ops jn I I7 := by
  refine ⟨fun g => ?_, fun t l ht => ?_⟩
  · exfalso
    have h1 := h.1 g
    exact g (by omega)
  · rcases h.2 t l ht with ⟨f, f1, f2, f3, f4⟩ | ⟨q, n, q1, q2, q3⟩
    · omega
    · obtain ⟨a1, a2, a3, a4, a5⟩ := id q1
      rw [a2] at hc
      rw [show ((q.1 : Int)).toNat = q.1 from rfl] at hc
      obtain ⟨m, rfl⟩ : ∃ m, n = m + 1 := ⟨n - 1, by omega⟩
      have h8 := h7.2 (q.1 + 1) q.2.1 ⟨by omega, by omega, by omega, by omega, a5⟩
      cases hp : P (q.1 + 1) q.2.1 with
      | inl f =>
        rw [hp] at h8
        exact Or.inl ⟨f, q3.trans (zRest_f hc hp), h8⟩
      | inr p =>
        rw [hp] at h8
        refine Or.inr ⟨(p.1, p.2.1, jn (c q.1) q.2.2 p.2.2), m, h8, ?_, q3.trans (zRest_s hc hp)⟩
        obtain ⟨d1, d2, d3, d4, d5⟩ := id h8
        omega
theorem zLp6_e {T : Nat} {c pl : Nat → Int} {P : zP} {ops : List Int} {jn : Int → zD → zD → zD} {I I5 I6 : aI1} (h : zLp6 T c pl P ops jn I I5) (e16 : I6 49 16 = I5 49 16) (e17 : I6 49 17 = I5 49 17) (e18 : I6 49 18 = I5 49 18) (ho : I5 49 18 = -1 → ¬ c (I5 49 16).toNat ∈ ops) : zRP T pl (zSeq P ops jn c) I I6 := by
  refine ⟨fun g => e18.trans (h.1 g), fun t l ht => ?_⟩
  rcases h.2 t l ht with ⟨f, f1, f2, f3, f4⟩ | ⟨q, n, q1, q2, q3⟩
  · rw [f1]
    exact ⟨f2, e18.trans f3, f4⟩
  · obtain ⟨a1, a2, a3, a4, a5⟩ := id q1
    have h1 := ho a1
    rw [a2] at h1
    rw [show ((q.1 : Int)).toNat = q.1 from rfl] at h1
    rw [q3, zRest_no h1]
    exact ⟨e18.trans a1, e16.trans a2, a3, e17.trans a4, a5⟩
/-- NOTs -/
def zNL (T : Nat) (c : Nat → Int) (I I2 : aI1) : Prop := (NB I → I2 49 18 = I 49 18) ∧ ∀ t l, zFi I T t l → ∃ (t2 n : Nat) (f : Int), zFi I2 T t2 l ∧ 400 ≤ n + t2 ∧ zNt c n t2 f = zNt c 400 t 0
theorem zNL_0 {T : Nat} {c : Nat → Int} {I : aI1} : zNL T c I I := ⟨fun _ => rfl, fun t l ht => ⟨t, 400, 0, ht, by omega, rfl⟩⟩
theorem zNL_t {T : Nat} {c : Nat → Int} {I I5 I6 : aI1} {x : Int} (h : zNL T c I I5) (hx : 0 ≤ x ∧ x ≤ 1) (ht : TK x c 5 I5 I6) (e17 : I6 49 17 = I5 49 17) (e18 : I6 49 18 = I5 49 18) (hT4 : T ≤ 400) (hle : I6 49 16 ≤ T) : zNL T c I I6 := by
  refine ⟨fun g => e18.trans (h.1 g), fun t l hf => ?_⟩
  obtain ⟨t2, n, f, q1, q2, q3⟩ := h.2 t l hf
  obtain ⟨a1, a2, a3, a4, a5⟩ := id q1
  rcases (show x = 0 ∨ x = 1 by omega) with hx | hx
  · exact ⟨t2, n, f, ⟨e18.trans a1, (TK_0 ht hx).1.trans a2, a3, e17.trans a4, a5⟩, q2, q3⟩
  · obtain ⟨b1, b2, b3⟩ := TK_1 ht hx
    rw [a2] at b2
    rw [show ((t2 : Int)).toNat = t2 from rfl] at b2
    obtain ⟨m, rfl⟩ : ∃ m, n = m + 1 := ⟨n - 1, by omega⟩
    exact ⟨t2 + 1, m, 1 - f, ⟨e18.trans a1, by omega, by omega, e17.trans a4, a5⟩, by omega, by rw [← zNt_s b2]; exact q3⟩
def zNE (T : Nat) (c : Nat → Int) (I I2 : aI1) : Prop := (NB I → I2 49 18 = I 49 18) ∧ ∀ t l, zFi I T t l → ∃ (t2 : Nat) (f : Int), zFi I2 T t2 l ∧ zNt c 400 t 0 = (t2, f)
theorem zNL_e {T : Nat} {c : Nat → Int} {I I2 : aI1} (h : zNL T c I I2) (h5 : NOP c 5 I2) : zNE T c I I2 := ⟨h.1, fun t l hf => by
  obtain ⟨t2, n, f, q1, q2, q3⟩ := h.2 t l hf
  have h1 := h5 q1.1
  rw [q1.2.1] at h1
  rw [show ((t2 : Int)).toNat = t2 from rfl] at h1
  exact ⟨t2, f, q1, by rw [← q3, zNt_n h1]⟩⟩
theorem zQO_fp {T : Nat} {pl : Nat → Int} {I : aI1} {f : Int} {r : zR} (h : zQO T pl I r) : zQO T pl I (zFp f r) := by
  cases r with
  | inl a => exact h
  | inr q => exact h
theorem zRP_pl {T : Nat} {c pl : Nat → Int} {P : Option zP} {S : zP} {I I2 I4 : aI1} (hn : zNE T c I I2) (h : zRP T pl (zPos P S c) I2 I4) : zRP T pl (zPl P S c) I I4 := by
  refine ⟨fun g => (h.1 (fun q => g (by have := hn.1 g; omega))).trans (hn.1 g), fun t l ht => ?_⟩
  obtain ⟨t2, f, q1, q2⟩ := hn.2 t l ht
  rw [zPl_e q2]
  exact zQO_fp (h.2 t2 l q1)
/-- the sign between two SUMS -/
def zSM (c pl : Nat → Int) (T : Nat) (I I' : aI1) : Prop := (NB I → I' 49 18 = I 49 18) ∧ ∀ t l, zFi I T t l → (160 ≤ c t ∧ c t ≤ 162 ∧ zFi I' T (t + 1) l) ∨ (¬ (160 ≤ c t ∧ c t ≤ 162) ∧ t ≤ T ∧ I' 49 18 = pl t ∧ 0 ≤ pl t)
theorem zSM_1 {c pl : Nat → Int} {r : Int} {T : Nat} {I I' : aI1} (h : I 49 18 = -1 ∧ c (I 49 16).toNat = r ∧ I' 49 16 = I 49 16 + 1) (hr : 160 ≤ r ∧ r ≤ 162) (e17 : I' 49 17 = I 49 17) (e18 : I' 49 18 = I 49 18) (hT : I 49 15 = T) (hlt : I 49 16 < I 49 15) : zSM c pl T I I' := by
  obtain ⟨h1, h2, h3⟩ := h
  refine ⟨fun g => absurd h1 g, fun t l ⟨a1, a2, a3, a4, a5⟩ => ?_⟩
  rw [a2] at h2
  rw [show ((t : Int)).toNat = t from rfl] at h2
  exact Or.inl ⟨by omega, by omega, by omega, by omega, by omega, by omega, a5⟩
theorem zSM_k {c pl : Nat → Int} {r9 : Int} {T : Nat} {I I2 I4 : aI1} (z : I2 49 16 = I 49 16) (e17 : I2 49 17 = I 49 17) (e18 : I2 49 18 = I 49 18) (n1 : NOP c 160 I) (n2 : NOP c 162 I) (h : zMS c pl r9 T I2 I4) (hcr : r9 = 161) : zSM c pl T I I4 := by
  subst hcr
  refine ⟨fun g => (h.1 (fun q => g (by omega))).trans e18, fun t l ⟨a1, a2, a3, a4, a5⟩ => ?_⟩
  have h1 := n1 a1
  have h2 := n2 a1
  rw [a2] at h1 h2
  rw [show ((t : Int)).toNat = t from rfl] at h1 h2
  rcases h.2 t l ⟨by omega, by omega, a3, by omega, a5⟩ with ⟨g1, g2⟩ | ⟨g1, g2, g3, g4⟩
  · exact Or.inl ⟨by omega, by omega, g2⟩
  · exact Or.inr ⟨by omega, g2, g3, g4⟩
theorem zRP_cm {T : Nat} {c pl : Nat → Int} {P : Option zP} {S : zP} {I I3 I4 I5 : aI1} (hb : I 49 18 = -1) (h140 : ¬ c (I 49 16).toNat = 140) (h1 : zRP T pl S I I3) (h2 : zSM c pl T I3 I4) (h3 : zRP T pl S I4 I5) : zRP T pl (zPos P S c) I I5 := ⟨fun g => absurd hb g, fun t l h => by
  obtain ⟨a1, a2, a3, a4, a5⟩ := id h
  rw [a2] at h140
  rw [show ((t : Int)).toNat = t from rfl] at h140
  rw [zPos_c h140]
  have h4 := h1.2 t l h
  cases hq : S t l with
  | inl f =>
    rw [hq] at h4
    rw [zCm_f hq]
    obtain ⟨b1, b2, b3⟩ := h4
    have nb3 : NB I3 := fun q => by omega
    have e4 := h2.1 nb3
    have nb4 : NB I4 := fun q => by omega
    exact ⟨b1, by rw [h3.1 nb4, e4]; exact b2, b3⟩
  | inr q =>
    rw [hq] at h4
    rcases h2.2 q.1 q.2.1 h4 with ⟨g1, g0, g2⟩ | ⟨g1, g2, g3, g4⟩
    · have h5 := h3.2 (q.1 + 1) q.2.1 g2
      cases hp : S (q.1 + 1) q.2.1 with
      | inl f =>
        rw [hp] at h5
        rw [zCm_g hq ⟨g1, g0⟩ hp]
        exact h5
      | inr p =>
        rw [hp] at h5
        rw [zCm_s hq ⟨g1, g0⟩ hp]
        exact h5
    · rw [zCm_n hq g1]
      have nb4 : NB I4 := fun q => by omega
      exact ⟨g2, by rw [h3.1 nb4]; exact g3, g4⟩⟩
/-- a clause -/
def zQC (T : Nat) (pl : Nat → Int) (I : aI1) : Nat ⊕ (Nat × Nat × zQ) → Prop
  | .inl f => f ≤ T ∧ I 49 18 = pl f ∧ 0 ≤ pl f
  | .inr q => zFi I T q.1 q.2.1
def zRC (T : Nat) (pl c vl : Nat → Int) (I I' : aI1) : Prop := (NB I → I' 49 18 = I 49 18) ∧ ∀ t l, zFi I T t l → zQC T pl I' (zCl c vl t l)
theorem zRC_n {T : Nat} {pl c vl : Nat → Int} {I I1 I2 I3 : aI1} (h1 : zMS c pl 1 T I I1) (h2 : zRP T pl (zS c vl 8) I1 I2) (z : I3 49 16 = I2 49 16) (e17 : I3 49 17 = I2 49 17) (e18 : I3 49 18 = I2 49 18) (hn : NOP c 2 I2) : zRC T pl c vl I I3 := by
  refine ⟨fun g => ?_, fun t l h => ?_⟩
  · have g1 := h1.1 g
    rw [e18, h2.1 (fun q => g (by omega)), g1]
  · rcases h1.2 t l h with ⟨c1, c2⟩ | ⟨g1, g2, g3, g4⟩
    · have h4 := h2.2 (t + 1) l c2
      cases hq : zS c vl 8 (t + 1) l with
      | inl f =>
        rw [hq] at h4
        rw [zCl_f c1 hq]
        exact ⟨h4.1, e18.trans h4.2.1, h4.2.2⟩
      | inr q =>
        rw [hq] at h4
        obtain ⟨a1, a2, a3, a4, a5⟩ := id h4
        have hn2 := hn a1
        rw [a2] at hn2
        rw [zCl_n c1 hq hn2]
        exact ⟨e18.trans a1, z.trans a2, a3, e17.trans a4, a5⟩
    · rw [zCl_0 g1]
      exact ⟨g2, by rw [e18, h2.1 (fun q => by omega)]; exact g3, g4⟩
theorem zRC_s {T : Nat} {pl c vl : Nat → Int} {I I1 I2 I3 I4 : aI1} (h1 : zMS c pl 1 T I I1) (h2 : zRP T pl (zS c vl 8) I1 I2) (hs : I2 49 18 = -1 ∧ c (I2 49 16).toNat = 2 ∧ I3 49 16 = I2 49 16 + 1) (e17 : I3 49 17 = I2 49 17) (e18 : I3 49 18 = I2 49 18) (hT : I2 49 15 = T) (hlt : I2 49 16 < I2 49 15) (h4 : zRP T pl (zT c vl 8) I3 I4) : zRC T pl c vl I I4 := by
  obtain ⟨s1, s2, s3⟩ := hs
  refine ⟨fun g => ?_, fun t l h => ?_⟩
  · exfalso
    have g1 := h1.1 g
    have g2 := h2.1 (fun q => g (by omega))
    exact g (by omega)
  · rcases h1.2 t l h with ⟨c1, c2⟩ | ⟨g1, g2, g3, g4⟩
    · have h5 := h2.2 (t + 1) l c2
      cases hq : zS c vl 8 (t + 1) l with
      | inl f =>
        rw [hq] at h5
        obtain ⟨b1, b2, b3⟩ := h5
        omega
      | inr q =>
        rw [hq] at h5
        obtain ⟨a1, a2, a3, a4, a5⟩ := id h5
        rw [a2] at s2
        rw [show ((q.1 : Int)).toNat = q.1 from rfl] at s2
        have h6 := h4.2 (q.1 + 1) q.2.1 ⟨by omega, by omega, by omega, by omega, a5⟩
        cases hp : zT c vl 8 (q.1 + 1) q.2.1 with
        | inl f =>
          rw [hp] at h6
          rw [zCl_g c1 hq s2 hp]
          exact h6
        | inr p =>
          rw [hp] at h6
          rw [zCl_s c1 hq s2 hp]
          exact h6
    · exfalso
      have g5 := h2.1 (fun q => by omega)
      omega
set_option maxHeartbeats 4000000 in
set_option maxRecDepth 20000 in
theorem c6_X11_faults (l0 : Launch) {Ia Ja : aI1} {Ra : aR1} {Sa : aS1} (hL : LY Ra Sa) (hQ : RX Ia) (hP : PI Ia) {vl pl : Nat → Int} {T : Nat} (hk : zRL Ia vl pl T)  : CT l0 1 0 0 mX11_faults [kR (some 49)] Ia Ja Ra Sa (cV (fun I' J' => Ch [] [18] Ia I' ∧ Kp 49 73 Ja J' ∧ RX I' ∧ PI I' ∧ I' 49 16 = Ia 49 16 ∧ I' 49 17 = Ia 49 17 ∧ zFT pl Ia I') Ra Sa) := by
  refine ct_in pn_X11 (Nat.le_of_ble_eq_true rfl) (fun X hX hT hIn => ?_)
  have hX : aK l0 X cX11_faults 1 RX11 none 1 0 0 := hX
  change WW X 0 [some (kR (some 49))] [] Ia Ja Ra Sa 0 0
  have qIa := RX_w hQ
  have oIa := PI_o hP
  have tIa := PI_t hP
  refine ww_aload_n hX (pc := 0) dX11_faults_0 rfl ?_
  refine vI0 hX (pc := 1) sX11_158 (xs_49 hL) (c_X11_fine l0 hL hQ  hP) (by decide) (Nat.le_refl 0) (Nat.le_refl 0) (Nat.le_of_ble_eq_true rfl) dX11_faults_1 (fun x_1 I_1 J_1 h_1 => ?_)
  obtain ⟨rfl, rfl, h_1⟩ := h_1
  refine ww_if_eq hX (pc := 4) (tgt := 20) dX11_faults_4 (by decide) (fun h_4 => ?_) (fun h_4 => ?_)
  · simp only [w32_mod] at h_4
    have nb := FN_0 h_1.2 (by omega)
    refine rV hX (pc := 20) hT (Nat.le_refl 0) (Nat.le_refl 0) dX11_faults_20 ?_
    exact ⟨Ch_rf, (Kp_rf (a := 49) (b := 73)), hQ, hP, by omega, by omega, zFT_n nb⟩
  · simp only [w32_mod] at h_4
    have bb := FN_1 h_1.2 (by omega)
    refine ww_aload_n hX (pc := 7) dX11_faults_7 rfl ?_
    refine ww_aload_n hX (pc := 8) dX11_faults_8 rfl ?_
    refine ww_getR hX (pc := 9) fX11_49 (by decide) (xs_49 hL) (xr_49_14 hL) dX11_faults_9 ?_
    refine ww_aload_n hX (pc := 12) dX11_faults_12 rfl ?_
    refine ww_getI hX (pc := 13) fX11_162 (by decide) (xs_49 hL) dX11_faults_13 ?_
    refine ww_iald hX (pc := 16) (xs_59 hL) (by decide) (by omega) (by omega) dX11_faults_16 ?_
    refine ww_putI hX (pc := 17) (fun h9 => absurd h9 (by decide)) gX11_155 rfl (xs_49 hL) dX11_faults_17 ?_
    refine ww_nmH (fun I_17 eI_17 => ?_)
    have kI_17 : Ch [] [18] Ia I_17 := by rw [eI_17]; exact Ch_f Ch_rf (by decide)
    have cI_17 : RX I_17 := by rw [eI_17]; exact RX_f hQ (by decide)
    have qI_17 := RX_w cI_17
    have f15_I_17 : I_17 49 15 = Ia 49 15 := by rw [eI_17, up2_n _ _ (Or.inr (by decide))]
    have f16_I_17 : I_17 49 16 = Ia 49 16 := by rw [eI_17, up2_n _ _ (Or.inr (by decide))]
    have f17_I_17 : I_17 49 17 = Ia 49 17 := by rw [eI_17, up2_n _ _ (Or.inr (by decide))]
    have w18 : I_17 49 18 = Ia 59 (Ia 49 16).toNat := by rw [eI_17, up2_s]
    have pI_17 : PI I_17 := by rw [eI_17]; exact PI_f hP (by decide) (fun h => absurd h (by decide)) (fun _ => ⟨by omega, by omega⟩)
    have oI_17 := PI_o pI_17
    refine rV hX (pc := 20) hT (Nat.le_refl 0) (Nat.le_refl 0) dX11_faults_20 ?_
    exact ⟨kI_17, (Kp_rf (a := 49) (b := 73)), cI_17, pI_17, by omega, by omega, zFT_f bb (w18.trans (zRL_p hk hP).2.1)⟩
set_option maxHeartbeats 4000000 in
set_option maxRecDepth 20000 in
theorem c6_X11_must (l0 : Launch) {Ia Ja : aI1} {Ra : aR1} {Sa : aS1} (hL : LY Ra Sa) (hQ : RX Ia) {r : Int} (hP : PI Ia) {c : Nat → Int} (hc : pvw Ia = c) {vl pl : Nat → Int} {T : Nat} (hk : zRL Ia vl pl T) (hr0 : 1 ≤ r) (hr1 : r ≤ 400)  : CT l0 2 0 0 mX11_must [kR (some 49), kI r] Ia Ja Ra Sa (cV (fun I' J' => Ch [] [16, 18] Ia I' ∧ Kp 49 73 Ja J' ∧ RX I' ∧ PI I' ∧ Ia 49 16 ≤ I' 49 16 ∧ zMS c pl r T Ia I') Ra Sa) := by
  refine ct_in pn_X11 (Nat.le_of_ble_eq_true rfl) (fun X hX hT hIn => ?_)
  have hX : aK l0 X cX11_must 2 RX11 none 2 0 0 := hX
  change WW X 0 [some (kR (some 49)), some (kI r)] [] Ia Ja Ra Sa 0 0
  have qIa := RX_w hQ
  have oIa := PI_o hP
  have tIa := PI_t hP
  have atIa := pvw_at hP hc
  refine ww_aload_n hX (pc := 0) dX11_must_0 rfl ?_
  refine ww_iload_n hX (pc := 1) dX11_must_1 rfl ?_
  refine vI1 hX (pc := 2) sX11_165 (xs_49 hL) (c_X11_takes0 l0 hL hQ  hP hc (by omega) (by omega)) (by decide) (Nat.le_refl 0) (Nat.le_refl 0) (Nat.le_of_ble_eq_true rfl) dX11_must_2 (fun x_2 I_2 J_2 h_2 => ?_)
  have kJ_2 : Kp 49 73 Ja J_2 := Kp_tr (Kp_rf (a := 49) (b := 73)) h_2.2.1
  have kI_2 : Ch [] [16, 18] Ia I_2 := Ch_tr Ch_rf (Ch_wd h_2.1 (by decide) (by decide))
  have cI_2 : RX I_2 := h_2.2.2.1
  have qI_2 := RX_w cI_2
  have f15_I_2 : I_2 49 15 = Ia 49 15 := h_2.1.2 15 (by decide)
  have f17_I_2 : I_2 49 17 = Ia 49 17 := h_2.1.2 17 (by decide)
  have f18_I_2 : I_2 49 18 = Ia 49 18 := h_2.1.2 18 (by decide)
  have pI_2 : PI I_2 := h_2.2.2.2.1
  have oI_2 := PI_o pI_2
  have yI_2 := h_2.2.2.2.2
  refine ww_if_ne hX (pc := 5) (tgt := 12) dX11_must_5 (by decide) (fun h_5 => ?_) (fun h_5 => ?_)
  · simp only [w32_mod] at h_5
    have s2 := TK_1 yI_2.2.2.2 (by omega)
    refine rV hX (pc := 12) hT (Nat.le_refl 0) (Nat.le_refl 0) dX11_must_12 ?_
    exact ⟨kI_2, kJ_2, cI_2, pI_2, by omega, zMS_1 s2 f17_I_2 (by omega) hk.1 (PI_lt hP (by have h8 := s2.2.1; omega))⟩
  · simp only [w32_mod] at h_5
    obtain ⟨z2, n2⟩ := TK_0 yI_2.2.2.2 (by omega)
    refine ww_aload_n hX (pc := 8) dX11_must_8 rfl ?_
    refine vV0 hX (pc := 9) sX11_168 (xs_49 hL) (c6_X11_faults l0 hL cI_2  pI_2 (zRL_tr kI_2 (by decide) (by decide) (by decide) hk)) (by decide) (Nat.le_refl 0) (Nat.le_refl 0) (Nat.le_of_ble_eq_true rfl) dX11_must_9 (fun I_9 J_9 h_9 => ?_)
    have kJ_9 : Kp 49 73 Ja J_9 := Kp_tr kJ_2 h_9.2.1
    have kI_9 : Ch [] [16, 18] Ia I_9 := Ch_tr kI_2 (Ch_wd h_9.1 (by decide) (by decide))
    have cI_9 : RX I_9 := h_9.2.2.1
    have qI_9 := RX_w cI_9
    have f15_I_9 : I_9 49 15 = I_2 49 15 := h_9.1.2 15 (by decide)
    have f16_I_9 : I_9 49 16 = I_2 49 16 := h_9.1.2 16 (by decide)
    have f17_I_9 : I_9 49 17 = I_2 49 17 := h_9.1.2 17 (by decide)
    have pI_9 : PI I_9 := h_9.2.2.2.1
    have oI_9 := PI_o pI_9
    have yI_9 := h_9.2.2.2.2
    refine rV hX (pc := 12) hT (Nat.le_refl 0) (Nat.le_refl 0) dX11_must_12 ?_
    exact ⟨kI_9, kJ_9, cI_9, pI_9, by omega, zMS_0 z2 (by omega) n2 yI_9.2.2 (zRL_pp hk)⟩
set_option maxHeartbeats 4000000 in
set_option maxRecDepth 20000 in
theorem c6_X11_leaf (l0 : Launch) {Ia Ja : aI1} {Ra : aR1} {Sa : aS1} (hL : LY Ra Sa) (hQ : RX Ia) (hP : PI Ia) {vl pl : Nat → Int} {T : Nat} (hk : zRL Ia vl pl T) (hz : 1 ≤ Ia 57 (Ia 49 16).toNat) (hb : Ia 49 18 = -1)  : CT l0 2 0 0 mX11_leaf [kR (some 49)] Ia Ja Ra Sa (cV (fun I' J' => Ch [] [16, 17, 18] Ia I' ∧ Kp 49 73 Ja J' ∧ RX I' ∧ PI I' ∧ Ia 49 16 ≤ I' 49 16 ∧ zLf6 pl T Ia I') Ra Sa) := by
  refine ct_in pn_X11 (Nat.le_of_ble_eq_true rfl) (fun X hX hT hIn => ?_)
  have hX : aK l0 X cX11_leaf 1 RX11 none 2 0 0 := hX
  change WW X 0 [some (kR (some 49))] [] Ia Ja Ra Sa 0 0
  have qIa := RX_w hQ
  have oIa := PI_o hP
  have tIa := PI_t hP
  refine ww_aload_n hX (pc := 0) dX11_leaf_0 rfl ?_
  refine ww_getI hX (pc := 1) fX11_171 (by decide) (xs_49 hL) dX11_leaf_1 ?_
  refine ww_bipush hX (pc := 4) (x := 50) dX11_leaf_4 (by decide) ?_
  refine ww_icmp_ne hX (pc := 6) (tgt := 13) dX11_leaf_6 (by decide) (fun h_6 => ?_) (fun h_6 => ?_)
  · simp only [w32_mod] at h_6
    refine ww_aload_n hX (pc := 13) dX11_leaf_13 rfl ?_
    refine ww_dupR hX (pc := 14) dX11_leaf_14 ?_
    refine ww_getI hX (pc := 15) fX11_171 (by decide) (xs_49 hL) dX11_leaf_15 ?_
    refine ww_iconst hX (pc := 18) (x := 1) dX11_leaf_18 rfl ?_
    refine ww_iadd hX (pc := 19) dX11_leaf_19 ?_
    refine ww_putI hX (pc := 20) (fun h9 => absurd h9 (by decide)) gX11_171 rfl (xs_49 hL) dX11_leaf_20 ?_
    refine ww_nmH (fun I_20 eI_20 => ?_)
    have kI_20 : Ch [] [16, 17, 18] Ia I_20 := by rw [eI_20]; exact Ch_f Ch_rf (by decide)
    have cI_20 : RX I_20 := by rw [eI_20]; exact RX_f hQ (by decide)
    have qI_20 := RX_w cI_20
    have f15_I_20 : I_20 49 15 = Ia 49 15 := by rw [eI_20, up2_n _ _ (Or.inr (by decide))]
    have f16_I_20 : I_20 49 16 = Ia 49 16 := by rw [eI_20, up2_n _ _ (Or.inr (by decide))]
    have f18_I_20 : I_20 49 18 = Ia 49 18 := by rw [eI_20, up2_n _ _ (Or.inr (by decide))]
    have w17 : I_20 49 17 = Ia 49 17 + 1 := by rw [eI_20, up2_s]
    have h57 : I_20 57 = Ia 57 := by rw [eI_20, up2_off _ _ _ (by decide)]
    have hpv : Ia 57 = Ia 57 := rfl
    have hz2 : 1 ≤ I_20 57 (I_20 49 16).toNat := by rw [h57, hpv, show I_20 49 16 = Ia 49 16 by omega]; exact hz
    have pI_20 : PI I_20 := by rw [eI_20]; exact PI_f hP (by decide) (fun h => absurd h (by decide)) (fun h => absurd h (by decide))
    have oI_20 := PI_o pI_20
    refine ww_aload_n hX (pc := 23) dX11_leaf_23 rfl ?_
    refine vI0 hX (pc := 24) sX11_158 (xs_49 hL) (c_X11_fine l0 hL cI_20  pI_20) (by decide) (Nat.le_refl 0) (Nat.le_refl 0) (Nat.le_of_ble_eq_true rfl) dX11_leaf_24 (fun x_24 I_24 J_24 h_24 => ?_)
    obtain ⟨rfl, rfl, h_24⟩ := h_24
    refine ww_if_eq hX (pc := 27) (tgt := 40) dX11_leaf_27 (by decide) (fun h_27 => ?_) (fun h_27 => ?_)
    · simp only [w32_mod] at h_27
      exfalso
      exact FN_0 h_24.2 (by omega) (by omega)
    · simp only [w32_mod] at h_27
      have bb := FN_1 h_24.2 (by omega)
      refine ww_aload_n hX (pc := 30) dX11_leaf_30 rfl ?_
      refine ww_dupR hX (pc := 31) dX11_leaf_31 ?_
      refine ww_getI hX (pc := 32) fX11_162 (by decide) (xs_49 hL) dX11_leaf_32 ?_
      refine ww_iconst hX (pc := 35) (x := 1) dX11_leaf_35 rfl ?_
      refine ww_iadd hX (pc := 36) dX11_leaf_36 ?_
      refine ww_putI hX (pc := 37) (fun h9 => absurd h9 (by decide)) gX11_162 rfl (xs_49 hL) dX11_leaf_37 ?_
      have lt37 := PI_lt pI_20 (by omega)
      refine ww_nmH (fun I_37 eI_37 => ?_)
      have kI_37 : Ch [] [16, 17, 18] Ia I_37 := by rw [eI_37]; exact Ch_f kI_20 (by decide)
      have cI_37 : RX I_37 := by rw [eI_37]; exact RX_f cI_20 (by decide)
      have qI_37 := RX_w cI_37
      have f15_I_37 : I_37 49 15 = I_20 49 15 := by rw [eI_37, up2_n _ _ (Or.inr (by decide))]
      have f17_I_37 : I_37 49 17 = I_20 49 17 := by rw [eI_37, up2_n _ _ (Or.inr (by decide))]
      have f18_I_37 : I_37 49 18 = I_20 49 18 := by rw [eI_37, up2_n _ _ (Or.inr (by decide))]
      have w16 : I_37 49 16 = I_20 49 16 + 1 := by rw [eI_37, up2_s]
      have pI_37 : PI I_37 := by rw [eI_37]; exact PI_f pI_20 (by decide) (fun _ => ⟨by omega, by omega⟩) (fun h => absurd h (by decide))
      have oI_37 := PI_o pI_37
      refine rV hX (pc := 40) hT (Nat.le_refl 0) (Nat.le_refl 0) dX11_leaf_40 ?_
      exact ⟨kI_37, (Kp_rf (a := 49) (b := 73)), cI_37, pI_37, by omega, zLf6_1 (fun l9 g1 g2 g3 => by omega) (by omega) (by omega) (by omega) hk.1 (PI_lt hP hz)⟩
  · simp only [w32_mod] at h_6
    refine ww_aload_n hX (pc := 9) dX11_leaf_9 rfl ?_
    refine vV0 hX (pc := 10) sX11_168 (xs_49 hL) (c6_X11_faults l0 hL hQ  hP hk) (by decide) (Nat.le_refl 0) (Nat.le_refl 0) (Nat.le_of_ble_eq_true rfl) dX11_leaf_10 (fun I_10 J_10 h_10 => ?_)
    have kJ_10 : Kp 49 73 Ja J_10 := Kp_tr (Kp_rf (a := 49) (b := 73)) h_10.2.1
    have kI_10 : Ch [] [16, 17, 18] Ia I_10 := Ch_tr Ch_rf (Ch_wd h_10.1 (by decide) (by decide))
    have cI_10 : RX I_10 := h_10.2.2.1
    have qI_10 := RX_w cI_10
    have f15_I_10 : I_10 49 15 = Ia 49 15 := h_10.1.2 15 (by decide)
    have f16_I_10 : I_10 49 16 = Ia 49 16 := h_10.1.2 16 (by decide)
    have f17_I_10 : I_10 49 17 = Ia 49 17 := h_10.1.2 17 (by decide)
    have pI_10 : PI I_10 := h_10.2.2.2.1
    have oI_10 := PI_o pI_10
    have yI_10 := h_10.2.2.2.2
    refine ww_aload_n hX (pc := 13) dX11_leaf_13 rfl ?_
    refine ww_dupR hX (pc := 14) dX11_leaf_14 ?_
    refine ww_getI hX (pc := 15) fX11_171 (by decide) (xs_49 hL) dX11_leaf_15 ?_
    refine ww_iconst hX (pc := 18) (x := 1) dX11_leaf_18 rfl ?_
    refine ww_iadd hX (pc := 19) dX11_leaf_19 ?_
    refine ww_putI hX (pc := 20) (fun h9 => absurd h9 (by decide)) gX11_171 rfl (xs_49 hL) dX11_leaf_20 ?_
    refine ww_nmH (fun I_20 eI_20 => ?_)
    have kI_20 : Ch [] [16, 17, 18] Ia I_20 := by rw [eI_20]; exact Ch_f kI_10 (by decide)
    have cI_20 : RX I_20 := by rw [eI_20]; exact RX_f cI_10 (by decide)
    have qI_20 := RX_w cI_20
    have f15_I_20 : I_20 49 15 = I_10 49 15 := by rw [eI_20, up2_n _ _ (Or.inr (by decide))]
    have f16_I_20 : I_20 49 16 = I_10 49 16 := by rw [eI_20, up2_n _ _ (Or.inr (by decide))]
    have f18_I_20 : I_20 49 18 = I_10 49 18 := by rw [eI_20, up2_n _ _ (Or.inr (by decide))]
    have w17 : I_20 49 17 = I_10 49 17 + 1 := by rw [eI_20, up2_s]
    have h57 : I_20 57 = I_10 57 := by rw [eI_20, up2_off _ _ _ (by decide)]
    have hpv : I_10 57 = Ia 57 := h_10.1.1 57 (by decide) (by decide)
    have hz2 : 1 ≤ I_20 57 (I_20 49 16).toNat := by rw [h57, hpv, show I_20 49 16 = Ia 49 16 by omega]; exact hz
    have pI_20 : PI I_20 := by rw [eI_20]; exact PI_f pI_10 (by decide) (fun h => absurd h (by decide)) (fun h => absurd h (by decide))
    have oI_20 := PI_o pI_20
    refine ww_aload_n hX (pc := 23) dX11_leaf_23 rfl ?_
    refine vI0 hX (pc := 24) sX11_158 (xs_49 hL) (c_X11_fine l0 hL cI_20  pI_20) (by decide) (Nat.le_refl 0) (Nat.le_refl 0) (Nat.le_of_ble_eq_true rfl) dX11_leaf_24 (fun x_24 I_24 J_24 h_24 => ?_)
    obtain ⟨rfl, rfl, h_24⟩ := h_24
    refine ww_if_eq hX (pc := 27) (tgt := 40) dX11_leaf_27 (by decide) (fun h_27 => ?_) (fun h_27 => ?_)
    · simp only [w32_mod] at h_27
      refine rV hX (pc := 40) hT (Nat.le_refl 0) (Nat.le_refl 0) dX11_leaf_40 ?_
      exact ⟨kI_20, kJ_10, cI_20, pI_20, by omega, zLf6_0 (fun l9 g1 g2 => by omega) yI_10.2.2 (by omega) (zRL_pp hk)⟩
    · simp only [w32_mod] at h_27
      have bb := FN_1 h_24.2 (by omega)
      exfalso
      have h8 := yI_10.2.2.2 hb
      have h7 := (zRL_p hk hP).2.2.1
      omega
def URSum (l0 : Launch) (m : Nat) : Prop := ∀ {Ia Ja : aI1} {Ra : aR1} {Sa : aS1}, LY Ra Sa → RX Ia → PI Ia → ∀ {c : Nat → Int}, pvw Ia = c → ∀ {vl pl : Nat → Int} {T : Nat}, zRL Ia vl pl T → CT l0 (3 * m + 5) 0 0 mX11_readSum [kR (some 49), kI (8 - (m : Int))] Ia Ja Ra Sa (cV (fun I' J' => Ch [] [16, 17, 18] Ia I' ∧ Kp 49 73 Ja J' ∧ RX I' ∧ PI I' ∧ zRP T pl (zS c vl m) Ia I' ∧ Ia 49 16 ≤ I' 49 16) Ra Sa)
def URTest (l0 : Launch) (m : Nat) : Prop := ∀ {Ia Ja : aI1} {Ra : aR1} {Sa : aS1}, LY Ra Sa → RX Ia → PI Ia → ∀ {c : Nat → Int}, pvw Ia = c → ∀ {vl pl : Nat → Int} {T : Nat}, zRL Ia vl pl T → CT l0 (3 * m + 8) 0 0 mX11_readTest [kR (some 49), kI (8 - (m : Int))] Ia Ja Ra Sa (cV (fun I' J' => Ch [] [16, 17, 18] Ia I' ∧ Kp 49 73 Ja J' ∧ RX I' ∧ PI I' ∧ zRP T pl (zT c vl m) Ia I' ∧ Ia 49 16 ≤ I' 49 16) Ra Sa)
set_option maxHeartbeats 4000000 in
set_option maxRecDepth 20000 in
theorem c6_X11_readPart (l0 : Launch) {Ia Ja : aI1} {Ra : aR1} {Sa : aS1} (hL : LY Ra Sa) (hQ : RX Ia) (hP : PI Ia) {c : Nat → Int} (hc : pvw Ia = c) {vl pl : Nat → Int} {T : Nat} (hk : zRL Ia vl pl T) {m : Nat} (hm : m ≤ 8) (hrec : ∀ mp, m = mp + 1 → URSum l0 mp)  : CT l0 (3 * m + 3) 0 0 mX11_readPart [kR (some 49), kI (8 - (m : Int))] Ia Ja Ra Sa (cV (fun I' J' => Ch [] [16, 17, 18] Ia I' ∧ Kp 49 73 Ja J' ∧ RX I' ∧ PI I' ∧ zRP T pl (zPart (zSu c vl m) c vl) Ia I' ∧ Ia 49 16 ≤ I' 49 16) Ra Sa) := by
  refine ct_in pn_X11 (Nat.le_of_ble_eq_true rfl) (fun X hX hT hIn => ?_)
  have hX : aK l0 X cX11_readPart 3 RX11 none (3 * m + 3) 0 0 := hX
  change WW X 0 [some (kR (some 49)), some (kI (8 - (m : Int))), none] [] Ia Ja Ra Sa 0 0
  have qIa := RX_w hQ
  have oIa := PI_o hP
  have tIa := PI_t hP
  have atIa := pvw_at hP hc
  refine ww_aload_n hX (pc := 0) dX11_readPart_0 rfl ?_
  refine vI0 hX (pc := 1) sX11_158 (xs_49 hL) (c_X11_fine l0 hL hQ  hP) (by omega) (Nat.le_refl 0) (Nat.le_refl 0) (Nat.le_of_ble_eq_true rfl) dX11_readPart_1 (fun x_1 I_1 J_1 h_1 => ?_)
  obtain ⟨rfl, rfl, h_1⟩ := h_1
  refine ww_if_ne hX (pc := 4) (tgt := 8) dX11_readPart_4 (by decide) (fun h_4 => ?_) (fun h_4 => ?_)
  · simp only [w32_mod] at h_4
    have bb1 := FN_1 h_1.2 (by omega)
    obtain ⟨hvl, -, -, hvl0, hvl1⟩ := zRL_p hk hP
    refine ww_aload_n hX (pc := 8) dX11_readPart_8 rfl ?_
    refine ww_getR hX (pc := 9) fX11_43 (by decide) (xs_49 hL) (xr_49_12 hL) dX11_readPart_9 ?_
    refine ww_aload_n hX (pc := 12) dX11_readPart_12 rfl ?_
    refine ww_getI hX (pc := 13) fX11_162 (by decide) (xs_49 hL) dX11_readPart_13 ?_
    refine ww_iald hX (pc := 16) (xs_57 hL) (by decide) (by omega) (by omega) dX11_readPart_16 ?_
    refine ww_nmI (fun v_17 hv_17 => ?_)
    refine ww_istore_n hX (pc := 17) (lv' := [some (kR (some 49)), some (kI (8 - (m : Int))), some (kI v_17)]) dX11_readPart_17 (by decide) rfl rfl ?_
    refine ww_iload_n hX (pc := 18) dX11_readPart_18 rfl ?_
    refine ww_bipush hX (pc := 19) (x := 91) dX11_readPart_19 (by decide) ?_
    refine sI1 hX (pc := 21) sX11_190 (c_X11_sign l0 ) (by omega) (Nat.le_refl 0) (Nat.le_refl 0) (Nat.le_of_ble_eq_true rfl) dX11_readPart_21 (fun x_21 I_21 J_21 h_21 => ?_)
    obtain ⟨rfl, rfl, h_21⟩ := h_21
    refine ww_icmp_ne hX (pc := 24) (tgt := 74) dX11_readPart_24 (by decide) (fun h_24 => ?_) (fun h_24 => ?_)
    · simp only [w32_mod] at h_24
      have hcb : ¬ c (Ia 49 16).toNat = 191 := by omega
      refine ww_iload_n hX (pc := 74) dX11_readPart_74 rfl ?_
      refine ww_bipush hX (pc := 75) (x := 50) dX11_readPart_75 (by decide) ?_
      refine ww_icmp_ne hX (pc := 77) (tgt := 95) dX11_readPart_77 (by decide) (fun h_77 => ?_) (fun h_77 => ?_)
      · simp only [w32_mod] at h_77
        refine ww_iload_n hX (pc := 95) dX11_readPart_95 rfl ?_
        refine ww_bipush hX (pc := 96) (x := 6) dX11_readPart_96 (by decide) ?_
        refine ww_icmp_lt hX (pc := 98) (tgt := 114) dX11_readPart_98 (by decide) (fun h_98 => ?_) (fun h_98 => ?_)
        · simp only [w32_mod] at h_98
          refine ww_aload_n hX (pc := 114) dX11_readPart_114 rfl ?_
          refine vV0 hX (pc := 115) sX11_168 (xs_49 hL) (c6_X11_faults l0 hL hQ  hP hk) (by omega) (Nat.le_refl 0) (Nat.le_refl 0) (Nat.le_of_ble_eq_true rfl) dX11_readPart_115 (fun I_115 J_115 h_115 => ?_)
          have kJ_115 : Kp 49 73 Ja J_115 := Kp_tr (Kp_rf (a := 49) (b := 73)) h_115.2.1
          have kI_115 : Ch [] [16, 17, 18] Ia I_115 := Ch_tr Ch_rf (Ch_wd h_115.1 (by decide) (by decide))
          have cI_115 : RX I_115 := h_115.2.2.1
          have qI_115 := RX_w cI_115
          have f15_I_115 : I_115 49 15 = Ia 49 15 := h_115.1.2 15 (by decide)
          have f16_I_115 : I_115 49 16 = Ia 49 16 := h_115.1.2 16 (by decide)
          have f17_I_115 : I_115 49 17 = Ia 49 17 := h_115.1.2 17 (by decide)
          have pI_115 : PI I_115 := h_115.2.2.2.1
          have oI_115 := PI_o pI_115
          have yI_115 := h_115.2.2.2.2
          refine rV hX (pc := 118) hT (Nat.le_refl 0) (Nat.le_refl 0) dX11_readPart_118 ?_
          exact ⟨kI_115, kJ_115, cI_115, pI_115, zRP_fa yI_115.2.2 (zRL_pp hk) (fun l => (zPart_l hcb).trans (zLe_0 (zLf_0 (by omega) (by omega)))), by omega⟩
        · simp only [w32_mod] at h_98
          refine ww_iload_n hX (pc := 101) dX11_readPart_101 rfl ?_
          refine ww_bipush hX (pc := 102) (x := 13) dX11_readPart_102 (by decide) ?_
          refine ww_icmp_gt hX (pc := 104) (tgt := 114) dX11_readPart_104 (by decide) (fun h_104 => ?_) (fun h_104 => ?_)
          · simp only [w32_mod] at h_104
            refine ww_aload_n hX (pc := 114) dX11_readPart_114 rfl ?_
            refine vV0 hX (pc := 115) sX11_168 (xs_49 hL) (c6_X11_faults l0 hL hQ  hP hk) (by omega) (Nat.le_refl 0) (Nat.le_refl 0) (Nat.le_of_ble_eq_true rfl) dX11_readPart_115 (fun I_115 J_115 h_115 => ?_)
            have kJ_115 : Kp 49 73 Ja J_115 := Kp_tr (Kp_rf (a := 49) (b := 73)) h_115.2.1
            have kI_115 : Ch [] [16, 17, 18] Ia I_115 := Ch_tr Ch_rf (Ch_wd h_115.1 (by decide) (by decide))
            have cI_115 : RX I_115 := h_115.2.2.1
            have qI_115 := RX_w cI_115
            have f15_I_115 : I_115 49 15 = Ia 49 15 := h_115.1.2 15 (by decide)
            have f16_I_115 : I_115 49 16 = Ia 49 16 := h_115.1.2 16 (by decide)
            have f17_I_115 : I_115 49 17 = Ia 49 17 := h_115.1.2 17 (by decide)
            have pI_115 : PI I_115 := h_115.2.2.2.1
            have oI_115 := PI_o pI_115
            have yI_115 := h_115.2.2.2.2
            refine rV hX (pc := 118) hT (Nat.le_refl 0) (Nat.le_refl 0) dX11_readPart_118 ?_
            exact ⟨kI_115, kJ_115, cI_115, pI_115, zRP_fa yI_115.2.2 (zRL_pp hk) (fun l => (zPart_l hcb).trans (zLe_0 (zLf_0 (by omega) (by omega)))), by omega⟩
          · simp only [w32_mod] at h_104
            refine ww_aload_n hX (pc := 107) dX11_readPart_107 rfl ?_
            refine vV0 hX (pc := 108) sX11_200 (xs_49 hL) (c6_X11_leaf l0 hL hQ  hP hk (by omega) (by omega)) (by omega) (Nat.le_refl 0) (Nat.le_refl 0) (Nat.le_of_ble_eq_true rfl) dX11_readPart_108 (fun I_108 J_108 h_108 => ?_)
            have kJ_108 : Kp 49 73 Ja J_108 := Kp_tr (Kp_rf (a := 49) (b := 73)) h_108.2.1
            have kI_108 : Ch [] [16, 17, 18] Ia I_108 := Ch_tr Ch_rf (Ch_wd h_108.1 (by decide) (by decide))
            have cI_108 : RX I_108 := h_108.2.2.1
            have qI_108 := RX_w cI_108
            have f15_I_108 : I_108 49 15 = Ia 49 15 := h_108.1.2 15 (by decide)
            have pI_108 : PI I_108 := h_108.2.2.2.1
            have oI_108 := PI_o pI_108
            have yI_108 := h_108.2.2.2.2
            refine ww_goto hX (pc := 111) (tgt := 118) dX11_readPart_111 (by decide) ?_
            refine rV hX (pc := 118) hT (Nat.le_refl 0) (Nat.le_refl 0) dX11_readPart_118 ?_
            exact ⟨kI_108, kJ_108, cI_108, pI_108, zRP_lf bb1 yI_108.2 (fun l => zPart_l hcb) (zLf_w ⟨by omega, by omega⟩), by omega⟩
      · simp only [w32_mod] at h_77
        refine ww_aload_n hX (pc := 80) dX11_readPart_80 rfl ?_
        refine ww_getR hX (pc := 81) fX11_46 (by decide) (xs_49 hL) (xr_49_13 hL) dX11_readPart_81 ?_
        refine ww_aload_n hX (pc := 84) dX11_readPart_84 rfl ?_
        refine ww_getI hX (pc := 85) fX11_162 (by decide) (xs_49 hL) dX11_readPart_85 ?_
        refine ww_iald hX (pc := 88) (xs_58 hL) (by decide) (by omega) (by omega) dX11_readPart_88 ?_
        refine ww_sipush hX (pc := 89) (x := 1000) dX11_readPart_89 (by decide) ?_
        refine ww_icmp_le hX (pc := 92) (tgt := 107) dX11_readPart_92 (by decide) (fun h_92 => ?_) (fun h_92 => ?_)
        · simp only [w32_mod] at h_92
          refine ww_aload_n hX (pc := 107) dX11_readPart_107 rfl ?_
          refine vV0 hX (pc := 108) sX11_200 (xs_49 hL) (c6_X11_leaf l0 hL hQ  hP hk (by omega) (by omega)) (by omega) (Nat.le_refl 0) (Nat.le_refl 0) (Nat.le_of_ble_eq_true rfl) dX11_readPart_108 (fun I_108 J_108 h_108 => ?_)
          have kJ_108 : Kp 49 73 Ja J_108 := Kp_tr (Kp_rf (a := 49) (b := 73)) h_108.2.1
          have kI_108 : Ch [] [16, 17, 18] Ia I_108 := Ch_tr Ch_rf (Ch_wd h_108.1 (by decide) (by decide))
          have cI_108 : RX I_108 := h_108.2.2.1
          have qI_108 := RX_w cI_108
          have f15_I_108 : I_108 49 15 = Ia 49 15 := h_108.1.2 15 (by decide)
          have pI_108 : PI I_108 := h_108.2.2.2.1
          have oI_108 := PI_o pI_108
          have yI_108 := h_108.2.2.2.2
          refine ww_goto hX (pc := 111) (tgt := 118) dX11_readPart_111 (by decide) ?_
          refine rV hX (pc := 118) hT (Nat.le_refl 0) (Nat.le_refl 0) dX11_readPart_118 ?_
          exact ⟨kI_108, kJ_108, cI_108, pI_108, zRP_lf bb1 yI_108.2 (fun l => zPart_l hcb) (zLf_n ⟨by omega, by omega⟩), by omega⟩
        · simp only [w32_mod] at h_92
          refine ww_iload_n hX (pc := 95) dX11_readPart_95 rfl ?_
          refine ww_bipush hX (pc := 96) (x := 6) dX11_readPart_96 (by decide) ?_
          refine ww_icmp_lt hX (pc := 98) (tgt := 114) dX11_readPart_98 (by decide) (fun h_98 => ?_) (fun h_98 => ?_)
          · simp only [w32_mod] at h_98
            refine ww_aload_n hX (pc := 114) dX11_readPart_114 rfl ?_
            refine vV0 hX (pc := 115) sX11_168 (xs_49 hL) (c6_X11_faults l0 hL hQ  hP hk) (by omega) (Nat.le_refl 0) (Nat.le_refl 0) (Nat.le_of_ble_eq_true rfl) dX11_readPart_115 (fun I_115 J_115 h_115 => ?_)
            have kJ_115 : Kp 49 73 Ja J_115 := Kp_tr (Kp_rf (a := 49) (b := 73)) h_115.2.1
            have kI_115 : Ch [] [16, 17, 18] Ia I_115 := Ch_tr Ch_rf (Ch_wd h_115.1 (by decide) (by decide))
            have cI_115 : RX I_115 := h_115.2.2.1
            have qI_115 := RX_w cI_115
            have f15_I_115 : I_115 49 15 = Ia 49 15 := h_115.1.2 15 (by decide)
            have f16_I_115 : I_115 49 16 = Ia 49 16 := h_115.1.2 16 (by decide)
            have f17_I_115 : I_115 49 17 = Ia 49 17 := h_115.1.2 17 (by decide)
            have pI_115 : PI I_115 := h_115.2.2.2.1
            have oI_115 := PI_o pI_115
            have yI_115 := h_115.2.2.2.2
            refine rV hX (pc := 118) hT (Nat.le_refl 0) (Nat.le_refl 0) dX11_readPart_118 ?_
            exact ⟨kI_115, kJ_115, cI_115, pI_115, zRP_fa yI_115.2.2 (zRL_pp hk) (fun l => (zPart_l hcb).trans (zLe_0 (zLf_0 (by omega) (by omega)))), by omega⟩
          · simp only [w32_mod] at h_98
            refine ww_iload_n hX (pc := 101) dX11_readPart_101 rfl ?_
            refine ww_bipush hX (pc := 102) (x := 13) dX11_readPart_102 (by decide) ?_
            refine ww_icmp_gt hX (pc := 104) (tgt := 114) dX11_readPart_104 (by decide) (fun h_104 => ?_) (fun h_104 => ?_)
            · simp only [w32_mod] at h_104
              refine ww_aload_n hX (pc := 114) dX11_readPart_114 rfl ?_
              refine vV0 hX (pc := 115) sX11_168 (xs_49 hL) (c6_X11_faults l0 hL hQ  hP hk) (by omega) (Nat.le_refl 0) (Nat.le_refl 0) (Nat.le_of_ble_eq_true rfl) dX11_readPart_115 (fun I_115 J_115 h_115 => ?_)
              have kJ_115 : Kp 49 73 Ja J_115 := Kp_tr (Kp_rf (a := 49) (b := 73)) h_115.2.1
              have kI_115 : Ch [] [16, 17, 18] Ia I_115 := Ch_tr Ch_rf (Ch_wd h_115.1 (by decide) (by decide))
              have cI_115 : RX I_115 := h_115.2.2.1
              have qI_115 := RX_w cI_115
              have f15_I_115 : I_115 49 15 = Ia 49 15 := h_115.1.2 15 (by decide)
              have f16_I_115 : I_115 49 16 = Ia 49 16 := h_115.1.2 16 (by decide)
              have f17_I_115 : I_115 49 17 = Ia 49 17 := h_115.1.2 17 (by decide)
              have pI_115 : PI I_115 := h_115.2.2.2.1
              have oI_115 := PI_o pI_115
              have yI_115 := h_115.2.2.2.2
              refine rV hX (pc := 118) hT (Nat.le_refl 0) (Nat.le_refl 0) dX11_readPart_118 ?_
              exact ⟨kI_115, kJ_115, cI_115, pI_115, zRP_fa yI_115.2.2 (zRL_pp hk) (fun l => (zPart_l hcb).trans (zLe_0 (zLf_0 (by omega) (by omega)))), by omega⟩
            · simp only [w32_mod] at h_104
              refine ww_aload_n hX (pc := 107) dX11_readPart_107 rfl ?_
              refine vV0 hX (pc := 108) sX11_200 (xs_49 hL) (c6_X11_leaf l0 hL hQ  hP hk (by omega) (by omega)) (by omega) (Nat.le_refl 0) (Nat.le_refl 0) (Nat.le_of_ble_eq_true rfl) dX11_readPart_108 (fun I_108 J_108 h_108 => ?_)
              have kJ_108 : Kp 49 73 Ja J_108 := Kp_tr (Kp_rf (a := 49) (b := 73)) h_108.2.1
              have kI_108 : Ch [] [16, 17, 18] Ia I_108 := Ch_tr Ch_rf (Ch_wd h_108.1 (by decide) (by decide))
              have cI_108 : RX I_108 := h_108.2.2.1
              have qI_108 := RX_w cI_108
              have f15_I_108 : I_108 49 15 = Ia 49 15 := h_108.1.2 15 (by decide)
              have pI_108 : PI I_108 := h_108.2.2.2.1
              have oI_108 := PI_o pI_108
              have yI_108 := h_108.2.2.2.2
              refine ww_goto hX (pc := 111) (tgt := 118) dX11_readPart_111 (by decide) ?_
              refine rV hX (pc := 118) hT (Nat.le_refl 0) (Nat.le_refl 0) dX11_readPart_118 ?_
              exact ⟨kI_108, kJ_108, cI_108, pI_108, zRP_lf bb1 yI_108.2 (fun l => zPart_l hcb) (zLf_w ⟨by omega, by omega⟩), by omega⟩
    · simp only [w32_mod] at h_24
      have hcb : c (Ia 49 16).toNat = 191 := by omega
      refine ww_iload_n hX (pc := 27) dX11_readPart_27 rfl ?_
      refine ww_bipush hX (pc := 28) (x := 8) dX11_readPart_28 (by decide) ?_
      refine ww_icmp_ne hX (pc := 30) (tgt := 37) dX11_readPart_30 (by decide) (fun h_30 => ?_) (fun h_30 => ?_)
      · simp only [w32_mod] at h_30
        refine ww_aload_n hX (pc := 37) dX11_readPart_37 rfl ?_
        refine vI0 hX (pc := 38) sX11_158 (xs_49 hL) (c_X11_fine l0 hL hQ  hP) (by omega) (Nat.le_refl 0) (Nat.le_refl 0) (Nat.le_of_ble_eq_true rfl) dX11_readPart_38 (fun x_38 I_38 J_38 h_38 => ?_)
        obtain ⟨rfl, rfl, h_38⟩ := h_38
        refine ww_if_ne hX (pc := 41) (tgt := 45) dX11_readPart_41 (by decide) (fun h_41 => ?_) (fun h_41 => ?_)
        · simp only [w32_mod] at h_41
          have bb38 := FN_1 h_38.2 (by omega)
          obtain ⟨mp, rfl⟩ : ∃ mp, m = mp + 1 := ⟨m - 1, by omega⟩
          refine ww_aload_n hX (pc := 45) dX11_readPart_45 rfl ?_
          refine ww_dupR hX (pc := 46) dX11_readPart_46 ?_
          refine ww_getI hX (pc := 47) fX11_162 (by decide) (xs_49 hL) dX11_readPart_47 ?_
          refine ww_iconst hX (pc := 50) (x := 1) dX11_readPart_50 rfl ?_
          refine ww_iadd hX (pc := 51) dX11_readPart_51 ?_
          refine ww_putI hX (pc := 52) (fun h9 => absurd h9 (by decide)) gX11_162 rfl (xs_49 hL) dX11_readPart_52 ?_
          have lt52 := PI_lt hP (by omega)
          refine ww_nmH (fun I_52 eI_52 => ?_)
          have kI_52 : Ch [] [16, 17, 18] Ia I_52 := by rw [eI_52]; exact Ch_f Ch_rf (by decide)
          have cI_52 : RX I_52 := by rw [eI_52]; exact RX_f hQ (by decide)
          have qI_52 := RX_w cI_52
          have f15_I_52 : I_52 49 15 = Ia 49 15 := by rw [eI_52, up2_n _ _ (Or.inr (by decide))]
          have f17_I_52 : I_52 49 17 = Ia 49 17 := by rw [eI_52, up2_n _ _ (Or.inr (by decide))]
          have f18_I_52 : I_52 49 18 = Ia 49 18 := by rw [eI_52, up2_n _ _ (Or.inr (by decide))]
          have w16_I_52 : I_52 49 16 = Ia 49 16 + 1 := by rw [eI_52, up2_s]
          have pI_52 : PI I_52 := by rw [eI_52]; exact PI_f hP (by decide) (fun _ => ⟨by omega, by omega⟩) (fun h => absurd h (by decide))
          have oI_52 := PI_o pI_52
          refine ww_aload_n hX (pc := 55) dX11_readPart_55 rfl ?_
          refine ww_iload_n hX (pc := 56) dX11_readPart_56 rfl ?_
          refine ww_iconst hX (pc := 57) (x := 1) dX11_readPart_57 rfl ?_
          refine ww_iadd hX (pc := 58) dX11_readPart_58 ?_
          refine ww_toI (show (8 - ((mp + 1 : Nat) : Int)) + 1 = 8 - (mp : Int) by omega) ?_
          refine vV1 hX (pc := 59) sX11_178 (xs_49 hL) (hrec mp rfl hL cI_52 pI_52 (pvw_tr kI_52 (by decide) (by decide) hc) (zRL_tr kI_52 (by decide) (by decide) (by decide) hk)) (by omega) (Nat.le_refl 0) (Nat.le_refl 0) (Nat.le_of_ble_eq_true rfl) dX11_readPart_59 (fun I_59 J_59 h_59 => ?_)
          have kJ_59 : Kp 49 73 Ja J_59 := Kp_tr (Kp_rf (a := 49) (b := 73)) h_59.2.1
          have kI_59 : Ch [] [16, 17, 18] Ia I_59 := Ch_tr kI_52 (Ch_wd h_59.1 (by decide) (by decide))
          have cI_59 : RX I_59 := h_59.2.2.1
          have qI_59 := RX_w cI_59
          have f15_I_59 : I_59 49 15 = I_52 49 15 := h_59.1.2 15 (by decide)
          have pI_59 : PI I_59 := h_59.2.2.2.1
          have oI_59 := PI_o pI_59
          have yI_59 := h_59.2.2.2.2
          refine ww_aload_n hX (pc := 62) dX11_readPart_62 rfl ?_
          refine ww_bipush hX (pc := 63) (x := 93) dX11_readPart_63 (by decide) ?_
          refine sI1 hX (pc := 65) sX11_190 (c_X11_sign l0 ) (by omega) (Nat.le_refl 0) (Nat.le_refl 0) (Nat.le_of_ble_eq_true rfl) dX11_readPart_65 (fun x_65 I_65 J_65 h_65 => ?_)
          obtain ⟨rfl, rfl, h_65⟩ := h_65
          refine vV1 hX (pc := 68) sX11_174 (xs_49 hL) (c6_X11_must l0 hL cI_59  pI_59 (pvw_tr kI_59 (by decide) (by decide) hc) (zRL_tr kI_59 (by decide) (by decide) (by decide) hk) (by omega) (by omega)) (by omega) (Nat.le_refl 0) (Nat.le_refl 0) (Nat.le_of_ble_eq_true rfl) dX11_readPart_68 (fun I_68 J_68 h_68 => ?_)
          have kJ_68 : Kp 49 73 Ja J_68 := Kp_tr kJ_59 h_68.2.1
          have kI_68 : Ch [] [16, 17, 18] Ia I_68 := Ch_tr kI_59 (Ch_wd h_68.1 (by decide) (by decide))
          have cI_68 : RX I_68 := h_68.2.2.1
          have qI_68 := RX_w cI_68
          have f15_I_68 : I_68 49 15 = I_59 49 15 := h_68.1.2 15 (by decide)
          have f17_I_68 : I_68 49 17 = I_59 49 17 := h_68.1.2 17 (by decide)
          have pI_68 : PI I_68 := h_68.2.2.2.1
          have oI_68 := PI_o pI_68
          have yI_68 := h_68.2.2.2.2
          refine ww_goto hX (pc := 71) (tgt := 118) dX11_readPart_71 (by decide) ?_
          refine rV hX (pc := 118) hT (Nat.le_refl 0) (Nat.le_refl 0) dX11_readPart_118 ?_
          exact ⟨kI_68, kJ_68, cI_68, pI_68, zRP_br bb1 w16_I_52 f17_I_52 f18_I_52 hk.1 (PI_lt hP (by omega)) yI_59.1 yI_68.2 (by omega) (fun l => zPart_b hcb), by omega⟩
        · simp only [w32_mod] at h_41
          have nb38 := FN_0 h_38.2 (by omega)
          exact absurd bb1 nb38
      · simp only [w32_mod] at h_30
        refine ww_aload_n hX (pc := 33) dX11_readPart_33 rfl ?_
        refine vV0 hX (pc := 34) sX11_168 (xs_49 hL) (c6_X11_faults l0 hL hQ  hP hk) (by omega) (Nat.le_refl 0) (Nat.le_refl 0) (Nat.le_of_ble_eq_true rfl) dX11_readPart_34 (fun I_34 J_34 h_34 => ?_)
        have kJ_34 : Kp 49 73 Ja J_34 := Kp_tr (Kp_rf (a := 49) (b := 73)) h_34.2.1
        have kI_34 : Ch [] [16, 17, 18] Ia I_34 := Ch_tr Ch_rf (Ch_wd h_34.1 (by decide) (by decide))
        have cI_34 : RX I_34 := h_34.2.2.1
        have qI_34 := RX_w cI_34
        have f15_I_34 : I_34 49 15 = Ia 49 15 := h_34.1.2 15 (by decide)
        have f16_I_34 : I_34 49 16 = Ia 49 16 := h_34.1.2 16 (by decide)
        have f17_I_34 : I_34 49 17 = Ia 49 17 := h_34.1.2 17 (by decide)
        have pI_34 : PI I_34 := h_34.2.2.2.1
        have oI_34 := PI_o pI_34
        have yI_34 := h_34.2.2.2.2
        refine ww_aload_n hX (pc := 37) dX11_readPart_37 rfl ?_
        refine vI0 hX (pc := 38) sX11_158 (xs_49 hL) (c_X11_fine l0 hL cI_34  pI_34) (by omega) (Nat.le_refl 0) (Nat.le_refl 0) (Nat.le_of_ble_eq_true rfl) dX11_readPart_38 (fun x_38 I_38 J_38 h_38 => ?_)
        obtain ⟨rfl, rfl, h_38⟩ := h_38
        refine ww_if_ne hX (pc := 41) (tgt := 45) dX11_readPart_41 (by decide) (fun h_41 => ?_) (fun h_41 => ?_)
        · simp only [w32_mod] at h_41
          have bb38 := FN_1 h_38.2 (by omega)
          exfalso
          have h8 := yI_34.2.2.2 bb1
          have h7 := (zRL_p hk hP).2.2.1
          omega
        · simp only [w32_mod] at h_41
          have nb38 := FN_0 h_38.2 (by omega)
          refine rV hX (pc := 44) hT (Nat.le_refl 0) (Nat.le_refl 0) dX11_readPart_44 ?_
          exact ⟨kI_34, kJ_34, cI_34, pI_34, (by
              obtain rfl : m = 0 := by omega
              exact zRP_fa yI_34.2.2 (zRL_pp hk) (fun l => (zPart_b hcb).trans zBr_0)), by omega⟩
  · simp only [w32_mod] at h_4
    have nb1 := FN_0 h_1.2 (by omega)
    refine rV hX (pc := 7) hT (Nat.le_refl 0) (Nat.le_refl 0) dX11_readPart_7 ?_
    exact ⟨Ch_rf, (Kp_rf (a := 49) (b := 73)), hQ, hP, zRP_n nb1, by omega⟩
set_option maxHeartbeats 4000000 in
set_option maxRecDepth 20000 in
theorem c6_X11_readTerm (l0 : Launch) {Ia Ja : aI1} {Ra : aR1} {Sa : aS1} (hL : LY Ra Sa) (hQ : RX Ia) (hP : PI Ia) {c : Nat → Int} (hc : pvw Ia = c) {vl pl : Nat → Int} {T : Nat} (hk : zRL Ia vl pl T) {m : Nat} (hm : m ≤ 8) (hrec : ∀ mp, m = mp + 1 → URSum l0 mp)  : CT l0 (3 * m + 4) 0 0 mX11_readTerm [kR (some 49), kI (8 - (m : Int))] Ia Ja Ra Sa (cV (fun I' J' => Ch [] [16, 17, 18] Ia I' ∧ Kp 49 73 Ja J' ∧ RX I' ∧ PI I' ∧ zRP T pl (zTm (zSu c vl m) c vl) Ia I' ∧ Ia 49 16 ≤ I' 49 16) Ra Sa) := by
  refine ct_in pn_X11 (Nat.le_of_ble_eq_true rfl) (fun X hX hT hIn => ?_)
  have hX : aK l0 X cX11_readTerm 2 RX11 none (3 * m + 4) 0 0 := hX
  change WW X 0 [some (kR (some 49)), some (kI (8 - (m : Int)))] [] Ia Ja Ra Sa 0 0
  have qIa := RX_w hQ
  have oIa := PI_o hP
  have tIa := PI_t hP
  have atIa := pvw_at hP hc
  refine ww_aload_n hX (pc := 0) dX11_readTerm_0 rfl ?_
  refine ww_iload_n hX (pc := 1) dX11_readTerm_1 rfl ?_
  refine vV1 hX (pc := 2) sX11_197 (xs_49 hL) (c6_X11_readPart l0 hL hQ  hP hc hk (m := m) hm hrec) (by omega) (Nat.le_refl 0) (Nat.le_refl 0) (Nat.le_of_ble_eq_true rfl) dX11_readTerm_2 (fun I_2 J_2 h_2 => ?_)
  have kJ_2 : Kp 49 73 Ja J_2 := Kp_tr (Kp_rf (a := 49) (b := 73)) h_2.2.1
  have kI_2 : Ch [] [16, 17, 18] Ia I_2 := Ch_tr Ch_rf (Ch_wd h_2.1 (by decide) (by decide))
  have cI_2 : RX I_2 := h_2.2.2.1
  have qI_2 := RX_w cI_2
  have f15_I_2 : I_2 49 15 = Ia 49 15 := h_2.1.2 15 (by decide)
  have pI_2 : PI I_2 := h_2.2.2.2.1
  have oI_2 := PI_o pI_2
  have yI_2 := h_2.2.2.2.2
  have hl_5 : ∀ (n_5 : Nat) (I5 : aI1) (J5 : aI1), (I5 49 15 - I5 49 16).toNat = n_5 → (Ch [] [16, 17, 18] Ia I5 ∧ RX I5 ∧ Kp 49 73 Ja J5 ∧ I5 49 15 = I_2 49 15 ∧ PI I5 ∧ zLp6 T c pl (zPart (zSu c vl m) c vl) [142, 147, 137] zJD Ia I5 ∧ Ia 49 16 ≤ I5 49 16) → WW X 5 [some (kR (some 49)), some (kI (8 - (m : Int)))] [] I5 J5 Ra Sa 0 0 := by
    intro n_5
    induction n_5 using Nat.strongRecOn with
    | ind n_5 ih_5 =>
      intro I5 J5 hm_5 hv_5
      obtain ⟨kI5, cI5, kJ5, f15_I5, pI5, hlv, hmo⟩ := hv_5
      have qI5 := RX_w cI5
      have oI5 := PI_o pI5
      have tI5 := PI_t pI5
      have atI5 := pvw_at pI5 (pvw_tr kI5 (by decide) (by decide) hc)
      refine ww_aload_n hX (pc := 5) dX11_readTerm_5 rfl ?_
      refine ww_bipush hX (pc := 6) (x := 42) dX11_readTerm_6 (by decide) ?_
      refine sI1 hX (pc := 8) sX11_190 (c_X11_sign l0 ) (by omega) (Nat.le_refl 0) (Nat.le_refl 0) (Nat.le_of_ble_eq_true rfl) dX11_readTerm_8 (fun x_8 I_8 J_8 h_8 => ?_)
      obtain ⟨rfl, rfl, h_8⟩ := h_8
      refine vI1 hX (pc := 11) sX11_165 (xs_49 hL) (c_X11_takes0 l0 hL cI5  pI5 (pvw_tr kI5 (by decide) (by decide) hc) (by omega) (by omega)) (by omega) (Nat.le_refl 0) (Nat.le_refl 0) (Nat.le_of_ble_eq_true rfl) dX11_readTerm_11 (fun x_11 I_11 J_11 h_11 => ?_)
      have kJ_11 : Kp 49 73 Ja J_11 := Kp_tr kJ5 h_11.2.1
      have kI_11 : Ch [] [16, 17, 18] Ia I_11 := Ch_tr kI5 (Ch_wd h_11.1 (by decide) (by decide))
      have cI_11 : RX I_11 := h_11.2.2.1
      have qI_11 := RX_w cI_11
      have f15_I_11 : I_11 49 15 = I5 49 15 := h_11.1.2 15 (by decide)
      have f17_I_11 : I_11 49 17 = I5 49 17 := h_11.1.2 17 (by decide)
      have f18_I_11 : I_11 49 18 = I5 49 18 := h_11.1.2 18 (by decide)
      have pI_11 : PI I_11 := h_11.2.2.2.1
      have oI_11 := PI_o pI_11
      have yI_11 := h_11.2.2.2.2
      refine ww_if_ne hX (pc := 14) (tgt := 41) dX11_readTerm_14 (by decide) (fun h_14 => ?_) (fun h_14 => ?_)
      · simp only [w32_mod] at h_14
        have s11 := TK_1 yI_11.2.2.2 (by omega)
        refine ww_aload_n hX (pc := 41) dX11_readTerm_41 rfl ?_
        refine ww_iload_n hX (pc := 42) dX11_readTerm_42 rfl ?_
        refine vV1 hX (pc := 43) sX11_197 (xs_49 hL) (c6_X11_readPart l0 hL cI_11  pI_11 (pvw_tr kI_11 (by decide) (by decide) hc) (zRL_tr kI_11 (by decide) (by decide) (by decide) hk) (m := m) hm hrec) (by omega) (Nat.le_refl 0) (Nat.le_refl 0) (Nat.le_of_ble_eq_true rfl) dX11_readTerm_43 (fun I_43 J_43 h_43 => ?_)
        have kJ_43 : Kp 49 73 Ja J_43 := Kp_tr kJ_11 h_43.2.1
        have kI_43 : Ch [] [16, 17, 18] Ia I_43 := Ch_tr kI_11 (Ch_wd h_43.1 (by decide) (by decide))
        have cI_43 : RX I_43 := h_43.2.2.1
        have qI_43 := RX_w cI_43
        have f15_I_43 : I_43 49 15 = I_11 49 15 := h_43.1.2 15 (by decide)
        have pI_43 : PI I_43 := h_43.2.2.2.1
        have oI_43 := PI_o pI_43
        have yI_43 := h_43.2.2.2.2
        refine ww_goto hX (pc := 46) (tgt := 5) dX11_readTerm_46 (by decide) ?_
        exact ih_5 _ (by omega) I_43 J_43 rfl ⟨kI_43, cI_43, kJ_43, by omega, pI_43, zLp6_s hlv (by have h7 := s11.1; omega) (by rw [s11.2.1]; simp only [List.mem_cons, List.not_mem_nil, or_false]; try omega) (by omega) (by omega) (by omega) (zRL_tr kI5 (by decide) (by decide) (by decide) hk).1 (PI_lt pI5 (by rw [← atI5]; have h8 := s11.2.1; omega)) hk.2.1 yI_43.1 (by omega), by omega⟩
      · simp only [w32_mod] at h_14
        obtain ⟨z11, n11⟩ := TK_0 yI_11.2.2.2 (by omega)
        refine ww_aload_n hX (pc := 17) dX11_readTerm_17 rfl ?_
        refine ww_bipush hX (pc := 18) (x := 47) dX11_readTerm_18 (by decide) ?_
        refine sI1 hX (pc := 20) sX11_190 (c_X11_sign l0 ) (by omega) (Nat.le_refl 0) (Nat.le_refl 0) (Nat.le_of_ble_eq_true rfl) dX11_readTerm_20 (fun x_20 I_20 J_20 h_20 => ?_)
        obtain ⟨rfl, rfl, h_20⟩ := h_20
        refine vI1 hX (pc := 23) sX11_165 (xs_49 hL) (c_X11_takes0 l0 hL cI_11  pI_11 (pvw_tr kI_11 (by decide) (by decide) hc) (by omega) (by omega)) (by omega) (Nat.le_refl 0) (Nat.le_refl 0) (Nat.le_of_ble_eq_true rfl) dX11_readTerm_23 (fun x_23 I_23 J_23 h_23 => ?_)
        have kJ_23 : Kp 49 73 Ja J_23 := Kp_tr kJ_11 h_23.2.1
        have kI_23 : Ch [] [16, 17, 18] Ia I_23 := Ch_tr kI_11 (Ch_wd h_23.1 (by decide) (by decide))
        have cI_23 : RX I_23 := h_23.2.2.1
        have qI_23 := RX_w cI_23
        have f15_I_23 : I_23 49 15 = I_11 49 15 := h_23.1.2 15 (by decide)
        have f17_I_23 : I_23 49 17 = I_11 49 17 := h_23.1.2 17 (by decide)
        have f18_I_23 : I_23 49 18 = I_11 49 18 := h_23.1.2 18 (by decide)
        have pI_23 : PI I_23 := h_23.2.2.2.1
        have oI_23 := PI_o pI_23
        have yI_23 := h_23.2.2.2.2
        refine ww_if_ne hX (pc := 26) (tgt := 41) dX11_readTerm_26 (by decide) (fun h_26 => ?_) (fun h_26 => ?_)
        · simp only [w32_mod] at h_26
          have s23 := TK_1 yI_23.2.2.2 (by omega)
          rw [z11] at s23
          refine ww_aload_n hX (pc := 41) dX11_readTerm_41 rfl ?_
          refine ww_iload_n hX (pc := 42) dX11_readTerm_42 rfl ?_
          refine vV1 hX (pc := 43) sX11_197 (xs_49 hL) (c6_X11_readPart l0 hL cI_23  pI_23 (pvw_tr kI_23 (by decide) (by decide) hc) (zRL_tr kI_23 (by decide) (by decide) (by decide) hk) (m := m) hm hrec) (by omega) (Nat.le_refl 0) (Nat.le_refl 0) (Nat.le_of_ble_eq_true rfl) dX11_readTerm_43 (fun I_43 J_43 h_43 => ?_)
          have kJ_43 : Kp 49 73 Ja J_43 := Kp_tr kJ_23 h_43.2.1
          have kI_43 : Ch [] [16, 17, 18] Ia I_43 := Ch_tr kI_23 (Ch_wd h_43.1 (by decide) (by decide))
          have cI_43 : RX I_43 := h_43.2.2.1
          have qI_43 := RX_w cI_43
          have f15_I_43 : I_43 49 15 = I_23 49 15 := h_43.1.2 15 (by decide)
          have pI_43 : PI I_43 := h_43.2.2.2.1
          have oI_43 := PI_o pI_43
          have yI_43 := h_43.2.2.2.2
          refine ww_goto hX (pc := 46) (tgt := 5) dX11_readTerm_46 (by decide) ?_
          exact ih_5 _ (by omega) I_43 J_43 rfl ⟨kI_43, cI_43, kJ_43, by omega, pI_43, zLp6_s hlv (by have h7 := s23.1; omega) (by rw [s23.2.1]; simp only [List.mem_cons, List.not_mem_nil, or_false]; try omega) (by omega) (by omega) (by omega) (zRL_tr kI5 (by decide) (by decide) (by decide) hk).1 (PI_lt pI5 (by rw [← atI5]; have h8 := s23.2.1; omega)) hk.2.1 yI_43.1 (by omega), by omega⟩
        · simp only [w32_mod] at h_26
          obtain ⟨z23, n23⟩ := TK_0 yI_23.2.2.2 (by omega)
          refine ww_aload_n hX (pc := 29) dX11_readTerm_29 rfl ?_
          refine ww_bipush hX (pc := 30) (x := 37) dX11_readTerm_30 (by decide) ?_
          refine sI1 hX (pc := 32) sX11_190 (c_X11_sign l0 ) (by omega) (Nat.le_refl 0) (Nat.le_refl 0) (Nat.le_of_ble_eq_true rfl) dX11_readTerm_32 (fun x_32 I_32 J_32 h_32 => ?_)
          obtain ⟨rfl, rfl, h_32⟩ := h_32
          refine vI1 hX (pc := 35) sX11_165 (xs_49 hL) (c_X11_takes0 l0 hL cI_23  pI_23 (pvw_tr kI_23 (by decide) (by decide) hc) (by omega) (by omega)) (by omega) (Nat.le_refl 0) (Nat.le_refl 0) (Nat.le_of_ble_eq_true rfl) dX11_readTerm_35 (fun x_35 I_35 J_35 h_35 => ?_)
          have kJ_35 : Kp 49 73 Ja J_35 := Kp_tr kJ_23 h_35.2.1
          have kI_35 : Ch [] [16, 17, 18] Ia I_35 := Ch_tr kI_23 (Ch_wd h_35.1 (by decide) (by decide))
          have cI_35 : RX I_35 := h_35.2.2.1
          have qI_35 := RX_w cI_35
          have f15_I_35 : I_35 49 15 = I_23 49 15 := h_35.1.2 15 (by decide)
          have f17_I_35 : I_35 49 17 = I_23 49 17 := h_35.1.2 17 (by decide)
          have f18_I_35 : I_35 49 18 = I_23 49 18 := h_35.1.2 18 (by decide)
          have pI_35 : PI I_35 := h_35.2.2.2.1
          have oI_35 := PI_o pI_35
          have yI_35 := h_35.2.2.2.2
          refine ww_if_eq hX (pc := 38) (tgt := 49) dX11_readTerm_38 (by decide) (fun h_38 => ?_) (fun h_38 => ?_)
          · simp only [w32_mod] at h_38
            obtain ⟨z35, n35⟩ := TK_0 yI_35.2.2.2 (by omega)
            refine rV hX (pc := 49) hT (Nat.le_refl 0) (Nat.le_refl 0) dX11_readTerm_49 ?_
            exact ⟨kI_35, kJ_35, cI_35, pI_35, (by exact zLp6_e hlv (by omega) (by omega) (by omega) (fun g9 => by  have a0 := n11 (by omega); have a1 := n23 (by omega); rw [z11] at a1; have a2 := n35 (by omega); rw [z23] at a2; rw [z11] at a2; simp only [List.mem_cons, List.not_mem_nil, or_false]; try omega)), by omega⟩
          · simp only [w32_mod] at h_38
            have s35 := TK_1 yI_35.2.2.2 (by omega)
            rw [z23] at s35
            rw [z11] at s35
            refine ww_aload_n hX (pc := 41) dX11_readTerm_41 rfl ?_
            refine ww_iload_n hX (pc := 42) dX11_readTerm_42 rfl ?_
            refine vV1 hX (pc := 43) sX11_197 (xs_49 hL) (c6_X11_readPart l0 hL cI_35  pI_35 (pvw_tr kI_35 (by decide) (by decide) hc) (zRL_tr kI_35 (by decide) (by decide) (by decide) hk) (m := m) hm hrec) (by omega) (Nat.le_refl 0) (Nat.le_refl 0) (Nat.le_of_ble_eq_true rfl) dX11_readTerm_43 (fun I_43 J_43 h_43 => ?_)
            have kJ_43 : Kp 49 73 Ja J_43 := Kp_tr kJ_35 h_43.2.1
            have kI_43 : Ch [] [16, 17, 18] Ia I_43 := Ch_tr kI_35 (Ch_wd h_43.1 (by decide) (by decide))
            have cI_43 : RX I_43 := h_43.2.2.1
            have qI_43 := RX_w cI_43
            have f15_I_43 : I_43 49 15 = I_35 49 15 := h_43.1.2 15 (by decide)
            have pI_43 : PI I_43 := h_43.2.2.2.1
            have oI_43 := PI_o pI_43
            have yI_43 := h_43.2.2.2.2
            refine ww_goto hX (pc := 46) (tgt := 5) dX11_readTerm_46 (by decide) ?_
            exact ih_5 _ (by omega) I_43 J_43 rfl ⟨kI_43, cI_43, kJ_43, by omega, pI_43, zLp6_s hlv (by have h7 := s35.1; omega) (by rw [s35.2.1]; simp only [List.mem_cons, List.not_mem_nil, or_false]; try omega) (by omega) (by omega) (by omega) (zRL_tr kI5 (by decide) (by decide) (by decide) hk).1 (PI_lt pI5 (by rw [← atI5]; have h8 := s35.2.1; omega)) hk.2.1 yI_43.1 (by omega), by omega⟩
  exact hl_5 _ I_2 J_2 rfl ⟨kI_2, cI_2, kJ_2, rfl, pI_2, zLp6_0 yI_2.1, by omega⟩
set_option maxHeartbeats 4000000 in
set_option maxRecDepth 20000 in
theorem c6_X11_readSum (l0 : Launch) {Ia Ja : aI1} {Ra : aR1} {Sa : aS1} (hL : LY Ra Sa) (hQ : RX Ia) (hP : PI Ia) {c : Nat → Int} (hc : pvw Ia = c) {vl pl : Nat → Int} {T : Nat} (hk : zRL Ia vl pl T) {m : Nat} (hm : m ≤ 8) (hrec : ∀ mp, m = mp + 1 → URSum l0 mp)  : CT l0 (3 * m + 5) 0 0 mX11_readSum [kR (some 49), kI (8 - (m : Int))] Ia Ja Ra Sa (cV (fun I' J' => Ch [] [16, 17, 18] Ia I' ∧ Kp 49 73 Ja J' ∧ RX I' ∧ PI I' ∧ zRP T pl (zS c vl m) Ia I' ∧ Ia 49 16 ≤ I' 49 16) Ra Sa) := by
  refine ct_in pn_X11 (Nat.le_of_ble_eq_true rfl) (fun X hX hT hIn => ?_)
  have hX : aK l0 X cX11_readSum 2 RX11 none (3 * m + 5) 0 0 := hX
  change WW X 0 [some (kR (some 49)), some (kI (8 - (m : Int)))] [] Ia Ja Ra Sa 0 0
  have qIa := RX_w hQ
  have oIa := PI_o hP
  have tIa := PI_t hP
  have atIa := pvw_at hP hc
  refine ww_aload_n hX (pc := 0) dX11_readSum_0 rfl ?_
  refine ww_iload_n hX (pc := 1) dX11_readSum_1 rfl ?_
  refine vV1 hX (pc := 2) sX11_194 (xs_49 hL) (c6_X11_readTerm l0 hL hQ  hP hc hk (m := m) hm hrec) (by omega) (Nat.le_refl 0) (Nat.le_refl 0) (Nat.le_of_ble_eq_true rfl) dX11_readSum_2 (fun I_2 J_2 h_2 => ?_)
  have kJ_2 : Kp 49 73 Ja J_2 := Kp_tr (Kp_rf (a := 49) (b := 73)) h_2.2.1
  have kI_2 : Ch [] [16, 17, 18] Ia I_2 := Ch_tr Ch_rf (Ch_wd h_2.1 (by decide) (by decide))
  have cI_2 : RX I_2 := h_2.2.2.1
  have qI_2 := RX_w cI_2
  have f15_I_2 : I_2 49 15 = Ia 49 15 := h_2.1.2 15 (by decide)
  have pI_2 : PI I_2 := h_2.2.2.2.1
  have oI_2 := PI_o pI_2
  have yI_2 := h_2.2.2.2.2
  have hl_5 : ∀ (n_5 : Nat) (I5 : aI1) (J5 : aI1), (I5 49 15 - I5 49 16).toNat = n_5 → (Ch [] [16, 17, 18] Ia I5 ∧ RX I5 ∧ Kp 49 73 Ja J5 ∧ I5 49 15 = I_2 49 15 ∧ PI I5 ∧ zLp6 T c pl (zTm (zSu c vl m) c vl) [143, 145] zJD Ia I5 ∧ Ia 49 16 ≤ I5 49 16) → WW X 5 [some (kR (some 49)), some (kI (8 - (m : Int)))] [] I5 J5 Ra Sa 0 0 := by
    intro n_5
    induction n_5 using Nat.strongRecOn with
    | ind n_5 ih_5 =>
      intro I5 J5 hm_5 hv_5
      obtain ⟨kI5, cI5, kJ5, f15_I5, pI5, hlv, hmo⟩ := hv_5
      have qI5 := RX_w cI5
      have oI5 := PI_o pI5
      have tI5 := PI_t pI5
      have atI5 := pvw_at pI5 (pvw_tr kI5 (by decide) (by decide) hc)
      refine ww_aload_n hX (pc := 5) dX11_readSum_5 rfl ?_
      refine ww_bipush hX (pc := 6) (x := 43) dX11_readSum_6 (by decide) ?_
      refine sI1 hX (pc := 8) sX11_190 (c_X11_sign l0 ) (by omega) (Nat.le_refl 0) (Nat.le_refl 0) (Nat.le_of_ble_eq_true rfl) dX11_readSum_8 (fun x_8 I_8 J_8 h_8 => ?_)
      obtain ⟨rfl, rfl, h_8⟩ := h_8
      refine vI1 hX (pc := 11) sX11_165 (xs_49 hL) (c_X11_takes0 l0 hL cI5  pI5 (pvw_tr kI5 (by decide) (by decide) hc) (by omega) (by omega)) (by omega) (Nat.le_refl 0) (Nat.le_refl 0) (Nat.le_of_ble_eq_true rfl) dX11_readSum_11 (fun x_11 I_11 J_11 h_11 => ?_)
      have kJ_11 : Kp 49 73 Ja J_11 := Kp_tr kJ5 h_11.2.1
      have kI_11 : Ch [] [16, 17, 18] Ia I_11 := Ch_tr kI5 (Ch_wd h_11.1 (by decide) (by decide))
      have cI_11 : RX I_11 := h_11.2.2.1
      have qI_11 := RX_w cI_11
      have f15_I_11 : I_11 49 15 = I5 49 15 := h_11.1.2 15 (by decide)
      have f17_I_11 : I_11 49 17 = I5 49 17 := h_11.1.2 17 (by decide)
      have f18_I_11 : I_11 49 18 = I5 49 18 := h_11.1.2 18 (by decide)
      have pI_11 : PI I_11 := h_11.2.2.2.1
      have oI_11 := PI_o pI_11
      have yI_11 := h_11.2.2.2.2
      refine ww_if_ne hX (pc := 14) (tgt := 29) dX11_readSum_14 (by decide) (fun h_14 => ?_) (fun h_14 => ?_)
      · simp only [w32_mod] at h_14
        have s11 := TK_1 yI_11.2.2.2 (by omega)
        refine ww_aload_n hX (pc := 29) dX11_readSum_29 rfl ?_
        refine ww_iload_n hX (pc := 30) dX11_readSum_30 rfl ?_
        refine vV1 hX (pc := 31) sX11_194 (xs_49 hL) (c6_X11_readTerm l0 hL cI_11  pI_11 (pvw_tr kI_11 (by decide) (by decide) hc) (zRL_tr kI_11 (by decide) (by decide) (by decide) hk) (m := m) hm hrec) (by omega) (Nat.le_refl 0) (Nat.le_refl 0) (Nat.le_of_ble_eq_true rfl) dX11_readSum_31 (fun I_31 J_31 h_31 => ?_)
        have kJ_31 : Kp 49 73 Ja J_31 := Kp_tr kJ_11 h_31.2.1
        have kI_31 : Ch [] [16, 17, 18] Ia I_31 := Ch_tr kI_11 (Ch_wd h_31.1 (by decide) (by decide))
        have cI_31 : RX I_31 := h_31.2.2.1
        have qI_31 := RX_w cI_31
        have f15_I_31 : I_31 49 15 = I_11 49 15 := h_31.1.2 15 (by decide)
        have pI_31 : PI I_31 := h_31.2.2.2.1
        have oI_31 := PI_o pI_31
        have yI_31 := h_31.2.2.2.2
        refine ww_goto hX (pc := 34) (tgt := 5) dX11_readSum_34 (by decide) ?_
        exact ih_5 _ (by omega) I_31 J_31 rfl ⟨kI_31, cI_31, kJ_31, by omega, pI_31, zLp6_s hlv (by have h7 := s11.1; omega) (by rw [s11.2.1]; simp only [List.mem_cons, List.not_mem_nil, or_false]; try omega) (by omega) (by omega) (by omega) (zRL_tr kI5 (by decide) (by decide) (by decide) hk).1 (PI_lt pI5 (by rw [← atI5]; have h8 := s11.2.1; omega)) hk.2.1 yI_31.1 (by omega), by omega⟩
      · simp only [w32_mod] at h_14
        obtain ⟨z11, n11⟩ := TK_0 yI_11.2.2.2 (by omega)
        refine ww_aload_n hX (pc := 17) dX11_readSum_17 rfl ?_
        refine ww_bipush hX (pc := 18) (x := 45) dX11_readSum_18 (by decide) ?_
        refine sI1 hX (pc := 20) sX11_190 (c_X11_sign l0 ) (by omega) (Nat.le_refl 0) (Nat.le_refl 0) (Nat.le_of_ble_eq_true rfl) dX11_readSum_20 (fun x_20 I_20 J_20 h_20 => ?_)
        obtain ⟨rfl, rfl, h_20⟩ := h_20
        refine vI1 hX (pc := 23) sX11_165 (xs_49 hL) (c_X11_takes0 l0 hL cI_11  pI_11 (pvw_tr kI_11 (by decide) (by decide) hc) (by omega) (by omega)) (by omega) (Nat.le_refl 0) (Nat.le_refl 0) (Nat.le_of_ble_eq_true rfl) dX11_readSum_23 (fun x_23 I_23 J_23 h_23 => ?_)
        have kJ_23 : Kp 49 73 Ja J_23 := Kp_tr kJ_11 h_23.2.1
        have kI_23 : Ch [] [16, 17, 18] Ia I_23 := Ch_tr kI_11 (Ch_wd h_23.1 (by decide) (by decide))
        have cI_23 : RX I_23 := h_23.2.2.1
        have qI_23 := RX_w cI_23
        have f15_I_23 : I_23 49 15 = I_11 49 15 := h_23.1.2 15 (by decide)
        have f17_I_23 : I_23 49 17 = I_11 49 17 := h_23.1.2 17 (by decide)
        have f18_I_23 : I_23 49 18 = I_11 49 18 := h_23.1.2 18 (by decide)
        have pI_23 : PI I_23 := h_23.2.2.2.1
        have oI_23 := PI_o pI_23
        have yI_23 := h_23.2.2.2.2
        refine ww_if_eq hX (pc := 26) (tgt := 37) dX11_readSum_26 (by decide) (fun h_26 => ?_) (fun h_26 => ?_)
        · simp only [w32_mod] at h_26
          obtain ⟨z23, n23⟩ := TK_0 yI_23.2.2.2 (by omega)
          refine rV hX (pc := 37) hT (Nat.le_refl 0) (Nat.le_refl 0) dX11_readSum_37 ?_
          exact ⟨kI_23, kJ_23, cI_23, pI_23, (by exact zLp6_e hlv (by omega) (by omega) (by omega) (fun g9 => by  have a0 := n11 (by omega); have a1 := n23 (by omega); rw [z11] at a1; simp only [List.mem_cons, List.not_mem_nil, or_false]; try omega)), by omega⟩
        · simp only [w32_mod] at h_26
          have s23 := TK_1 yI_23.2.2.2 (by omega)
          rw [z11] at s23
          refine ww_aload_n hX (pc := 29) dX11_readSum_29 rfl ?_
          refine ww_iload_n hX (pc := 30) dX11_readSum_30 rfl ?_
          refine vV1 hX (pc := 31) sX11_194 (xs_49 hL) (c6_X11_readTerm l0 hL cI_23  pI_23 (pvw_tr kI_23 (by decide) (by decide) hc) (zRL_tr kI_23 (by decide) (by decide) (by decide) hk) (m := m) hm hrec) (by omega) (Nat.le_refl 0) (Nat.le_refl 0) (Nat.le_of_ble_eq_true rfl) dX11_readSum_31 (fun I_31 J_31 h_31 => ?_)
          have kJ_31 : Kp 49 73 Ja J_31 := Kp_tr kJ_23 h_31.2.1
          have kI_31 : Ch [] [16, 17, 18] Ia I_31 := Ch_tr kI_23 (Ch_wd h_31.1 (by decide) (by decide))
          have cI_31 : RX I_31 := h_31.2.2.1
          have qI_31 := RX_w cI_31
          have f15_I_31 : I_31 49 15 = I_23 49 15 := h_31.1.2 15 (by decide)
          have pI_31 : PI I_31 := h_31.2.2.2.1
          have oI_31 := PI_o pI_31
          have yI_31 := h_31.2.2.2.2
          refine ww_goto hX (pc := 34) (tgt := 5) dX11_readSum_34 (by decide) ?_
          exact ih_5 _ (by omega) I_31 J_31 rfl ⟨kI_31, cI_31, kJ_31, by omega, pI_31, zLp6_s hlv (by have h7 := s23.1; omega) (by rw [s23.2.1]; simp only [List.mem_cons, List.not_mem_nil, or_false]; try omega) (by omega) (by omega) (by omega) (zRL_tr kI5 (by decide) (by decide) (by decide) hk).1 (PI_lt pI5 (by rw [← atI5]; have h8 := s23.2.1; omega)) hk.2.1 yI_31.1 (by omega), by omega⟩
  exact hl_5 _ I_2 J_2 rfl ⟨kI_2, cI_2, kJ_2, rfl, pI_2, zLp6_0 yI_2.1, by omega⟩
theorem c_URSum (l0 : Launch) : ∀ m : Nat, m ≤ 8 → URSum l0 m
  | 0, h => fun hL hQ hP _ hc _ _ _ hk => c6_X11_readSum l0 hL hQ hP hc hk (m := 0) h (fun mp e => absurd e (by omega))
  | m + 1, h => fun hL hQ hP _ hc _ _ _ hk => c6_X11_readSum l0 hL hQ hP hc hk (m := m + 1) h (fun mp e => by
      obtain rfl : m = mp := by omega
      exact c_URSum l0 m (by omega))
