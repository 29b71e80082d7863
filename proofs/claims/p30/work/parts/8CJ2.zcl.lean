/-! the class's reader of laws: what its rows say of TOKENS (codes cd, values vl, T of them) -/
def zKd (k c v : Int) : Prop := (c = 0 ∧ (k = 256 ∨ k = 257)) ∨ (1 ≤ c ∧ c ≤ 5 ∧ k = 257 + c) ∨ (6 ≤ c ∧ c ≤ 13 ∧ k = 5 - c) ∨ (c = 50 ∧ 0 ≤ v ∧ k = 300 + min v 1001) ∨ (100 ≤ c ∧ c ≤ 355 ∧ k = c - 100)
def zTK (I : aI1) (cd vl : Nat → Int) (T : Nat) : Prop := I 10 6 = T ∧ T ≤ 400 ∧ (∀ t, t ≤ T → zKd (I 11 t) (cd t) (vl t)) ∧ (I 11 T = 256 ∧ cd T = 0) ∧ (∀ t, t < T → ¬ I 11 t = 256 ∧ I 12 t + 1 ≤ I 12 (t + 1) ∧ (cd t = 3 ∨ cd t = 4 → I 12 t + 2 ≤ I 12 (t + 1))) ∧ (∀ t, t ≤ T → 0 ≤ I 12 t ∧ I 12 t ≤ 400)
def zFr (I I' : aI1) : Prop := I' 11 = I 11 ∧ I' 12 = I 12 ∧ I' 14 = I 14 ∧ I' 10 6 = I 10 6
theorem zFr_rf {I : aI1} : zFr I I := ⟨rfl, rfl, rfl, rfl⟩
theorem zFr_tr {I I1 I2 : aI1} (h : zFr I I1) (g : zFr I1 I2) : zFr I I2 := ⟨g.1.trans h.1, g.2.1.trans h.2.1, g.2.2.1.trans h.2.2.1, g.2.2.2.trans h.2.2.2⟩
theorem zFr_f {I I1 : aI1} {j : Nat} {v : Int} (h : zFr I I1) (hj : j ≠ 6) : zFr I (up2 I1 10 j v) := zFr_tr h ⟨up2_off _ _ _ (by decide), up2_off _ _ _ (by decide), up2_off _ _ _ (by decide), up2_n _ _ (Or.inr (Ne.symm hj))⟩
theorem zFr_13 {I I1 : aI1} {j : Nat} {v : Int} (h : zFr I I1) : zFr I (up2 I1 13 j v) := zFr_tr h ⟨up2_off _ _ _ (by decide), up2_off _ _ _ (by decide), up2_off _ _ _ (by decide), by rw [up2_off _ _ _ (by decide)]⟩
theorem zTK_fr {I I' : aI1} {cd vl : Nat → Int} {T : Nat} (h : zTK I cd vl T) (e11 : I' 11 = I 11) (e12 : I' 12 = I 12) (e6 : I' 10 6 = I 10 6) : zTK I' cd vl T := by
  unfold zTK at h ⊢
  rw [e11, e12, e6]
  exact h
theorem zTK_f {I I' : aI1} {cd vl : Nat → Int} {T : Nat} (h : zTK I cd vl T) (f : zFr I I') : zTK I' cd vl T := zTK_fr h f.1 f.2.1 f.2.2.2
def zAt (I : aI1) (T t l : Nat) : Prop := I 10 7 = t ∧ t ≤ T ∧ I 10 8 = I 11 t ∧ I 10 10 = l ∧ 0 ≤ I 10 9 ∧ I 10 9 ≤ I 12 t
theorem zK_b {I : aI1} {cd vl : Nat → Int} {T t l : Nat} (h : zTK I cd vl T) (ha : zAt I T t l) (k : Int) (h0 : 0 ≤ k) (h1 : k ≤ 255) : I 10 8 = k ↔ cd t = 100 + k := by
  have h2 := h.2.2.1 t ha.2.1
  rw [ha.2.2.1]
  unfold zKd at h2
  omega
theorem zK_w {I : aI1} {cd vl : Nat → Int} {T t l : Nat} (h : zTK I cd vl T) (ha : zAt I T t l) (k : Int) (h0 : 258 ≤ k) (h1 : k ≤ 262) : I 10 8 = k ↔ cd t = k - 257 := by
  have h2 := h.2.2.1 t ha.2.1
  rw [ha.2.2.1]
  unfold zKd at h2
  omega
theorem zK_lf {I : aI1} {cd vl : Nat → Int} {T t l : Nat} (h : zTK I cd vl T) (ha : zAt I T t l) : (I 10 8 < 0 → 6 ≤ cd t ∧ cd t ≤ 13 ∧ I 10 8 = 5 - cd t) ∧ (300 ≤ I 10 8 ∧ I 10 8 ≤ 1300 → cd t = 50 ∧ 0 ≤ vl t ∧ vl t ≤ 1000 ∧ I 10 8 = 300 + vl t) ∧ (¬ I 10 8 < 0 → ¬ (300 ≤ I 10 8 ∧ I 10 8 ≤ 1300) → ¬ (cd t = 50 ∧ vl t ≤ 1000) ∧ ¬ (6 ≤ cd t ∧ cd t ≤ 13)) := by
  have h2 := h.2.2.1 t ha.2.1
  rw [ha.2.2.1]
  unfold zKd at h2
  omega
theorem zK_e {I : aI1} {cd vl : Nat → Int} {T t l : Nat} (h : zTK I cd vl T) (ha : zAt I T t l) : I 10 8 = 256 ↔ t = T := by
  rw [ha.2.2.1]
  constructor
  · intro h1
    by_cases e : t = T
    · exact e
    · have h3 := ha.2.1
      exact absurd h1 (h.2.2.2.2.1 t (by omega)).1
  · intro e
    rw [e]
    exact h.2.2.2.1.1
theorem zK_lt {I : aI1} {cd vl : Nat → Int} {T t l : Nat} (h : zTK I cd vl T) (ha : zAt I T t l) (hc : ¬ cd t = 0) : t < T := by
  have h3 := ha.2.1
  by_cases e : t = T
  · rw [e] at hc
    exact absurd h.2.2.2.1.2 hc
  · omega
/-- what each small step does -/
def zAv (I I' : aI1) : Prop := I' 10 7 = min (I 10 7 + 1) (I 10 6) ∧ I' 10 8 = I 11 (I' 10 7).toNat ∧ I' 10 9 = I 10 9 ∧ I' 10 10 = I 10 10 ∧ I' 13 = I 13 ∧ I' 10 0 = I 10 0
def zSP (I I' : aI1) (a : Int) : Prop := I 10 9 < 400 → I' 10 9 = I 10 9 + 1 ∧ I' 10 7 = I 10 7 ∧ I' 10 8 = I 10 8 ∧ I' 10 10 = I 10 10 ∧ I' 13 = up1 (I 13) (I 10 9).toNat a ∧ I' 10 0 = I 10 0
def zOS (I I' : aI1) (a x : Int) : Prop := I 10 9 < 399 → x = I 10 9 + 1 ∧ I' 10 9 = I 10 9 + 2 ∧ I' 10 7 = I 10 7 ∧ I' 10 8 = I 10 8 ∧ I' 10 10 = I 10 10 ∧ I' 13 = up1 (up1 (I 13) (I 10 9).toNat a) (I 10 9 + 1).toNat 0 ∧ I' 10 0 = I 10 0
def zCS0 (I I' : aI1) (a : Int) : Prop := 0 ≤ a ∧ a < 400 → I' 10 9 = I 10 9 ∧ I' 10 7 = I 10 7 ∧ I' 10 8 = I 10 8 ∧ I' 10 10 = I 10 10 ∧ I' 13 = up1 (I 13) a.toNat (I 10 9) ∧ I' 10 0 = I 10 0
def zFa (I I' : aI1) (x : Int) : Prop := x = 0 ∧ I' 10 0 = I 12 (I 10 7).toNat
def zTS (I I' : aI1) (a x : Int) : Prop := (¬ I 10 8 = a → zFa I I' x) ∧ (I 10 8 = a → x = 1 ∧ zAv I I')
theorem zAt_av {I I' : aI1} {cd vl : Nat → Int} {T t l : Nat} (h : zTK I cd vl T) (ha : zAt I T t l) (hc : ¬ cd t = 0) (f : zFr I I') (hv : zAv I I') : zAt I' T (t + 1) l ∧ I' 13 = I 13 ∧ I' 10 9 = I 10 9 ∧ I 12 t + 1 ≤ I 12 (t + 1) ∧ (cd t = 3 ∨ cd t = 4 → I 12 t + 2 ≤ I 12 (t + 1)) ∧ I' 10 0 = I 10 0 := by
  have hlt := zK_lt h ha hc
  have h5 := (h.2.2.2.2.1 t hlt).2
  obtain ⟨v1, v2, v3, v4, v5, v0⟩ := hv
  obtain ⟨a1, a2, a3, a4, a5, a6⟩ := ha
  have e7 : I' 10 7 = ((t + 1 : Nat) : Int) := by
    rw [v1, a1, h.1]
    omega
  have h6 := h5.1
  refine ⟨⟨e7, by omega, ?_, by rw [v4, a4], by omega, ?_⟩, v5, v3, h5.1, h5.2, v0⟩
  · rw [v2, e7, f.1]
    rfl
  · rw [f.2.1, v3]
    omega
/-- read well: up to q -/
def zOk (Bq : zD → Prop) (I I' : aI1) (T t l : Nat) (q : Nat × Nat × zD) : Prop := zAt I' T q.1 q.2.1 ∧ t < q.1 ∧ l < q.2.1 ∧ I 10 9 < I' 10 9 ∧ I' 10 9 - I 10 9 ≤ I 12 q.1 - I 12 t ∧ (∀ j : Nat, (j : Int) < I 10 9 → I' 13 j = I 13 j) ∧ zSeg (I' 13) (I 10 9).toNat (I' 10 9).toNat q.2.2 (q.2.1 - l) ∧ Bq q.2.2 ∧ I' 10 0 = I 10 0
def zPO (Bq : zD → Prop) (I I' : aI1) (T t l : Nat) (x : Int) : zR → Prop
  | .inl f => x = 0 ∧ f ≤ T ∧ I' 10 0 = I 12 f
  | .inr q => x = 1 ∧ zOk Bq I I' T t l q
def zTr : zD → Prop := fun _ => True
theorem zPO_0 {Bq : zD → Prop} {I I' : aI1} {T t l : Nat} {x : Int} {r : zR} (h : zPO Bq I I' T t l x r) (hx : x = 0) : ∃ f, r = .inl f ∧ f ≤ T ∧ I' 10 0 = I 12 f := by
  cases r with
  | inl f => exact ⟨f, rfl, h.2⟩
  | inr q => exact absurd h.1 (by omega)
theorem zPO_1 {Bq : zD → Prop} {I I' : aI1} {T t l : Nat} {x : Int} {r : zR} (h : zPO Bq I I' T t l x r) (hx : x = 1) : ∃ q, r = .inr q ∧ zOk Bq I I' T t l q := by
  cases r with
  | inl f => exact absurd h.1 (by omega)
  | inr q => exact ⟨q, rfl, h.2⟩
theorem zPO_l {Bq : zD → Prop} {I I' : aI1} {T t l f : Nat} {x : Int} {r : zR} (hr : r = .inl f) (hx : x = 0) (hf : f ≤ T) (h0 : I' 10 0 = I 12 f) : zPO Bq I I' T t l x r := by
  rw [hr]
  exact ⟨hx, hf, h0⟩
theorem zPO_r {Bq : zD → Prop} {I I' : aI1} {T t l : Nat} {x : Int} {r : zR} {q : Nat × Nat × zD} (hr : r = .inr q) (hx : x = 1) (h : zOk Bq I I' T t l q) : zPO Bq I I' T t l x r := by
  rw [hr]
  exact ⟨hx, h⟩
theorem zPO_fa {Bq : zD → Prop} {I I' : aI1} {T t l : Nat} {x : Int} {r : zR} (ha : zAt I T t l) (h : zFa I I' x) (hr : r = .inl t) : zPO Bq I I' T t l x r := by
  have h2 := h.2
  rw [ha.1] at h2
  exact zPO_l hr h.1 ha.2.1 h2
/-- a fault behind the first TOKENS -/
theorem zPO_in {Bq : zD → Prop} {I I1 I' : aI1} {T t l f : Nat} {x : Int} {r : zR} (e12 : I1 12 = I 12) (hr : r = .inl f) (hx : x = 0) (hf : f ≤ T) (h0 : I' 10 0 = I1 12 f) : zPO Bq I I' T t l x r := zPO_l hr hx hf (by rw [h0, e12])
theorem zAv_at {I I2 I3 : aI1} {cd vl : Nat → Int} {T t l : Nat} (hk : zTK I cd vl T) (f2 : zFr I I2) (f3 : zFr I2 I3) (hv : zAv I2 I3) (hlt : t < T) (e7 : I2 10 7 = t) (e10 : I2 10 10 = l) (h0 : 0 ≤ I2 10 9) (h1 : I2 10 9 ≤ I 12 (t + 1)) : zAt I3 T (t + 1) l := by
  obtain ⟨v1, v2, v3, v4, v5, v0⟩ := hv
  have e6 : I2 10 6 = (T : Int) := f2.2.2.2.trans hk.1
  have e7' : I3 10 7 = ((t + 1 : Nat) : Int) := by
    rw [v1, e7, e6]
    omega
  refine ⟨e7', by omega, ?_, by rw [v4, e10], by omega, ?_⟩
  · rw [v2, e7', f3.1]
    rfl
  · rw [f3.2.1, f2.2.1, v3]
    exact h1
theorem zPO_lf {I I1 I2 I3 : aI1} {cd vl : Nat → Int} {T t l : Nat} {a : Int} (hk : zTK I cd vl T) (ha : zAt I T t l) (f1 : zFr I I1) (e13 : I1 13 = I 13) (e7 : I1 10 7 = I 10 7) (e9 : I1 10 9 = I 10 9) (e10 : I1 10 10 = I 10 10 + 1) (e0 : I1 10 0 = I 10 0) (f2 : zFr I1 I2) (hs : zSP I1 I2 a) (f3 : zFr I2 I3) (hv : zAv I2 I3) (hl : l < 50)
    (hc : (cd t = 50 ∧ 0 ≤ vl t ∧ vl t ≤ 1000 ∧ a = vl t) ∨ (6 ≤ cd t ∧ cd t ≤ 13 ∧ a = 5 - cd t)) : zPO zTr I I3 T t l 1 (zLe cd vl t l) := by
  have hlt := zK_lt hk ha (by omega)
  have hp := hk.2.2.2.2.2 t (by omega)
  have hp2 := hk.2.2.2.2.2 (t + 1) (by omega)
  have hp1 := (hk.2.2.2.2.1 t hlt).2.1
  obtain ⟨a1, a2, a3, a4, a5, a6⟩ := id ha
  obtain ⟨s1, s2, s3, s4, s5, s0⟩ := hs (by omega)
  have hat : zAt I3 T (t + 1) (l + 1) := zAv_at hk (zFr_tr f1 f2) f3 hv hlt (by omega) (by omega) (by omega) (by omega)
  have e13' : I3 13 = up1 (I 13) (I 10 9).toNat a := by rw [hv.2.2.2.2.1, s5, e13, e9]
  have e9' : I3 10 9 = I 10 9 + 1 := by rw [hv.2.2.1, s1, e9]
  have hD : ∃ D, zLf cd vl t = some D ∧ zSeg (I3 13) (I 10 9).toNat (I3 10 9).toNat D (l + 1 - l) := by
    rw [show (I3 10 9).toNat = (I 10 9).toNat + 1 by omega, show l + 1 - l = 1 by omega]
    have hv9 : I3 13 (I 10 9).toNat = a := by rw [e13', up1_s]
    rcases hc with ⟨c1, c2, c3, c4⟩ | ⟨c1, c2, c3⟩
    · exact ⟨_, zLf_n ⟨c1, c3⟩, zSeg_num (by rw [hv9, c4]) c2⟩
    · exact ⟨_, zLf_w ⟨c1, c2⟩, zSeg_wd (by rw [hv9, c3]) c1 c2⟩
  obtain ⟨D, d1, d2⟩ := hD
  refine zPO_r (zLe_s d1 hl) rfl ⟨hat, Nat.lt_succ_self t, Nat.lt_succ_self l, by omega, ?_, fun j hj => ?_, d2, trivial, by rw [hv.2.2.2.2.2, s0, e0]⟩
  · show I3 10 9 - I 10 9 ≤ I 12 (t + 1) - I 12 t
    omega
  · rw [e13', up1_n _ _ (by omega)]
/-- a bracket: behind the sign, the inner, the other sign -/
theorem zPO_bf {Bq : zD → Prop} {P : zP} {I I1 I2 : aI1} {cd : Nat → Int} {cl : Int} {T t l : Nat} {x y : Int} (f1 : zFr I I1) (hp : zPO Bq I1 I2 T (t + 1) l x (P (t + 1) l)) (hx : x = 0) (hy : y = 0) : zPO Bq I I2 T t l y (zBr (some P) cd cl t l) := by
  obtain ⟨f, h1, h2, h3⟩ := zPO_0 hp hx
  exact zPO_in f1.2.1 (zBr_f h1) hy h2 h3
theorem zPO_bs {Bq : zD → Prop} {P : zP} {I I1 I2 I3 : aI1} {cd vl : Nat → Int} {k cl : Int} {T t l : Nat} {x y : Int} (hk : zTK I cd vl T) (ha : zAt I T t l) (hc : ¬ cd t = 0) (f1 : zFr I I1) (hv : zAv I I1) (f2 : zFr I1 I2) (hp : zPO Bq I1 I2 T (t + 1) l x (P (t + 1) l)) (hx : x = 1) (f3 : zFr I2 I3) (hs : zTS I2 I3 k y) (h0 : 0 ≤ k) (h1 : k ≤ 255) (hcl : cl = 100 + k) : zPO Bq I I3 T t l y (zBr (some P) cd cl t l) := by
  obtain ⟨q, q1, q2⟩ := zPO_1 hp hx
  obtain ⟨b1, b2, b3, b4, b5, b6, b7, b8, b0⟩ := q2
  have hk2 : zTK I2 cd vl T := zTK_f (zTK_f hk f1) f2
  have hb := zK_b hk2 b1 k h0 h1
  subst hcl
  obtain ⟨v1, v2, v3, v4, v5, v0⟩ := zAt_av hk ha hc f1 hv
  by_cases e : I2 10 8 = k
  · have hcq := hb.mp e
    obtain ⟨t1, t2⟩ := hs.2 e
    obtain ⟨w1, w2, w3, w4, w5, w0⟩ := zAt_av hk2 b1 (by omega) f3 t2
    have e12 : I2 12 = I 12 := f2.2.1.trans f1.2.1
    have e12' : I1 12 = I 12 := f1.2.1
    rw [e12] at w4
    rw [e12'] at b5
    refine zPO_r (zBr_s q1 hcq) t1 ⟨w1, by show t < q.1 + 1; omega, b3, by omega, ?_, fun j hj => ?_, ?_, b8, by rw [w0, b0, v0]⟩
    · show I3 10 9 - I 10 9 ≤ I 12 (q.1 + 1) - I 12 t
      omega
    · rw [w2, b6 j (by omega), v2]
    · rw [w2, w3, ← v3]
      exact b7
  · have hcq : ¬ cd q.1 = 100 + k := fun h => e (hb.mpr h)
    obtain ⟨t1, t2⟩ := hs.1 e
    rw [b1.1] at t2
    refine zPO_in (I1 := I2) (f2.2.1.trans f1.2.1) (zBr_n q1 hcq) t1 b1.2.1 t2
/-- two put together -/
theorem zOk_jn {Bq Cq Dq : zD → Prop} {I I2 I3 I4 I5 : aI1} {cd vl : Nat → Int} {T t l : Nat} {q r : Nat × Nat × zD} {x op : Int} (hk : zTK I cd vl T) (f2 : zFr I I2) (h1 : zOk Bq I I2 T t l q) (hc : ¬ cd q.1 = 0) (f3 : zFr I2 I3) (hv : zAv I2 I3) (f4 : zFr I3 I4) (h2 : zOk Cq I3 I4 T (q.1 + 1) q.2.1 r) (f5 : zFr I4 I5) (hs : zSP I4 I5 x) (hx : -18 ≤ x ∧ x ≤ -11) (ho : zOc x = op) (hD : Dq (zJD op q.2.2 r.2.2)) : zOk Dq I I5 T t l (r.1, r.2.1, zJD op q.2.2 r.2.2) := by
  obtain ⟨a1, a2, a3, a4, a5, a6, a7, a8, a0⟩ := h1
  obtain ⟨b1, b2, b3, b4, b5, b6, b7, b8, b0⟩ := h2
  have hk2 := zTK_f hk f2
  obtain ⟨v1, v2, v3, v4, v5, v0⟩ := zAt_av hk2 a1 hc f3 hv
  have e2 : I2 12 = I 12 := f2.2.1
  have e3 : I3 12 = I 12 := f3.2.1.trans e2
  have e4 : I4 12 = I 12 := f4.2.1.trans e3
  have e5 : I5 12 = I 12 := f5.2.1.trans e4
  have hp := hk.2.2.2.2.2 r.1 b1.2.1
  rw [e2] at v4
  rw [e3] at b5
  obtain ⟨c1, c2, c3, c4, c5, c6⟩ := id b1
  obtain ⟨d1, d2, d3, d4, d5, d6⟩ := id a1
  rw [e2] at d6
  rw [e4] at c6
  obtain ⟨s1, s2, s3, s4, s5, s0⟩ := hs (by omega)
  refine ⟨⟨by rw [s2, c1], c2, by rw [s3, c3, f5.1], by rw [s4, c4], by omega, ?_⟩, ?_, ?_, by omega, ?_, fun j hj => ?_, ?_, hD, by rw [s0, b0, v0, a0]⟩
  · show I5 10 9 ≤ I5 12 r.1
    rw [e5]
    omega
  · show t < r.1
    omega
  · show l < r.2.1
    omega
  · show I5 10 9 - I 10 9 ≤ I 12 r.1 - I 12 t
    omega
  · rw [s5, up1_n _ _ (by omega), b6 j (by omega), v2, a6 j hj]
  · have g1 : zSeg (I5 13) (I 10 9).toNat (I2 10 9).toNat q.2.2 (q.2.1 - l) := zSeg_cg a7 (fun j j1 j2 => by rw [s5, up1_n _ _ (by omega), b6 j (by omega), v2])
    have g2 : zSeg (I5 13) (I2 10 9).toNat (I4 10 9).toNat r.2.2 (r.2.1 - q.2.1) := by
      rw [← v3]
      exact zSeg_cg b7 (fun j j1 j2 => by rw [s5, up1_n _ _ (by omega)])
    have g3 := zSeg_jn g1 g2 (x := x) (op := op) (by rw [s5, up1_s]) hx ho
    rw [show (I5 10 9).toNat = (I4 10 9).toNat + 1 by omega]
    rw [show q.2.1 - l + (r.2.1 - q.2.1) = r.2.1 - l by omega] at g3
    exact g3
theorem zOk_jb {Bq : zD → Prop} {I I2 I3 I4 I5 I6 : aI1} {cd vl : Nat → Int} {T t l : Nat} {q r : Nat × Nat × zD} {x op h9 : Int} (hk : zTK I cd vl T) (f2 : zFr I I2) (h1 : zOk Bq I I2 T t l q) (hc : cd q.1 = op) (f3 : zFr I2 I3) (hv : zAv I2 I3) (f4 : zFr I3 I4) (ho : zOS I3 I4 x h9) (f5 : zFr I4 I5) (h2 : zOk Bq I4 I5 T (q.1 + 1) q.2.1 r) (f6 : zFr I5 I6) (hs : zCS0 I5 I6 h9) (hx : (x = -20 ∧ op = 3) ∨ (x = -21 ∧ op = 4)) (hD : Bq (zJB op q.2.2 r.2.2)) : zOk Bq I I6 T t l (r.1, r.2.1, zJB op q.2.2 r.2.2) := by
  obtain ⟨a1, a2, a3, a4, a5, a6, a7, a8, a0⟩ := h1
  obtain ⟨b1, b2, b3, b4, b5, b6, b7, b8, b0⟩ := h2
  have hk2 := zTK_f hk f2
  obtain ⟨v1, v2, v3, v4, v5, v0⟩ := zAt_av hk2 a1 (by omega) f3 hv
  have v6 := v5 (by omega)
  have e2 : I2 12 = I 12 := f2.2.1
  have e3 : I3 12 = I 12 := f3.2.1.trans e2
  have e4 : I4 12 = I 12 := f4.2.1.trans e3
  have e5 : I5 12 = I 12 := f5.2.1.trans e4
  have e6 : I6 12 = I 12 := f6.2.1.trans e5
  have hp := hk.2.2.2.2.2 r.1 b1.2.1
  have hp2 := hk.2.2.2.2.2 (q.1 + 1) v1.2.1
  rw [e2] at v6
  rw [e4] at b5
  obtain ⟨c1, c2, c3, c4, c5, c6⟩ := id b1
  obtain ⟨d1, d2, d3, d4, d5, d6⟩ := id a1
  rw [e2] at d6
  rw [e5] at c6
  obtain ⟨o1, o2, o3, o4, o5, o6, o0⟩ := ho (by omega)
  obtain ⟨s1, s2, s3, s4, s5, s0⟩ := hs (by omega)
  refine ⟨⟨by rw [s2, c1], c2, by rw [s3, c3, f6.1], by rw [s4, c4], by omega, ?_⟩, ?_, ?_, by omega, ?_, fun j hj => ?_, ?_, hD, by rw [s0, b0, o0, v0, a0]⟩
  · show I6 10 9 ≤ I6 12 r.1
    rw [e6]
    omega
  · show t < r.1
    omega
  · show l < r.2.1
    omega
  · show I6 10 9 - I 10 9 ≤ I 12 r.1 - I 12 t
    omega
  · rw [s5, up1_n _ _ (by omega), b6 j (by omega), o6, up1_n _ _ (by omega), up1_n _ _ (by omega), v2, a6 j hj]
  · have g1 : zSeg (I6 13) (I 10 9).toNat (I2 10 9).toNat q.2.2 (q.2.1 - l) := zSeg_cg a7 (fun j j1 j2 => by rw [s5, up1_n _ _ (by omega), b6 j (by omega), o6, up1_n _ _ (by omega), up1_n _ _ (by omega), v2])
    have g2 : zSeg (I6 13) ((I2 10 9).toNat + 2) (I5 10 9).toNat r.2.2 (r.2.1 - q.2.1) := by
      rw [show (I2 10 9).toNat + 2 = (I4 10 9).toNat by omega]
      exact zSeg_cg b7 (fun j j1 j2 => by rw [s5, up1_n _ _ (by omega)])
    have k1 : I6 13 (I2 10 9).toNat = x := by
      rw [s5, up1_n _ _ (by omega), b6 _ (by omega), o6, up1_n _ _ (by omega), show (I2 10 9).toNat = (I3 10 9).toNat by omega, up1_s]
    have k2 : I6 13 ((I2 10 9).toNat + 1) = (((I5 10 9).toNat : Nat) : Int) := by
      rw [s5, show (I2 10 9).toNat + 1 = h9.toNat by omega, up1_s]
      omega
    have g3 := zSeg_jb g1 g2 (x := x) (op := op) k1 k2 hx
    rw [s1]
    rw [show q.2.1 - l + (r.2.1 - q.2.1) = r.2.1 - l by omega] at g3
    exact g3
/-- a row of them -/
def zLI (Bq : zD → Prop) (P : zP) (ops : List Int) (jn : Int → zD → zD → zD) (cd : Nat → Int) (n : Nat) (I I2 : aI1) (T t l : Nat) (r : zR) : Prop := ∃ q, zOk Bq I I2 T t l q ∧ zRest P ops jn cd n q.1 q.2.1 q.2.2 = r
theorem zLI_0 {Bq : zD → Prop} {P : zP} {ops : List Int} {jn : Int → zD → zD → zD} {cd : Nat → Int} {I I2 : aI1} {T t l : Nat} {x : Int} (h : zPO Bq I I2 T t l x (P t l)) (hx : x = 1) : zLI Bq P ops jn cd 400 I I2 T t l (zSeq P ops jn cd t l) := by
  obtain ⟨q, h1, h2⟩ := zPO_1 h hx
  exact ⟨q, h2, (zSeq_s h1).symm⟩
theorem zPO_sf {Bq : zD → Prop} {P : zP} {ops : List Int} {jn : Int → zD → zD → zD} {cd : Nat → Int} {I I2 : aI1} {T t l : Nat} {x y : Int} (h : zPO Bq I I2 T t l x (P t l)) (hx : x = 0) (hy : y = 0) : zPO Bq I I2 T t l y (zSeq P ops jn cd t l) := by
  obtain ⟨f, h1, h2, h3⟩ := zPO_0 h hx
  exact zPO_l (zSeq_f h1) hy h2 h3
theorem zLI_e {Bq : zD → Prop} {I I2 : aI1} {T t l : Nat} {q : Nat × Nat × zD} {r : zR} {x : Int} {P : zP} {ops : List Int} {jn : Int → zD → zD → zD} {cd : Nat → Int} {n : Nat} (h : zOk Bq I I2 T t l q) (hr : zRest P ops jn cd n q.1 q.2.1 q.2.2 = r) (hn : n = 0 ∨ ¬ cd q.1 ∈ ops) (hx : x = 1) : zPO Bq I I2 T t l x r := by
  refine zPO_r (q := q) ?_ hx h
  rw [← hr]
  rcases hn with rfl | hn
  · rfl
  · exact zRest_no hn n
theorem zLI_f {Bq Cq : zD → Prop} {I I3 I4 : aI1} {T t l n m : Nat} {q : Nat × Nat × zD} {r : zR} {x y : Int} {P : zP} {ops : List Int} {jn : Int → zD → zD → zD} {cd : Nat → Int} (e12 : I3 12 = I 12) (hr : zRest P ops jn cd n q.1 q.2.1 q.2.2 = r) (hn : n = m + 1) (hc : cd q.1 ∈ ops) (hp : zPO Cq I3 I4 T (q.1 + 1) q.2.1 x (P (q.1 + 1) q.2.1)) (hx : x = 0) (hy : y = 0) : zPO Bq I I4 T t l y r := by
  obtain ⟨f, h1, h2, h3⟩ := zPO_0 hp hx
  subst hn
  exact zPO_in e12 (hr.symm.trans (zRest_f hc h1)) hy h2 h3
theorem zLI_j {Bq : zD → Prop} {I I2 I3 I4 I5 : aI1} {cd vl : Nat → Int} {T t l n m : Nat} {q : Nat × Nat × zD} {r : zR} {x y : Int} {P : zP} {ops : List Int} (hk : zTK I cd vl T) (f2 : zFr I I2) (h : zOk Bq I I2 T t l q) (hr : zRest P ops zJD cd n q.1 q.2.1 q.2.2 = r) (hn : n = m + 1) (hc : cd q.1 ∈ ops) (hc0 : ¬ cd q.1 = 0) (f3 : zFr I2 I3) (hv : zAv I2 I3) (f4 : zFr I3 I4) (hp : zPO Bq I3 I4 T (q.1 + 1) q.2.1 y (P (q.1 + 1) q.2.1)) (hy : y = 1) (f5 : zFr I4 I5) (hs : zSP I4 I5 x) (hx : -18 ≤ x ∧ x ≤ -11) (ho : zOc x = cd q.1) (hD : ∀ a b, Bq (zJD (cd q.1) a b)) : zLI Bq P ops zJD cd m I I5 T t l r := by
  obtain ⟨p, h1, h2⟩ := zPO_1 hp hy
  subst hn
  exact ⟨(p.1, p.2.1, zJD (cd q.1) q.2.2 p.2.2), zOk_jn hk f2 h hc0 f3 hv f4 h2 f5 hs hx ho (hD _ _), (zRest_s hc h1).symm.trans hr⟩
theorem zLI_b {I I2 I3 I4 I5 I6 : aI1} {cd vl : Nat → Int} {T t l n m : Nat} {q : Nat × Nat × zD} {r : zR} {x y op h9 : Int} {P : zP} (hk : zTK I cd vl T) (f2 : zFr I I2) (h : zOk zBl I I2 T t l q) (hr : zRest P [op] zJB cd n q.1 q.2.1 q.2.2 = r) (hn : n = m + 1) (hc : cd q.1 = op) (f3 : zFr I2 I3) (hv : zAv I2 I3) (f4 : zFr I3 I4) (ho : zOS I3 I4 x h9) (f5 : zFr I4 I5) (hp : zPO zBl I4 I5 T (q.1 + 1) q.2.1 y (P (q.1 + 1) q.2.1)) (hy : y = 1) (f6 : zFr I5 I6) (hs : zCS0 I5 I6 h9) (hx : (x = -20 ∧ op = 3) ∨ (x = -21 ∧ op = 4)) : zLI zBl P [op] zJB cd m I I6 T t l r := by
  obtain ⟨p, h1, h2⟩ := zPO_1 hp hy
  subst hn
  refine ⟨(p.1, p.2.1, zJB (cd q.1) q.2.2 p.2.2), ?_, (zRest_s (by rw [hc]; exact List.mem_singleton.mpr rfl) h1).symm.trans hr⟩
  rw [hc]
  exact zOk_jb hk f2 h hc f3 hv f4 ho f5 h2 f6 hs hx (zBl_jb h.2.2.2.2.2.2.2.1 h2.2.2.2.2.2.2.2.1)
theorem zAt_os {I I3 I4 : aI1} {cd vl : Nat → Int} {T t l : Nat} {x h9 : Int} (hk : zTK I cd vl T) (ha : zAt I T t l) (hc : cd t = 3 ∨ cd t = 4) (f3 : zFr I I3) (hv : zAv I I3) (f4 : zFr I3 I4) (ho : zOS I3 I4 x h9) : zAt I4 T (t + 1) l ∧ h9 = I 10 9 + 1 ∧ 0 ≤ h9 ∧ h9 < 400 := by
  obtain ⟨v1, v2, v3, v4, v5, v0⟩ := zAt_av hk ha (by omega) f3 hv
  have v6 := v5 hc
  obtain ⟨a1, a2, a3, a4, a5, a6⟩ := id v1
  obtain ⟨d1, d2, d3, d4, d5, d6⟩ := id ha
  have hp := hk.2.2.2.2.2 (t + 1) a2
  obtain ⟨o1, o2, o3, o4, o5, o6, o0⟩ := ho (by omega)
  rw [f3.2.1] at a6
  exact ⟨⟨by omega, a2, by rw [o4, a3, f4.1], by omega, by omega, by rw [f4.2.1, f3.2.1]; omega⟩, by omega, by omega, by omega⟩
/-- the comparison -/
theorem zPO_c0 {S : zP} {I I2 : aI1} {cd : Nat → Int} {T t l : Nat} {x y : Int} (h : zPO zTr I I2 T t l x (S t l)) (hx : x = 0) (hy : y = 0) : zPO zBl I I2 T t l y (zCm S cd t l) := by
  obtain ⟨f, h1, h2, h3⟩ := zPO_0 h hx
  exact zPO_l (zCm_f h1) hy h2 h3
theorem zPO_c1 {S : zP} {I I2 I3 : aI1} {cd : Nat → Int} {T t l : Nat} {q : Nat × Nat × zD} {y : Int} (f2 : zFr I I2) (h1 : S t l = .inr q) (h2 : zOk zTr I I2 T t l q) (hc : ¬ (160 ≤ cd q.1 ∧ cd q.1 ≤ 162)) (hf : zFa I2 I3 y) : zPO zBl I I3 T t l y (zCm S cd t l) := by
  have h3 := hf.2
  rw [h2.1.1] at h3
  exact zPO_in f2.2.1 (zCm_n h1 hc) hf.1 h2.1.2.1 h3
theorem zPO_c2 {S : zP} {I I3 I4 : aI1} {cd : Nat → Int} {T t l : Nat} {q : Nat × Nat × zD} {x y : Int} (e12 : I3 12 = I 12) (h1 : S t l = .inr q) (hc : 160 ≤ cd q.1 ∧ cd q.1 ≤ 162) (hp : zPO zTr I3 I4 T (q.1 + 1) q.2.1 x (S (q.1 + 1) q.2.1)) (hx : x = 0) (hy : y = 0) : zPO zBl I I4 T t l y (zCm S cd t l) := by
  obtain ⟨f, g1, g2, g3⟩ := zPO_0 hp hx
  exact zPO_in e12 (zCm_g h1 hc g1) hy g2 g3
theorem zPO_c3 {S : zP} {I I2 I3 I4 I5 : aI1} {cd vl : Nat → Int} {T t l : Nat} {q : Nat × Nat × zD} {x y z : Int} (hk : zTK I cd vl T) (f2 : zFr I I2) (h1 : S t l = .inr q) (h2 : zOk zTr I I2 T t l q) (hc : 160 ≤ cd q.1 ∧ cd q.1 ≤ 162) (f3 : zFr I2 I3) (hv : zAv I2 I3) (f4 : zFr I3 I4) (hp : zPO zTr I3 I4 T (q.1 + 1) q.2.1 y (S (q.1 + 1) q.2.1)) (hy : y = 1) (f5 : zFr I4 I5) (hs : zSP I4 I5 x) (hx : -18 ≤ x ∧ x ≤ -11) (ho : zOc x = cd q.1) (hz : z = 1) : zPO zBl I I5 T t l z (zCm S cd t l) := by
  obtain ⟨p, g1, g2⟩ := zPO_1 hp hy
  exact zPO_r (zCm_s h1 hc g1) hz (zOk_jn hk f2 h2 (by omega) f3 hv f4 g2 f5 hs hx ho (zBl_jd hc))
/-- nots -/
def zNI (cd : Nat → Int) (n : Nat) (I I2 : aI1) (T t l t2 : Nat) (fl : Int) : Prop := zAt I2 T t2 l ∧ t ≤ t2 ∧ (I2 13 = I 13 ∧ I2 10 0 = I 10 0) ∧ I2 10 9 = I 10 9 ∧ (fl = 0 ∨ fl = 1) ∧ I 12 t + fl ≤ I 12 t2 ∧ I 12 t ≤ I 12 t2 ∧ zNt cd n t2 fl = zNt cd 400 t 0
theorem zNI_0 {cd : Nat → Int} {I : aI1} {T t l : Nat} (ha : zAt I T t l) : zNI cd 400 I I T t l t 0 := ⟨ha, Nat.le_refl _, ⟨rfl, rfl⟩, rfl, Or.inl rfl, by omega, Int.le_refl _, rfl⟩
theorem zNI_s {cd vl : Nat → Int} {n m : Nat} {I I2 I3 : aI1} {T t l t2 : Nat} {fl f2 : Int} (hk : zTK I cd vl T) (fr : zFr I I2) (h : zNI cd n I I2 T t l t2 fl) (hn : n = m + 1) (hc : cd t2 = 5) (f3 : zFr I2 I3) (hv : zAv I2 I3) (hf : f2 = 1 - fl) : zNI cd m I I3 T t l (t2 + 1) f2 := by
  obtain ⟨a1, a2, a3, a4, a5, a6, a7, a8⟩ := h
  obtain ⟨v1, v2, v3, v4, v5, v0⟩ := zAt_av (zTK_f hk fr) a1 (by omega) f3 hv
  rw [fr.2.1] at v4
  subst hn hf
  refine ⟨v1, by omega, ⟨v2.trans a3.1, v0.trans a3.2⟩, v3.trans a4, by omega, by omega, by omega, ?_⟩
  rw [← zNt_s hc]
  exact a8
theorem zNI_e {cd : Nat → Int} {n : Nat} {I I2 : aI1} {T t l t2 : Nat} {fl : Int} (h : zNI cd n I I2 T t l t2 fl) (hn : n = 0 ∨ ¬ cd t2 = 5) : zNt cd 400 t 0 = (t2, fl) := by
  rw [← h.2.2.2.2.2.2.2]
  rcases hn with rfl | hn
  · rfl
  · exact zNt_n hn n
theorem zPO_p0 {P : Option zP} {S : zP} {cd : Nat → Int} {n : Nat} {I I2 I3 : aI1} {T t l t2 : Nat} {fl x y : Int} (fr : zFr I I2) (h : zNI cd n I I2 T t l t2 fl) (hn : n = 0 ∨ ¬ cd t2 = 5) (hp : zPO zBl I2 I3 T t2 l x (zPos P S cd t2 l)) (hx : x = 0) (hy : y = 0) : zPO zBl I I3 T t l y (zPl P S cd t l) := by
  obtain ⟨f, g1, g2, g3⟩ := zPO_0 hp hx
  refine zPO_in fr.2.1 ?_ hy g2 g3
  rw [zPl_e (zNI_e h hn), g1]
  rfl
theorem zPO_p1 {P : Option zP} {S : zP} {cd : Nat → Int} {n : Nat} {I I2 I3 : aI1} {T t l t2 : Nat} {fl x y : Int} (fr : zFr I I2) (h : zNI cd n I I2 T t l t2 fl) (hn : n = 0 ∨ ¬ cd t2 = 5) (hp : zPO zBl I2 I3 T t2 l x (zPos P S cd t2 l)) (hx : x = 1) (hf : fl = 0) (hy : y = 1) : zPO zBl I I3 T t l y (zPl P S cd t l) := by
  obtain ⟨q, g1, g2⟩ := zPO_1 hp hx
  obtain ⟨a1, a2, a3, a4, a5, a6, a7, a8⟩ := id h
  obtain ⟨b1, b2, b3, b4, b5, b6, b7, b8, b0⟩ := g2
  rw [fr.2.1] at b5
  refine zPO_r (q := q) ?_ hy ⟨b1, by omega, b3, by omega, by omega, fun j hj => by rw [b6 j (by omega), a3.1], by rw [← a4]; exact b7, b8, by rw [b0, a3.2]⟩
  rw [zPl_e (zNI_e h hn), g1, hf]
  rfl
theorem zPO_p2 {P : Option zP} {S : zP} {cd vl : Nat → Int} {n : Nat} {I I2 I3 I4 : aI1} {T t l t2 : Nat} {fl x y a : Int} (hk : zTK I cd vl T) (ha9 : zAt I T t l) (fr : zFr I I2) (h : zNI cd n I I2 T t l t2 fl) (hn : n = 0 ∨ ¬ cd t2 = 5) (f3 : zFr I2 I3) (hp : zPO zBl I2 I3 T t2 l x (zPos P S cd t2 l)) (hx : x = 1) (hf : fl = 1) (f4 : zFr I3 I4) (hs : zSP I3 I4 a) (ha : a = -19) (hy : y = 1) : zPO zBl I I4 T t l y (zPl P S cd t l) := by
  obtain ⟨q, g1, g2⟩ := zPO_1 hp hx
  obtain ⟨a1, a2, a3, a4, a5, a6, a7, a8⟩ := id h
  obtain ⟨b1, b2, b3, b4, b5, b6, b7, b8, b0⟩ := g2
  obtain ⟨c1, c2, c3, c4, c5, c6⟩ := id b1
  obtain ⟨d1, d2, d3, d4, d5, d6⟩ := id a1
  have hp9 := hk.2.2.2.2.2 q.1 c2
  have ha8 := ha9.2.2.2.2.2
  rw [f3.2.1, fr.2.1] at c6
  rw [fr.2.1] at b5 d6
  subst hf ha
  obtain ⟨s1, s2, s3, s4, s5, s0⟩ := hs (by omega)
  refine zPO_r (q := (q.1, q.2.1, zFl q.2.2)) ?_ hy ⟨⟨by rw [s2, c1], c2, by rw [s3, c3, f4.1], by rw [s4, c4], by omega, ?_⟩, ?_, b3, by omega, ?_, fun j hj => ?_, ?_, zBl_fl b8, by rw [s0, b0, a3.2]⟩
  · rw [zPl_e (zNI_e h hn), g1]
    rfl
  · show I4 10 9 ≤ I4 12 q.1
    rw [f4.2.1, f3.2.1, fr.2.1]
    omega
  · show t < q.1
    omega
  · show I4 10 9 - I 10 9 ≤ I 12 q.1 - I 12 t
    omega
  · rw [s5, up1_n _ _ (by omega), b6 j (by omega), a3.1]
  · rw [show (I4 10 9).toNat = (I3 10 9).toNat + 1 by omega, ← a4]
    exact zSeg_fl (zSeg_cg b7 (fun j j1 j2 => by rw [s5, up1_n _ _ (by omega)])) b8 (by rw [s5, up1_s])
/-- a clause's steps -/
def zCS (sp : Nat → Int) (m0 m1 m2 : Int) (q : zQ) : Prop := ∃ a b c : Nat, m0 = a ∧ m1 = b ∧ m2 = c ∧ c ≤ 400 ∧ b ≤ c ∧ (∃ k, k ≤ 64 ∧ zSeg sp a b q.1 k) ∧ (match q.2 with
  | none => b = c
  | some F => ∃ k, k ≤ 64 ∧ zSeg sp b c F k)
theorem zCS_cg {sp sp2 : Nat → Int} {m0 m1 m2 : Int} {q : zQ} (h : zCS sp m0 m1 m2 q) (hs : ∀ j : Nat, (j : Int) < m2 → sp2 j = sp j) : zCS sp2 m0 m1 m2 q := by
  obtain ⟨a, b, c, h0, h1, h2, h3, h4, ⟨k, k1, k2⟩, h6⟩ := h
  refine ⟨a, b, c, h0, h1, h2, h3, h4, ⟨k, k1, zSeg_cg k2 (fun j j1 j2 => hs j (by omega))⟩, ?_⟩
  cases hq : q.2 with
  | none => rw [hq] at h6; exact h6
  | some F =>
    rw [hq] at h6
    obtain ⟨k', k3, k4⟩ := h6
    exact ⟨k', k3, zSeg_cg k4 (fun j j1 j2 => hs j (by omega))⟩
def zCs (sp mk : Nat → Int) (ac : List zQ) : Prop := ∀ i q, ac[i]? = some q → zCS sp (mk (2 * i)) (mk (2 * i + 1)) (mk (2 * i + 2)) q
/-- what takeClause leaves -/
def zCO (I I' : aI1) (T : Nat) (x : Int) : Nat ⊕ (Nat × Nat × zQ) → Prop
  | .inl f => x = 0 ∧ f ≤ T ∧ I' 10 0 = I 12 f
  | .inr q => x = 1 ∧ zAt I' T q.1 q.2.1 ∧ I' 10 11 = I 10 11 + 1 ∧ (∀ j : Nat, (j : Int) < 2 * I 10 11 → I' 14 j = I 14 j) ∧ (∀ j : Nat, (j : Int) < I 10 9 → I' 13 j = I 13 j) ∧ I' 14 (2 * I 10 11).toNat = I 10 9 ∧ I' 14 (2 * I 10 11 + 2).toNat = I' 10 9 ∧ I 10 9 ≤ I' 10 9 ∧ zCS (I' 13) (I' 14 (2 * I 10 11).toNat) (I' 14 (2 * I 10 11 + 1).toNat) (I' 14 (2 * I 10 11 + 2).toNat) q.2.2 ∧ I' 10 0 = I 10 0
theorem zCO_l {I I1 I' : aI1} {T f : Nat} {x : Int} {r : Nat ⊕ (Nat × Nat × zQ)} (e12 : I1 12 = I 12) (hr : r = .inl f) (hx : x = 0) (hf : f ≤ T) (h0 : I' 10 0 = I1 12 f) : zCO I I' T x r := by
  rw [hr]
  exact ⟨hx, hf, by rw [h0, e12]⟩
theorem zCO_0 {I I' : aI1} {T : Nat} {x : Int} {r : Nat ⊕ (Nat × Nat × zQ)} (h : zCO I I' T x r) (hx : x = 0) : ∃ f, r = .inl f ∧ f ≤ T ∧ I' 10 0 = I 12 f := by
  cases r with
  | inl f => exact ⟨f, rfl, h.2⟩
  | inr q => exact absurd h.1 (by omega)
theorem zCO_1 {I I' : aI1} {T : Nat} {x : Int} {r : Nat ⊕ (Nat × Nat × zQ)} (h : zCO I I' T x r) (hx : x = 1) : ∃ q, r = .inr q ∧ zCO I I' T x (.inr q) := by
  cases r with
  | inl f => exact absurd h.1 (by omega)
  | inr q => exact ⟨q, rfl, h⟩
theorem zCO_fa {I I' : aI1} {cd vl : Nat → Int} {T t l : Nat} {x : Int} (ha : zAt I T t l) (hc : ¬ cd t = 1) (h : zFa I I' x) : zCO I I' T x (zCl cd vl t l) := by
  have h2 := h.2
  rw [ha.1] at h2
  exact zCO_l (I1 := I) rfl (zCl_0 hc) h.1 ha.2.1 h2
theorem zCO_f {I I1 I2 : aI1} {cd vl : Nat → Int} {T t l : Nat} {x y : Int} (e12 : I1 12 = I 12) (hc : cd t = 1) (h : zPO zTr I1 I2 T (t + 1) l x (zS cd vl 8 (t + 1) l)) (hx : x = 0) (hy : y = 0) : zCO I I2 T y (zCl cd vl t l) := by
  obtain ⟨f, h1, h2, h3⟩ := zPO_0 h hx
  exact zCO_l e12 (zCl_f hc h1) hy h2 h3
theorem zCO_g {I I1 I2 : aI1} {cd vl : Nat → Int} {T t l : Nat} {q : Nat × Nat × zD} {x y : Int} (e12 : I1 12 = I 12) (hc : cd t = 1) (h1 : zS cd vl 8 (t + 1) l = .inr q) (hc2 : cd q.1 = 2) (h : zPO zBl I1 I2 T (q.1 + 1) q.2.1 x (zT cd vl 8 (q.1 + 1) q.2.1)) (hx : x = 0) (hy : y = 0) : zCO I I2 T y (zCl cd vl t l) := by
  obtain ⟨f, h4, h2, h3⟩ := zPO_0 h hx
  exact zCO_l e12 (zCl_g hc h1 hc2 h4) hy h2 h3
def zM3 (F : Nat → Int) (cc a b c : Int) : Nat → Int := up1 (up1 (up1 F (2 * cc).toNat a) (2 * cc + 1).toNat b) (2 * cc + 2).toNat c
theorem zM3_0 {F : Nat → Int} {cc a b c : Int} {j : Nat} (h : (j : Int) < 2 * cc) : zM3 F cc a b c j = F j := by
  unfold zM3
  rw [up1_n _ _ (by omega), up1_n _ _ (by omega), up1_n _ _ (by omega)]
theorem zM3_1 {F : Nat → Int} {cc a b c : Int} (h : 0 ≤ cc) : zM3 F cc a b c (2 * cc).toNat = a ∧ zM3 F cc a b c (2 * cc + 1).toNat = b ∧ zM3 F cc a b c (2 * cc + 2).toNat = c := by
  unfold zM3
  refine ⟨?_, ?_, up1_s _ _ _⟩
  · rw [up1_n _ _ (by omega), up1_n _ _ (by omega), up1_s]
  · rw [up1_n _ _ (by omega), up1_s]
theorem zCO_n {I I1 I2 I' : aI1} {cd vl : Nat → Int} {T t l : Nat} {q : Nat × Nat × zD} {x : Int} (hk : zTK I cd vl T) (hc : cd t = 1) (h1 : zS cd vl 8 (t + 1) l = .inr q) (hc2 : ¬ cd q.1 = 2) (h : zOk zTr I1 I2 T (t + 1) l q) (e9 : I1 10 9 = I 10 9) (e13 : I1 13 = I 13) (e0 : I1 10 0 = I 10 0) (e12 : I1 12 = I 12)
    (h10 : I2 10 10 ≤ 50) (hcc : 0 ≤ I 10 11) (h0 : 0 ≤ I 10 9) (g7 : I' 10 7 = I2 10 7) (g8 : I' 10 8 = I2 10 8) (g9 : I' 10 9 = I2 10 9) (g10 : I' 10 10 = I2 10 10) (g0 : I' 10 0 = I2 10 0) (g11 : I' 11 = I2 11) (g12 : I' 12 = I2 12) (e12' : I2 12 = I1 12) (g13 : I' 13 = I2 13) (gc : I' 10 11 = I 10 11 + 1) (g14 : I' 14 = zM3 (I 14) (I 10 11) (I 10 9) (I2 10 9) (I2 10 9)) (hx : x = 1) : zCO I I' T x (zCl cd vl t l) := by
  obtain ⟨a1, a2, a3, a4, a5, a6, a7, a8, a0⟩ := h
  obtain ⟨c1, c2, c3, c4, c5, c6⟩ := id a1
  rw [zCl_n hc h1 hc2]
  obtain ⟨m1, m2, m3⟩ := zM3_1 (F := I 14) (a := I 10 9) (b := I2 10 9) (c := I2 10 9) hcc
  have hp := hk.2.2.2.2.2 q.1 c2
  rw [e12', e12] at c6
  refine ⟨hx, ⟨by rw [g7, c1], c2, by rw [g8, c3, g11], by rw [g10, c4], by omega, by show I' 10 9 ≤ I' 12 q.1; rw [g12, e12', e12, g9]; exact c6⟩, gc, fun j hj => by rw [g14, zM3_0 hj], fun j hj => by rw [g13, a6 j (by omega), e13], by rw [g14, m1], by rw [g14, m3, g9], by omega, ?_, by rw [g0, a0, e0]⟩
  rw [g14, m1, m2, m3]
  refine ⟨(I 10 9).toNat, (I2 10 9).toNat, (I2 10 9).toNat, by omega, by omega, by omega, by omega, Nat.le_refl _, ⟨q.2.1 - l, by omega, ?_⟩, rfl⟩
  rw [g13, ← e9]
  exact a7
theorem zCO_s {I I1 I2 I3 I4 I' : aI1} {cd vl : Nat → Int} {T t l : Nat} {q r : Nat × Nat × zD} {x : Int} (hk : zTK I cd vl T) (hc : cd t = 1) (h1 : zS cd vl 8 (t + 1) l = .inr q) (hc2 : cd q.1 = 2) (h : zOk zTr I1 I2 T (t + 1) l q) (e9 : I1 10 9 = I 10 9) (e13 : I1 13 = I 13) (e0 : I1 10 0 = I 10 0) (e12 : I1 12 = I 12)
    (h3 : zT cd vl 8 (q.1 + 1) q.2.1 = .inr r) (k : zOk zBl I3 I4 T (q.1 + 1) q.2.1 r) (k9 : I3 10 9 = I2 10 9) (k13 : I3 13 = I2 13) (k0 : I3 10 0 = I2 10 0)
    (h10 : I4 10 10 ≤ 50) (hcc : 0 ≤ I 10 11) (h0 : 0 ≤ I 10 9) (g7 : I' 10 7 = I4 10 7) (g8 : I' 10 8 = I4 10 8) (g9 : I' 10 9 = I4 10 9) (g10 : I' 10 10 = I4 10 10) (g0 : I' 10 0 = I4 10 0) (g11 : I' 11 = I4 11) (g12 : I' 12 = I4 12) (e12' : I4 12 = I 12) (g13 : I' 13 = I4 13) (gc : I' 10 11 = I 10 11 + 1) (g14 : I' 14 = zM3 (I 14) (I 10 11) (I 10 9) (I2 10 9) (I4 10 9)) (hx : x = 1) : zCO I I' T x (zCl cd vl t l) := by
  obtain ⟨a1, a2, a3, a4, a5, a6, a7, a8, a0⟩ := h
  obtain ⟨b1, b2, b3, b4, b5, b6, b7, b8, b0⟩ := k
  obtain ⟨c1, c2, c3, c4, c5, c6⟩ := id b1
  rw [zCl_s hc h1 hc2 h3]
  obtain ⟨m1, m2, m3⟩ := zM3_1 (F := I 14) (a := I 10 9) (b := I2 10 9) (c := I4 10 9) hcc
  have hp := hk.2.2.2.2.2 r.1 c2
  rw [e12'] at c6
  refine ⟨hx, ⟨by rw [g7, c1], c2, by rw [g8, c3, g11], by rw [g10, c4], by omega, by show I' 10 9 ≤ I' 12 r.1; rw [g12, e12', g9]; exact c6⟩, gc, fun j hj => by rw [g14, zM3_0 hj], fun j hj => by rw [g13, b6 j (by omega), k13, a6 j (by omega), e13], by rw [g14, m1], by rw [g14, m3, g9], by omega, ?_, by rw [g0, b0, k0, a0, e0]⟩
  rw [g14, m1, m2, m3]
  refine ⟨(I 10 9).toNat, (I2 10 9).toNat, (I4 10 9).toNat, by omega, by omega, by omega, by omega, by omega, ⟨q.2.1 - l, by omega, ?_⟩, ⟨r.2.1 - q.2.1, by omega, ?_⟩⟩
  · rw [g13, ← e9]
    exact zSeg_cg a7 (fun j j1 j2 => by rw [b6 j (by omega), k13])
  · show zSeg (I' 13) (I2 10 9).toNat (I4 10 9).toNat r.2.2 (r.2.1 - q.2.1)
    rw [g13, ← k9]
    exact b7
/-- the clauses read till now -/
def zLI2 (cd vl : Nat → Int) (n : Nat) (I2 : aI1) (T : Nat) (r : Nat ⊕ List zQ) : Prop := ∃ (ac : List zQ) (t l : Nat), zAt I2 T t l ∧ I2 10 11 = ac.length ∧ zCs (I2 13) (I2 14) ac ∧ (ac = [] ∨ I2 14 (2 * ac.length) = I2 10 9) ∧ (∀ i, i ≤ ac.length → i ≠ 0 → I2 14 (2 * i) ≤ I2 10 9) ∧ zLa ac (zLw cd vl T n t l) = r
/-- what takeClauses leaves -/
def zLO (I I' : aI1) (T : Nat) (x : Int) : Nat ⊕ List zQ → Prop
  | .inl f => x = 0 ∧ f ≤ T ∧ I' 10 0 = I 12 f
  | .inr qs => x = 1 ∧ I' 10 11 = qs.length ∧ zCs (I' 13) (I' 14) qs ∧ (∀ i, i ≤ qs.length → i ≠ 0 → I' 14 (2 * i) ≤ I' 10 9) ∧ I' 10 0 = I 10 0
theorem zLO_l {I I1 I' : aI1} {T f : Nat} {x : Int} {r : Nat ⊕ List zQ} (e12 : I1 12 = I 12) (hr : r = .inl f) (hx : x = 0) (hf : f ≤ T) (h0 : I' 10 0 = I1 12 f) : zLO I I' T x r := by
  rw [hr]
  exact ⟨hx, hf, by rw [h0, e12]⟩
theorem zCs_ad {sp sp2 mk mk2 : Nat → Int} {ac : List zQ} {q : zQ} {b e9 : Int} (h : zCs sp mk ac) (hb : ∀ i, i ≤ ac.length → i ≠ 0 → mk (2 * i) ≤ b) (hs : ∀ j : Nat, (j : Int) < b → sp2 j = sp j) (hm : ∀ j : Nat, j < 2 * ac.length → mk2 j = mk j) (hl : ac = [] ∨ mk2 (2 * ac.length) = mk (2 * ac.length)) (hq : zCS sp2 (mk2 (2 * ac.length)) (mk2 (2 * ac.length + 1)) (mk2 (2 * ac.length + 2)) q) : zCs sp2 mk2 (ac ++ [q]) := by
  intro i p hp
  by_cases hi : i < ac.length
  · rw [List.getElem?_append_left hi] at hp
    have h1 := h i p hp
    have h2 := hb (i + 1) (by omega) (by omega)
    have h3 : mk2 (2 * i + 2) = mk (2 * i + 2) := by
      by_cases h4 : i + 1 < ac.length
      · exact hm _ (by omega)
      · rcases hl with rfl | hl
        · simp at hi
        · rw [show 2 * i + 2 = 2 * ac.length by omega]
          exact hl
    rw [hm _ (by omega), hm _ (by omega), h3]
    rw [show 2 * (i + 1) = 2 * i + 2 by omega] at h2
    exact zCS_cg h1 (fun j hj => hs j (by omega))
  · have hi2 : i = ac.length := by
      have := (List.getElem?_eq_some_iff.mp hp).1
      rw [List.length_append, List.length_singleton] at this
      omega
    subst hi2
    rw [List.getElem?_append_right (Nat.le_refl _), Nat.sub_self] at hp
    cases hp
    exact hq
theorem zLI2_0 {cd vl : Nat → Int} {I : aI1} {T : Nat} (ha : zAt I T 0 0) (h : I 10 11 = 0) : zLI2 cd vl 12 I T (zLw cd vl T 12 0 0) := ⟨[], 0, 0, ha, by rw [h]; rfl, fun i q hq => by simp at hq, Or.inl rfl, fun i hi h0 => absurd (Nat.le_zero.mp hi) h0, by cases zLw cd vl T 12 0 0 <;> rfl⟩
/-- one clause more -/
theorem zLI2_c {cd vl : Nat → Int} {I2 I3 : aI1} {T t l : Nat} {ac : List zQ} {q : Nat × Nat × zQ} {x : Int} (h1 : I2 10 11 = ac.length) (h2 : zCs (I2 13) (I2 14) ac) (h3 : ac = [] ∨ I2 14 (2 * ac.length) = I2 10 9) (h4 : ∀ i, i ≤ ac.length → i ≠ 0 → I2 14 (2 * i) ≤ I2 10 9) (h : zCO I2 I3 T x (.inr q)) : I3 10 11 = (ac ++ [q.2.2]).length ∧ zCs (I3 13) (I3 14) (ac ++ [q.2.2]) ∧ I3 14 (2 * (ac ++ [q.2.2]).length) = I3 10 9 ∧ (∀ i, i ≤ (ac ++ [q.2.2]).length → i ≠ 0 → I3 14 (2 * i) ≤ I3 10 9) := by
  obtain ⟨-, -, c1, c2, c3, c4, c5, c6, c7, -⟩ := h
  rw [h1] at c1 c2 c4 c5 c7
  rw [show (2 * (ac.length : Int)).toNat = 2 * ac.length by omega] at c4 c7
  rw [show (2 * (ac.length : Int) + 2).toNat = 2 * ac.length + 2 by omega] at c5 c7
  rw [show (2 * (ac.length : Int) + 1).toNat = 2 * ac.length + 1 by omega] at c7
  have hl : (ac ++ [q.2.2]).length = ac.length + 1 := by rw [List.length_append, List.length_singleton]
  rw [hl]
  refine ⟨by rw [c1]; rfl, zCs_ad (b := I2 10 9) (e9 := 0) h2 h4 c3 (fun j hj => c2 j (by omega)) (h3.imp id (fun e => by rw [c4, e])) c7, by rw [show 2 * (ac.length + 1) = 2 * ac.length + 2 by omega]; exact c5, fun i hi h0 => ?_⟩
  by_cases e1 : i = ac.length + 1
  · rw [e1, show 2 * (ac.length + 1) = 2 * ac.length + 2 by omega, c5]
    exact Int.le_refl _
  · by_cases e2 : i = ac.length
    · rw [e2, c4]
      exact c6
    · have := h4 i (by omega) h0
      rw [c2 _ (by omega)]
      omega
