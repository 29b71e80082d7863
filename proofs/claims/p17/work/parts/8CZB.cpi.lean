/-! the coupling of all that is told, kept and drawn -/
/-- OIL and CODE are in range, what is LIT too -/
def OKr (k : Nat → Int) : Prop := (∀ l, l < 8 → 0 ≤ k (256 + l) ∧ k (256 + l) ≤ 99) ∧ (∀ s : Nat, (s : Int) ≤ FU (k 304) → -1 ≤ k s ∧ k s < k 305) ∧ k 307 ≤ FU (k 304)
def OK8 (I : aI1) : Prop := OKr (I 51) ∧ ∀ i, i < 2 → I 53 i ≠ 0 → OKr (fun j => I 52 (5117 * i + j))
/-- status and refusals are the same -/
def SA8 (I : aI1) : Prop := I 0 16 = I 49 0 ∧ ∀ j, j < 7 → I 48 j = I 50 j
/-- what is LIT, the LOG -/
def TL8 (I : aI1) : Prop := I 1 8 = I 51 307 ∧ I 1 10 = I 51 308 ∧ ∀ j : Nat, j < 24 → (j : Int) < I 1 10 → I 5 j = I 51 (264 + j)
def IM8 (I : aI1) (R : aR1) : Prop := ∀ i, i < 2 → ∀ c, R 7 i = some c → I c 8 = I 52 (5117 * i + 307) ∧ I c 10 = I 52 (5117 * i + 308) ∧ ∀ j : Nat, j < 24 → (j : Int) < I c 10 → I (c + 4) j = I 52 (5117 * i + (264 + j))
/-- the DRAWN NIGHT -/
def DR8 (I : aI1) : Prop := (I 49 39 = -1 ∧ I 0 13 = 0 ∧ I 0 14 = -1) ∨ (I 49 39 = I 0 13 ∧ I 49 40 = I 0 14 ∧ ∀ j : Nat, (j : Int) < I 0 13 → I 47 j = I 72 j)
def CPI (I J : aI1) (R : aR1) (S : aS1) (v : Int) : Prop := CPH I R S ∧ (FRk I J ∧ QF I J v) ∧ OK8 I ∧ (SA8 I ∧ TL8 I) ∧ IM8 I R ∧ DR8 I
theorem QF_mn {I J : aI1} {v w : Int} (h : QF I J v) (hv : v ≤ w) : QF I J w := QF_kp h rfl rfl rfl rfl rfl hv
theorem CPI_mn {I J : aI1} {R : aR1} {S : aS1} {v w : Int} (h : CPI I J R S v) (hv : v ≤ w) : CPI I J R S w := ⟨h.1, ⟨h.2.1.1, QF_mn h.2.1.2 hv⟩, h.2.2⟩
theorem OKr_k {f g : Nat → Int} (h : OKr f) (e : ∀ j, (j < 264 ∨ j = 304 ∨ j = 305) → g j = f j) (e7 : g 307 ≤ FU (g 304)) (hn : 0 ≤ FU (g 304) ∧ FU (g 304) ≤ 255) : OKr g :=
  ⟨fun l hl => by rw [e _ (by omega)]; exact h.1 l hl, fun s hs => by rw [e s (by omega), e 305 (by omega)]; exact h.2.1 s (by rw [← e 304 (by omega)]; exact hs), e7⟩
theorem OK8_n {I B : aI1} (h : OK8 I) (n : OKr (B 51)) (e52 : B 52 = I 52) (e53 : B 53 = I 53) : OK8 B :=
  ⟨n, fun i hi h9 => by rw [e53] at h9; rw [e52]; exact h.2 i hi h9⟩
theorem OK8_k {I B : aI1} (h : OK8 I) (e : ∀ j, (j < 264 ∨ j = 304 ∨ j = 305 ∨ j = 307) → B 51 j = I 51 j) (e52 : B 52 = I 52) (e53 : B 53 = I 53) (hn : FU (I 51 304) ≤ 255) : OK8 B :=
  OK8_n h ⟨fun l hl => by rw [e _ (by omega)]; exact h.1.1 l hl, fun s hs => by
    rw [e 304 (by omega)] at hs
    rw [e s (by omega), e 305 (by omega)]
    exact h.1.2.1 s hs, by rw [e 307 (by omega), e 304 (by omega)]; exact h.1.2.2⟩ e52 e53
theorem SA8_k {I B : aI1} (h : SA8 I) (e0 : B 0 16 = I 0 16) (e48 : B 48 = I 48) (f0 : B 49 0 = I 49 0) (e50 : B 50 = I 50) : SA8 B :=
  ⟨by rw [e0, f0]; exact h.1, fun j hj => by rw [e48, e50]; exact h.2 j hj⟩
theorem SA8_r {I A B JA JB : aI1} {k y : Int} (h : SA8 I) (a0 : A 0 16 = k) (a48 : A 48 = up1 (I 48) (-k).toNat (I 48 (-k).toNat + 1)) (q : RQ9 y A B JA JB) (e : y = k) (lo : ∀ j, j < 49 ∨ 73 ≤ j → B j = A j) (z50 : A 50 = I 50) : SA8 B := by
  subst e
  refine ⟨by rw [lo 0 (by decide), a0, q.1], fun j hj => ?_⟩
  rw [lo 48 (by decide), a48, q.2.1, z50]
  by_cases e9 : j = (-y).toNat
  · rw [e9, up1_s, up1_s, h.2 _ (by omega)]
  · rw [up1_n _ _ e9, up1_n _ _ e9]
    exact h.2 j hj
theorem SA8_a {I A B : aI1} (h : SA8 I) (a0 : A 0 16 = 0) (a48 : A 48 = I 48) (q : GQ9 A B) (lo : ∀ j, j < 49 ∨ 73 ≤ j → B j = A j) (z50 : A 50 = I 50) : SA8 B :=
  ⟨by rw [lo 0 (by decide), a0, q.1], fun j hj => by rw [lo 48 (by decide), a48, q.2.1, z50]; exact h.2 j hj⟩
theorem TL8_k {I B : aI1} (h : TL8 I) (e8 : B 1 8 = I 1 8) (e10 : B 1 10 = I 1 10) (e5 : B 5 = I 5) (e : ∀ j, ((264 ≤ j ∧ j < 288) ∨ j = 307 ∨ j = 308) → B 51 j = I 51 j) : TL8 B :=
  ⟨by rw [e8, e 307 (by omega)]; exact h.1, by rw [e10, e 308 (by omega)]; exact h.2.1, fun j hj h9 => by rw [e5, e _ (by omega)]; exact h.2.2 j hj (by omega)⟩
theorem TL8_0 {B : aI1} (e8 : B 1 8 = 0) (e10 : B 1 10 = 0) (b7 : B 51 307 = 0) (b8 : B 51 308 = 0) : TL8 B := ⟨by rw [e8, b7], by rw [e10, b8], fun j _ h9 => absurd h9 (by omega)⟩
theorem IM8_k {I B : aI1} {R R' : aR1} {S : aS1} (h : IM8 I R) (hC : CI I R S) (r7 : R' 7 = R 7) (e52 : B 52 = I 52) (hk : ∀ k, 73 ≤ k → k < S.length → B k = I k) : IM8 B R' := fun i hi c hc => by
  rw [r7] at hc
  obtain ⟨k1, k2, k3⟩ := coast_lt (hC.2.2.2 i hi c hc)
  rw [hk c (by omega) (by omega), hk (c + 4) (by omega) (by omega), e52]
  exact h i hi c hc
theorem DR8_k {I B : aI1} (h : DR8 I) (d13 : B 0 13 = I 0 13) (d14 : B 0 14 = I 0 14) (e47 : B 47 = I 47) (f39 : B 49 39 = I 49 39) (f40 : B 49 40 = I 49 40) (e72 : B 72 = I 72) : DR8 B := by
  unfold DR8
  rw [d13, d14, e47, f39, f40, e72]
  exact h
theorem cnR_0 (F : Nat → Int) : ∀ n, 0 ≤ cnR F n
  | 0 => Int.le_refl 0
  | n + 1 => by
    have h := cnR_0 F n
    have e := cnR_s F (i := (n : Int)) (by omega)
    rw [show ((n : Int) + 1).toNat = n + 1 by omega, show ((n : Int)).toNat = n by omega] at e
    rw [e]
    split <;> omega
theorem zGv_k {K : Int} {r : Option Int} (h0 : 0 ≤ K) : -1 ≤ zGv K r ∧ zGv K r < K := by
  cases r with
  | none => exact ⟨Int.le_refl _, by show (-1 : Int) < K; omega⟩
  | some x =>
    show -1 ≤ (if 0 ≤ x ∧ x < K then x else -1) ∧ (if 0 ≤ x ∧ x < K then x else -1) < K
    split <;> omega
theorem gd_k {k N c s : Nat} (hk : 0 < k) (hs : s < N) : gd (dgs k N c) s < k := by
  unfold dgs
  rw [(mkL_v (dg k N c) N []).2.1 s hs]
  exact Nat.mod_lt _ hk
/-! what the calls want -/
theorem CP_O {I J : aI1} {R : aR1} {S : aS1} {v : Int} (h : CPI I J R S v) : ∀ j, j < 8 → 0 ≤ I 2 j ∧ I 2 j ≤ 99 := fun j hj => by
  have h1 : OL5 I := h.1.1.1.2.2.1
  rw [h1 j hj]
  exact h.2.2.1.1.1 j hj
theorem CP_K {I J : aI1} {R : aR1} {S : aS1} {v : Int} (h : CPI I J R S v) (hC : CI I R S) : ∀ s : Nat, (s : Int) ≤ FU (I 1 5) → I 3 s < I 1 6 := fun s hs => by
  obtain ⟨⟨⟨⟨-, -, -, q5, q6, -, -⟩, -⟩, -⟩, hc, -⟩ := id h.1
  have x5 := XI_o hC.2.1.1
  have hf := FU_r x5.1.1 x5.1.2
  rw [hc s (by omega), q6]
  exact (h.2.2.1.1.2.1 s (by rw [← q5]; exact hs)).2
theorem CR_O {I J A : aI1} {R : aR1} {S : aS1} {v : Int} (h : CPI I J R S v) (e : A 51 = I 51) : ∀ l, l < 8 → 0 ≤ A 51 (256 + l) ∧ A 51 (256 + l) ≤ 99 := by
  rw [e]
  exact h.2.2.1.1.1
theorem CR_K {I J A : aI1} {R : aR1} {S : aS1} {v : Int} (h : CPI I J R S v) (e : A 51 = I 51) : ∀ s : Nat, (s : Int) ≤ FU (A 51 304) → A 51 s < A 51 305 := by
  rw [e]
  exact fun s hs => (h.2.2.1.1.2.1 s hs).2
theorem CR_c {I J A : aI1} {R : aR1} {S : aS1} {v : Int} (h : CPI I J R S v) (hQ : RX I) (e : A 51 = I 51) : ∀ t : Nat, (t : Int) ≤ FU (A 51 304) → -1 ≤ A 51 t ∧ A 51 t ≤ 7 := by
  rw [e]
  have q := (RX_o hQ).2.1
  exact fun t ht => ⟨(h.2.2.1.1.2.1 t ht).1, by have := (h.2.2.1.1.2.1 t ht).2; omega⟩
theorem CR_7 {I J A : aI1} {R : aR1} {S : aS1} {v : Int} (h : CPI I J R S v) (e : A 51 = I 51) : A 51 307 ≤ FU (A 51 304) := by
  rw [e]
  exact h.2.2.1.1.2.2
theorem CR_q {I J A JA : aI1} {R : aR1} {S : aS1} {v : Int} (h : CPI I J R S v) (zz : ∀ k, 49 ≤ k → A k = I k) (zj : JA 62 = J 62) : QF A JA v :=
  QF_kp h.2.1.2 (congrFun (zz 49 (by decide)) 1) (congrFun (zz 49 (by decide)) 25) (zz 51 (by decide)) (zz 61 (by decide)) zj (Int.le_refl _)
theorem CP_L {I J : aI1} {R : aR1} {S : aS1} {v m : Int} {o L T L' M : Nat → Int} (h : CPI I J R S v) (hC : CI I R S) (hm : 0 ≤ m ∧ m ≤ 3) (kt : KT m I o L T) (zl : zLV (I 51) (I 1 7) (FU (I 1 5) + 1) (I 1 6) (-1) L') (mr : MRc (I 51) (I 1 7) (I 1 5) (I 1 6) M) : LK9 m (I 1 5) (I 1 6) (I 1 7) (I 3) (I 51) o (I 2) L T L' M := by
  obtain ⟨⟨⟨-, -, ol, -⟩, -⟩, hc, -⟩ := id h.1
  have x5 := XI_o hC.2.1.1
  have hf := FU_r x5.1.1 x5.1.2
  exact ⟨hm, x5.1, x5.2.1.1, fun t ht => hc t (by omega), kt.1, ol, kt.2.1, kt.2.2, zl, mr⟩
theorem NX_p {m n K g : Int} {code k o o2 L T L' M : Nat → Int} (h : LK9 m n K g code k o o2 L T L' M) : ∀ s x : Int, 0 ≤ s → s ≤ FU n → 0 ≤ x → x < K → NX (bC m o L T) code g s (FU n + 1) x = NX (bR m s n K k L' M) k g s (FU n + 1) x ∧ -1 ≤ NX (bC m o L T) code g s (FU n + 1) x ∧ NX (bC m o L T) code g s (FU n + 1) x ≤ FU n := fun s x h0 h1 h2 _ => by
  have hf := FU_r h.2.1.1 h.2.1.2
  exact ⟨NX_l9 h ⟨h0, h1⟩ (by omega), NX_r9 h0 (by omega) rfl⟩
/-! SENT -/
theorem SNr_k {z y : Int} {A B : aI1} (h : SNr z A B y) (h0 : 0 ≤ A 51 308 ∧ A 51 308 ≤ 24) {j : Nat} (hj : j < 264 ∨ 288 ≤ j) (h7 : j ≠ 307) (h8 : j ≠ 308) : B 51 j = A 51 j := by
  obtain ⟨s1, s2, s3⟩ := h
  by_cases e : z = -1
  · rw [(s1 e).2.2.2]
  · by_cases e2 : A 51 308 = 24
    · rw [(s2 e e2).2.2.2]
    · rw [(s3 e e2).2.2.2, up1_n _ _ h8, up1_n _ _ (by omega), up1_n _ _ h7]
theorem SA8_n {I A B : aI1} {k : Nat} {x : Int} (hs : SA8 I) (a0 : A 0 16 = x) (a48 : A 48 = up1 (I 48) k (I 48 k + 1)) (b0 : B 49 0 = x) (b50 : B 50 = up1 (A 50) k (A 50 k + 1)) (hk : k < 7) (lo : ∀ j, j < 49 ∨ 73 ≤ j → B j = A j) (z50 : A 50 = I 50) : SA8 B := by
  refine ⟨by rw [lo 0 (by decide), a0, b0], fun j hj => ?_⟩
  rw [lo 48 (by decide), a48, b50, z50]
  by_cases e9 : j = k
  · rw [e9, up1_s, up1_s, hs.2 k hk]
  · rw [up1_n _ _ e9, up1_n _ _ e9]
    exact hs.2 j hj
theorem SN_pr {z x y : Int} {I A B : aI1} (hs : SA8 I) (ht : TL8 I) (c : SNd z I A x) (r : SNr z A B y) (lo : ∀ j, j < 49 ∨ 73 ≤ j → B j = A j) (z50 : A 50 = I 50) (z51 : A 51 = I 51) (h10 : 0 ≤ I 1 10 ∧ I 1 10 ≤ 24) (hz : ¬ z = -1 → bc (i_xor z (I 1 8)) = pcn z.toNat - pcn (I 1 8).toNat) : SA8 B ∧ TL8 B ∧ x = y ∧ (B 51 = A 51 ∨ (¬ z = -1 ∧ B 51 307 = z)) := by
  obtain ⟨c1, c2, c3⟩ := c
  obtain ⟨r1, r2, r3⟩ := r
  obtain ⟨t8, t10, tl⟩ := id ht
  have b1 := lo 1 (by decide)
  have b5 := lo 5 (by decide)
  by_cases e : z = -1
  · obtain ⟨d1, d2, d3, d4, d5, d6⟩ := c1 e
    obtain ⟨s1, s2, s3, s4⟩ := r1 e
    exact ⟨SA8_n hs d2 d3 s2 s3 (by decide) lo z50, TL8_k ht (by rw [b1]; exact d4) (by rw [b1]; exact d5) (b5.trans d6) (fun j _ => by rw [s4, z51]), by omega, Or.inl s4⟩
  · by_cases e2 : I 1 10 = 24
    · obtain ⟨d1, d2, d3, d4, d5, d6⟩ := c2 e (by omega)
      obtain ⟨s1, s2, s3, s4⟩ := r2 e (by rw [z51, ← t10]; exact e2)
      exact ⟨SA8_n hs d2 d3 s2 s3 (by decide) lo z50, TL8_k ht (by rw [b1]; exact d4) (by rw [b1]; exact d5) (b5.trans d6) (fun j _ => by rw [s4, z51]), by omega, Or.inl s4⟩
    · obtain ⟨d1, d2, d3, d4, d5, d6⟩ := c3 e (by omega)
      obtain ⟨s1, s2, s3, s4⟩ := r3 e (by rw [z51, ← t10]; exact e2)
      rw [z51, ← t10] at s4
      rw [z51, ← t8] at s1
      have h9 := hz e
      have b7 : B 51 307 = z := by rw [s4, up1_n _ _ (by decide), up1_n _ _ (by omega), up1_s]
      refine ⟨⟨by rw [lo 0 (by decide), d2, s2], fun j hj => by rw [lo 48 (by decide), d3, s3, z50]; exact hs.2 j hj⟩, ⟨by rw [b1, d4, b7], by rw [b1, d5, s4, up1_s], fun j hj hj2 => ?_⟩, by omega, Or.inr ⟨e, b7⟩⟩
      rw [b1, d5] at hj2
      rw [b5, d6, s4, up1_n (j := 308) (b := 264 + j) _ _ (by omega)]
      by_cases e3 : j = (I 1 10).toNat
      · rw [e3, up1_s, show 264 + (I 1 10).toNat = (264 + I 1 10).toNat by omega, up1_s]
      · rw [up1_n _ _ e3, up1_n _ _ (by omega), up1_n _ _ (by omega)]
        exact tl j hj (by omega)
theorem OKr_e {f g : Nat → Int} (h : OKr f) (e : ∀ j, j < 5117 → g j = f j) (hn : FU (f 304) ≤ 255) : OKr g := by
  refine ⟨fun l hl => by rw [e _ (by omega)]; exact h.1 l hl, fun s hs => ?_, by rw [e 307 (by decide), e 304 (by decide)]; exact h.2.2⟩
  rw [e 304 (by decide)] at hs
  rw [e s (by omega), e 305 (by decide)]
  exact h.2.1 s hs
theorem RX_i {I : aI1} (hQ : RX I) {i : Nat} (hi : i < 2) (h : I 53 i ≠ 0) : FU (I 52 (5117 * i + 304)) ≤ 255 := by
  rcases hQ.2.1 i hi with h1 | ⟨-, h2⟩
  · exact absurd h1 h
  · exact (FU_r h2.1.1 h2.1.2).2.1
set_option maxHeartbeats 1000000 in
theorem CI8_of {I A B J JA JB : aI1} {R : aR1} {S : aS1} {a x y v : Int} (hP : CPI I J R S v) (hC : CI I R S) (hQ : RX I) (h0 : (Kp 0 49 I A ∧ Kp 0 49 J JA ∧ CX A ∧ Fw [] [] I A ∧ ((0 ≤ a ∧ a ≤ FU (I 1 5)) → x = I 3 a.toNat) ∧ (¬ (0 ≤ a ∧ a ≤ FU (I 1 5)) → x = -1)) ∧ FRk A JA) (hh : A = B ∧ JA = JB ∧ ((0 ≤ a ∧ a ≤ FU (A 51 304)) → y = A 51 a.toNat) ∧ (¬ (0 ≤ a ∧ a ≤ FU (A 51 304)) → y = -1)) : CPI B JB R S (v + 1) := by
  obtain ⟨hPH, ⟨-, hQF⟩, hOK, hST, hIM, hDR⟩ := id hP
  obtain ⟨h0, fr⟩ := h0
  obtain ⟨rfl, rfl, hh⟩ := hh
  have g0 : Kp 0 49 I A ∧ Kp 0 49 J JA ∧ CX A ∧ Fw [] [] I A ∧ True := ⟨h0.1, h0.2.1, h0.2.2.1, h0.2.2.2.1, trivial⟩
  have h1 : A = A ∧ JA = JA ∧ True := ⟨rfl, rfl, trivial⟩
  have cp := CF_of hPH.1.1 hC g0 h1
  have cg := CG_of hPH.1.2 hC hQ g0 h1
  have ch := CH_of hPH.1 hPH.2 hC g0 h1
  have hph : CPH A R S := ⟨⟨cp, cg⟩, ch⟩
  clear cp cg ch g0 h1
  have zz : ∀ k, 49 ≤ k → k < 73 → A k = I k := fun k h1 _ => h0.1 k (by omega)
  have zj : ∀ k, 49 ≤ k → k < 73 → JA k = J k := fun k h1 _ => h0.2.1 k (by omega)
  have z49 := zz 49 (by decide) (by decide)
  have z50 := zz 50 (by decide) (by decide)
  have z51 := zz 51 (by decide) (by decide)
  have z52 := zz 52 (by decide) (by decide)
  have z53 := zz 53 (by decide) (by decide)
  have z61 := zz 61 (by decide) (by decide)
  have z72 := zz 72 (by decide) (by decide)
  have qa : QF A JA v := QF_kp hQF (congrFun z49 1) (congrFun z49 25) z51 z61 (zj 62 (by decide) (by decide)) (Int.le_refl _)
  exact ⟨hph, ⟨fr, (QF_mn qa (by omega))⟩, (OK8_k hOK (fun j _ => congrFun z51 j) z52 z53 (RX_o hQ).2.2.2.2.2.2.2.2.2.2), ⟨(SA8_k hST.1 (h0.2.2.2.1 0 16 (by decide) (by decide) (by decide)) (Fw_row h0.2.2.2.1 48 (by decide) (by decide) (by decide)) (congrFun z49 0) z50), (TL8_k hST.2 (h0.2.2.2.1 1 8 (by decide) (by decide) (by decide)) (h0.2.2.2.1 1 10 (by decide) (by decide) (by decide)) (Fw_row h0.2.2.2.1 5 (by decide) (by decide) (by decide)) (fun j _ => congrFun z51 j))⟩, (IM8_k hIM hC rfl z52 (fun k h1 _ => h0.1 k (by omega))), (DR8_k hDR (h0.2.2.2.1 0 13 (by decide) (by decide) (by decide)) (h0.2.2.2.1 0 14 (by decide) (by decide) (by decide)) (Fw_row h0.2.2.2.1 47 (by decide) (by decide) (by decide)) (congrFun z49 39) (congrFun z49 40) z72)⟩
set_option maxHeartbeats 1000000 in
theorem CI8_feed {I A B J JA JB : aI1} {R : aR1} {S : aS1} {a b c e f x y v : Int} (hP : CPI I J R S v) (hC : CI I R S) (hQ : RX I) (h0 : (Kp 0 49 I A ∧ Kp 0 49 J JA ∧ CX A ∧ Fw [8, 9] [] I A ∧ (I 8 1 ≤ 380 → x = I 8 1 + 20 ∧ A 8 1 = I 8 1 + 20 ∧ FDc (I 9) (A 9) (I 8 1) a b c e f) ∧ (¬ I 8 1 ≤ 380 → x = -1 ∧ A 8 1 = I 8 1 ∧ A 9 = I 9)) ∧ FRk A JA) (hh : (Ch [55, 56] [10] A B ∧ Kp 49 73 JA JB ∧ RX B ∧ (A 49 10 ≤ 380 → y = A 49 10 + 20 ∧ B 49 10 = A 49 10 + 20 ∧ FDr (A 55) (B 55) (A 49 10) a b c e f) ∧ (¬ A 49 10 ≤ 380 → y = -1 ∧ B 49 10 = A 49 10 ∧ B 55 = A 55)) ∧ QK9 A B JA JB) : CPI B JB R S (v + 1) := by
  obtain ⟨hPH, ⟨-, hQF⟩, hOK, hST, hIM, hDR⟩ := id hP
  obtain ⟨h0, fr⟩ := h0
  obtain ⟨hh, qk⟩ := hh
  have g0 : Kp 0 49 I A ∧ Kp 0 49 J JA ∧ CX A ∧ Fw [8, 9] [] I A ∧ (I 8 1 ≤ 380 → x = I 8 1 + 20 ∧ A 8 1 = I 8 1 + 20 ∧ FDc (I 9) (A 9) (I 8 1) a b c e f) ∧ (¬ I 8 1 ≤ 380 → x = -1 ∧ A 8 1 = I 8 1 ∧ A 9 = I 9) := h0
  have h1 : Ch [55, 56] [10] A B ∧ Kp 49 73 JA JB ∧ RX B ∧ (A 49 10 ≤ 380 → y = A 49 10 + 20 ∧ B 49 10 = A 49 10 + 20 ∧ FDr (A 55) (B 55) (A 49 10) a b c e f) ∧ (¬ A 49 10 ≤ 380 → y = -1 ∧ B 49 10 = A 49 10 ∧ B 55 = A 55) := hh
  have cp := CF_feed hPH.1.1 hC g0 h1
  have cg := CG_feed hPH.1.2 hC hQ g0 h1
  have ch := CH_feed hPH.1 hPH.2 hC g0 h1
  have hph : CPH B R S := ⟨⟨cp.1, cg⟩, ch⟩
  clear cp cg ch g0 h1
  have zz : ∀ k, 49 ≤ k → k < 73 → A k = I k := fun k h1 _ => h0.1 k (by omega)
  have zj : ∀ k, 49 ≤ k → k < 73 → JA k = J k := fun k h1 _ => h0.2.1 k (by omega)
  have z49 := zz 49 (by decide) (by decide)
  have z50 := zz 50 (by decide) (by decide)
  have z51 := zz 51 (by decide) (by decide)
  have z52 := zz 52 (by decide) (by decide)
  have z53 := zz 53 (by decide) (by decide)
  have z61 := zz 61 (by decide) (by decide)
  have z72 := zz 72 (by decide) (by decide)
  have qa : QF A JA v := QF_kp hQF (congrFun z49 1) (congrFun z49 25) z51 z61 (zj 62 (by decide) (by decide)) (Int.le_refl _)
  have yc : ∀ k, k < 49 ∨ 73 ≤ k → B k = A k := Ch_kp hh.1 (by decide)
  have frB : FRk B JB := FRk_kp (a := 49) (b := 73) fr yc hh.2.1 (by decide)
  have b51 : B 51 = A 51 := (hh.1.1 51 (by decide) (by decide))
  have y51 : B 51 = I 51 := b51.trans z51
  exact ⟨hph, ⟨frB, (QF_tk qa qk.1.2.2.1 qk.2 b51 (by omega))⟩, (OK8_k hOK (fun j _ => congrFun y51 j) ((hh.1.1 52 (by decide) (by decide)).trans z52) ((hh.1.1 53 (by decide) (by decide)).trans z53) (RX_o hQ).2.2.2.2.2.2.2.2.2.2), ⟨(SA8_k hST.1 ((congrFun (yc 0 (by decide)) 16).trans (h0.2.2.2.1 0 16 (by decide) (by decide) (by decide))) ((yc 48 (by decide)).trans (Fw_row h0.2.2.2.1 48 (by decide) (by decide) (by decide))) ((hh.1.2 0 (by decide)).trans (congrFun z49 0)) ((hh.1.1 50 (by decide) (by decide)).trans z50)), (TL8_k hST.2 ((congrFun (yc 1 (by decide)) 8).trans (h0.2.2.2.1 1 8 (by decide) (by decide) (by decide))) ((congrFun (yc 1 (by decide)) 10).trans (h0.2.2.2.1 1 10 (by decide) (by decide) (by decide))) ((yc 5 (by decide)).trans (Fw_row h0.2.2.2.1 5 (by decide) (by decide) (by decide))) (fun j _ => congrFun y51 j))⟩, (IM8_k hIM hC rfl ((hh.1.1 52 (by decide) (by decide)).trans z52) (fun k h1 _ => (yc k (Or.inr h1)).trans (h0.1 k (by omega)))), (DR8_k hDR ((congrFun (yc 0 (by decide)) 13).trans (h0.2.2.2.1 0 13 (by decide) (by decide) (by decide))) ((congrFun (yc 0 (by decide)) 14).trans (h0.2.2.2.1 0 14 (by decide) (by decide) (by decide))) ((yc 47 (by decide)).trans (Fw_row h0.2.2.2.1 47 (by decide) (by decide) (by decide))) ((hh.1.2 39 (by decide)).trans (congrFun z49 39)) ((hh.1.2 40 (by decide)).trans (congrFun z49 40)) ((hh.1.1 72 (by decide) (by decide)).trans z72))⟩
set_option maxHeartbeats 1000000 in
theorem CI8_end {I A B J JA JB : aI1} {R : aR1} {S : aS1} {a x y v : Int} (hP : CPI I J R S v) (hC : CI I R S) (hQ : RX I) (h0 : (Kp 0 49 I A ∧ Kp 0 49 J JA ∧ CX A ∧ Fw [] [(8, 1)] I A ∧ ((0 ≤ a ∧ a ≤ I 8 1) → x = a ∧ A 8 1 = a) ∧ (¬ (0 ≤ a ∧ a ≤ I 8 1) → x = -1 ∧ A 8 1 = I 8 1)) ∧ FRk A JA) (hh : (Ch [] [10] A B ∧ Kp 49 73 JA JB ∧ RX B ∧ ((0 ≤ a ∧ a ≤ A 49 10) → y = a ∧ B 49 10 = a) ∧ (¬ (0 ≤ a ∧ a ≤ A 49 10) → y = -1 ∧ B 49 10 = A 49 10)) ∧ QK9 A B JA JB) : CPI B JB R S (v + 1) := by
  obtain ⟨hPH, ⟨-, hQF⟩, hOK, hST, hIM, hDR⟩ := id hP
  obtain ⟨h0, fr⟩ := h0
  obtain ⟨hh, qk⟩ := hh
  have g0 : Kp 0 49 I A ∧ Kp 0 49 J JA ∧ CX A ∧ Fw [] [(8, 1)] I A ∧ ((0 ≤ a ∧ a ≤ I 8 1) → x = a ∧ A 8 1 = a) ∧ (¬ (0 ≤ a ∧ a ≤ I 8 1) → x = -1 ∧ A 8 1 = I 8 1) := h0
  have h1 : Ch [] [10] A B ∧ Kp 49 73 JA JB ∧ RX B ∧ ((0 ≤ a ∧ a ≤ A 49 10) → y = a ∧ B 49 10 = a) ∧ (¬ (0 ≤ a ∧ a ≤ A 49 10) → y = -1 ∧ B 49 10 = A 49 10) := hh
  have cp := CF_end hPH.1.1 hC g0 h1
  have cg := CG_end hPH.1.2 hC hQ g0 h1
  have ch := CH_end hPH.1 hPH.2 hC g0 h1
  have hph : CPH B R S := ⟨⟨cp.1, cg⟩, ch⟩
  clear cp cg ch g0 h1
  have zz : ∀ k, 49 ≤ k → k < 73 → A k = I k := fun k h1 _ => h0.1 k (by omega)
  have zj : ∀ k, 49 ≤ k → k < 73 → JA k = J k := fun k h1 _ => h0.2.1 k (by omega)
  have z49 := zz 49 (by decide) (by decide)
  have z50 := zz 50 (by decide) (by decide)
  have z51 := zz 51 (by decide) (by decide)
  have z52 := zz 52 (by decide) (by decide)
  have z53 := zz 53 (by decide) (by decide)
  have z61 := zz 61 (by decide) (by decide)
  have z72 := zz 72 (by decide) (by decide)
  have qa : QF A JA v := QF_kp hQF (congrFun z49 1) (congrFun z49 25) z51 z61 (zj 62 (by decide) (by decide)) (Int.le_refl _)
  have yc : ∀ k, k < 49 ∨ 73 ≤ k → B k = A k := Ch_kp hh.1 (by decide)
  have frB : FRk B JB := FRk_kp (a := 49) (b := 73) fr yc hh.2.1 (by decide)
  have b51 : B 51 = A 51 := (hh.1.1 51 (by decide) (by decide))
  have y51 : B 51 = I 51 := b51.trans z51
  exact ⟨hph, ⟨frB, (QF_tk qa qk.1.2.2.1 qk.2 b51 (by omega))⟩, (OK8_k hOK (fun j _ => congrFun y51 j) ((hh.1.1 52 (by decide) (by decide)).trans z52) ((hh.1.1 53 (by decide) (by decide)).trans z53) (RX_o hQ).2.2.2.2.2.2.2.2.2.2), ⟨(SA8_k hST.1 ((congrFun (yc 0 (by decide)) 16).trans (h0.2.2.2.1 0 16 (by decide) (by decide) (by decide))) ((yc 48 (by decide)).trans (Fw_row h0.2.2.2.1 48 (by decide) (by decide) (by decide))) ((hh.1.2 0 (by decide)).trans (congrFun z49 0)) ((hh.1.1 50 (by decide) (by decide)).trans z50)), (TL8_k hST.2 ((congrFun (yc 1 (by decide)) 8).trans (h0.2.2.2.1 1 8 (by decide) (by decide) (by decide))) ((congrFun (yc 1 (by decide)) 10).trans (h0.2.2.2.1 1 10 (by decide) (by decide) (by decide))) ((yc 5 (by decide)).trans (Fw_row h0.2.2.2.1 5 (by decide) (by decide) (by decide))) (fun j _ => congrFun y51 j))⟩, (IM8_k hIM hC rfl ((hh.1.1 52 (by decide) (by decide)).trans z52) (fun k h1 _ => (yc k (Or.inr h1)).trans (h0.1 k (by omega)))), (DR8_k hDR ((congrFun (yc 0 (by decide)) 13).trans (h0.2.2.2.1 0 13 (by decide) (by decide) (by decide))) ((congrFun (yc 0 (by decide)) 14).trans (h0.2.2.2.1 0 14 (by decide) (by decide) (by decide))) ((yc 47 (by decide)).trans (Fw_row h0.2.2.2.1 47 (by decide) (by decide) (by decide))) ((hh.1.2 39 (by decide)).trans (congrFun z49 39)) ((hh.1.2 40 (by decide)).trans (congrFun z49 40)) ((hh.1.1 72 (by decide) (by decide)).trans z72))⟩
set_option maxHeartbeats 1000000 in
theorem CI8_torn {I A B J JA JB : aI1} {R : aR1} {S : aS1} {x y v : Int} (hP : CPI I J R S v) (hC : CI I R S) (hQ : RX I) (h0 : (Kp 0 49 I A ∧ Kp 0 49 J JA ∧ CX A ∧ Fw [] [] I A ∧ x = I 0 15) ∧ FRk A JA) (hh : A = B ∧ JA = JB ∧ y = A 49 6) : CPI B JB R S (v + 1) := by
  obtain ⟨hPH, ⟨-, hQF⟩, hOK, hST, hIM, hDR⟩ := id hP
  obtain ⟨h0, fr⟩ := h0
  obtain ⟨rfl, rfl, hh⟩ := hh
  have g0 : Kp 0 49 I A ∧ Kp 0 49 J JA ∧ CX A ∧ Fw [] [] I A ∧ x = I 0 15 := h0
  have h1 : A = A ∧ JA = JA ∧ y = A 49 6 := ⟨rfl, rfl, hh⟩
  have cp := CF_torn hPH.1.1 hC g0 h1
  have cg := CG_torn hPH.1.2 hC hQ g0 h1
  have ch := CH_torn hPH.1 hPH.2 hC g0 h1
  have hph : CPH A R S := ⟨⟨cp.1, cg⟩, ch⟩
  clear cp cg ch g0 h1
  have zz : ∀ k, 49 ≤ k → k < 73 → A k = I k := fun k h1 _ => h0.1 k (by omega)
  have zj : ∀ k, 49 ≤ k → k < 73 → JA k = J k := fun k h1 _ => h0.2.1 k (by omega)
  have z49 := zz 49 (by decide) (by decide)
  have z50 := zz 50 (by decide) (by decide)
  have z51 := zz 51 (by decide) (by decide)
  have z52 := zz 52 (by decide) (by decide)
  have z53 := zz 53 (by decide) (by decide)
  have z61 := zz 61 (by decide) (by decide)
  have z72 := zz 72 (by decide) (by decide)
  have qa : QF A JA v := QF_kp hQF (congrFun z49 1) (congrFun z49 25) z51 z61 (zj 62 (by decide) (by decide)) (Int.le_refl _)
  exact ⟨hph, ⟨fr, (QF_mn qa (by omega))⟩, (OK8_k hOK (fun j _ => congrFun z51 j) z52 z53 (RX_o hQ).2.2.2.2.2.2.2.2.2.2), ⟨(SA8_k hST.1 (h0.2.2.2.1 0 16 (by decide) (by decide) (by decide)) (Fw_row h0.2.2.2.1 48 (by decide) (by decide) (by decide)) (congrFun z49 0) z50), (TL8_k hST.2 (h0.2.2.2.1 1 8 (by decide) (by decide) (by decide)) (h0.2.2.2.1 1 10 (by decide) (by decide) (by decide)) (Fw_row h0.2.2.2.1 5 (by decide) (by decide) (by decide)) (fun j _ => congrFun z51 j))⟩, (IM8_k hIM hC rfl z52 (fun k h1 _ => h0.1 k (by omega))), (DR8_k hDR (h0.2.2.2.1 0 13 (by decide) (by decide) (by decide)) (h0.2.2.2.1 0 14 (by decide) (by decide) (by decide)) (Fw_row h0.2.2.2.1 47 (by decide) (by decide) (by decide)) (congrFun z49 39) (congrFun z49 40) z72)⟩
set_option maxHeartbeats 1000000 in
theorem CI8_fault {I A B J JA JB : aI1} {R : aR1} {S : aS1} {x y v : Int} (hP : CPI I J R S v) (hC : CI I R S) (hQ : RX I) (h0 : (Kp 0 49 I A ∧ Kp 0 49 J JA ∧ CX A ∧ Fw [] [] I A ∧ x = I 10 0) ∧ FRk A JA) (hh : A = B ∧ JA = JB ∧ y = A 49 11) : CPI B JB R S (v + 1) := by
  obtain ⟨hPH, ⟨-, hQF⟩, hOK, hST, hIM, hDR⟩ := id hP
  obtain ⟨h0, fr⟩ := h0
  obtain ⟨rfl, rfl, hh⟩ := hh
  have g0 : Kp 0 49 I A ∧ Kp 0 49 J JA ∧ CX A ∧ Fw [] [] I A ∧ x = I 10 0 := h0
  have h1 : A = A ∧ JA = JA ∧ y = A 49 11 := ⟨rfl, rfl, hh⟩
  have cp := CF_fault hPH.1.1 hC ⟨g0.1, g0.2.1, g0.2.2.1, g0.2.2.2.1, trivial⟩ ⟨rfl, rfl, trivial⟩
  have cg := CG_fault hPH.1.2 hC hQ g0 h1
  have ch := CH_fault hPH.1 hPH.2 hC ⟨g0.1, g0.2.1, g0.2.2.1, g0.2.2.2.1, trivial⟩ ⟨rfl, rfl, trivial⟩
  have hph : CPH A R S := ⟨⟨cp, cg.1⟩, ch⟩
  clear cp cg ch g0 h1
  have zz : ∀ k, 49 ≤ k → k < 73 → A k = I k := fun k h1 _ => h0.1 k (by omega)
  have zj : ∀ k, 49 ≤ k → k < 73 → JA k = J k := fun k h1 _ => h0.2.1 k (by omega)
  have z49 := zz 49 (by decide) (by decide)
  have z50 := zz 50 (by decide) (by decide)
  have z51 := zz 51 (by decide) (by decide)
  have z52 := zz 52 (by decide) (by decide)
  have z53 := zz 53 (by decide) (by decide)
  have z61 := zz 61 (by decide) (by decide)
  have z72 := zz 72 (by decide) (by decide)
  have qa : QF A JA v := QF_kp hQF (congrFun z49 1) (congrFun z49 25) z51 z61 (zj 62 (by decide) (by decide)) (Int.le_refl _)
  exact ⟨hph, ⟨fr, (QF_mn qa (by omega))⟩, (OK8_k hOK (fun j _ => congrFun z51 j) z52 z53 (RX_o hQ).2.2.2.2.2.2.2.2.2.2), ⟨(SA8_k hST.1 (h0.2.2.2.1 0 16 (by decide) (by decide) (by decide)) (Fw_row h0.2.2.2.1 48 (by decide) (by decide) (by decide)) (congrFun z49 0) z50), (TL8_k hST.2 (h0.2.2.2.1 1 8 (by decide) (by decide) (by decide)) (h0.2.2.2.1 1 10 (by decide) (by decide) (by decide)) (Fw_row h0.2.2.2.1 5 (by decide) (by decide) (by decide)) (fun j _ => congrFun z51 j))⟩, (IM8_k hIM hC rfl z52 (fun k h1 _ => h0.1 k (by omega))), (DR8_k hDR (h0.2.2.2.1 0 13 (by decide) (by decide) (by decide)) (h0.2.2.2.1 0 14 (by decide) (by decide) (by decide)) (Fw_row h0.2.2.2.1 47 (by decide) (by decide) (by decide)) (congrFun z49 39) (congrFun z49 40) z72)⟩
set_option maxHeartbeats 1000000 in
theorem CI8_next {I A B J JA JB : aI1} {R : aR1} {S : aS1} {a b c x y v : Int} (hP : CPI I J R S v) (hC : CI I R S) (hQ : RX I) (h0 : (Kp 0 49 I A ∧ Kp 0 49 J JA ∧ CX A ∧ Fw [18, 19, 20, 21, 22, 23, 24, 25, 26, 27, 28, 29, 30] [] I A ∧ ((0 ≤ a ∧ a ≤ FU (I 1 5) ∧ 0 ≤ b ∧ b < I 1 6 ∧ 0 ≤ c ∧ c ≤ 3) → ∃ o L T, KT c I o L T ∧ x = NX (bC c o L T) (I 3) (I 1 7) a (FU (I 1 5) + 1) b) ∧ (¬ (0 ≤ a ∧ a ≤ FU (I 1 5) ∧ 0 ≤ b ∧ b < I 1 6 ∧ 0 ≤ c ∧ c ≤ 3) → x = -1)) ∧ FRk A JA) (hh : Ch [61] [25] A B ∧ Kp 49 73 JA JB ∧ RX B ∧ B 51 = A 51 ∧ QF B JB v ∧ ((0 ≤ a ∧ a ≤ FU (A 51 304) ∧ 0 ≤ b ∧ b < A 51 305 ∧ 0 ≤ c ∧ c ≤ 3) → ∃ L M, zLV (A 51) (A 51 306) (FU (A 51 304) + 1) (A 51 305) (-1) L ∧ MRc (A 51) (A 51 306) (A 51 304) (A 51 305) M ∧ y = NX (bR c a (A 51 304) (A 51 305) (A 51) L M) (A 51) (A 51 306) a (FU (A 51 304) + 1) b) ∧ (¬ (0 ≤ a ∧ a ≤ FU (A 51 304) ∧ 0 ≤ b ∧ b < A 51 305 ∧ 0 ≤ c ∧ c ≤ 3) → y = -1)) : CPI B JB R S (v + 1) := by
  obtain ⟨hPH, ⟨-, hQF⟩, hOK, hST, hIM, hDR⟩ := id hP
  obtain ⟨h0, fr⟩ := h0
  have g0 : Kp 0 49 I A ∧ Kp 0 49 J JA ∧ CX A ∧ Fw [18, 19, 20, 21, 22, 23, 24, 25, 26, 27, 28, 29, 30, 31, 32, 33, 34, 35, 36] [] I A ∧ True := ⟨h0.1, h0.2.1, h0.2.2.1, (Fw_wd h0.2.2.2.1 (by decide) (by decide)), trivial⟩
  have h1 : Ch [61] [25] A B ∧ Kp 49 73 JA JB ∧ RX B ∧ True := ⟨hh.1, hh.2.1, hh.2.2.1, trivial⟩
  have cp := CF_next hPH.1.1 hC g0 h1
  have cg := CG_next hPH.1.2 hC hQ g0 h1
  have ch := CH_next hPH.1 hPH.2 hC g0 h1
  have hph : CPH B R S := ⟨⟨cp, cg⟩, ch⟩
  clear cp cg ch g0 h1
  have zz : ∀ k, 49 ≤ k → k < 73 → A k = I k := fun k h1 _ => h0.1 k (by omega)
  have zj : ∀ k, 49 ≤ k → k < 73 → JA k = J k := fun k h1 _ => h0.2.1 k (by omega)
  have z49 := zz 49 (by decide) (by decide)
  have z50 := zz 50 (by decide) (by decide)
  have z51 := zz 51 (by decide) (by decide)
  have z52 := zz 52 (by decide) (by decide)
  have z53 := zz 53 (by decide) (by decide)
  have z61 := zz 61 (by decide) (by decide)
  have z72 := zz 72 (by decide) (by decide)
  have qa : QF A JA v := QF_kp hQF (congrFun z49 1) (congrFun z49 25) z51 z61 (zj 62 (by decide) (by decide)) (Int.le_refl _)
  have yc : ∀ k, k < 49 ∨ 73 ≤ k → B k = A k := Ch_kp hh.1 (by decide)
  have frB : FRk B JB := FRk_kp (a := 49) (b := 73) fr yc hh.2.1 (by decide)
  have b51 : B 51 = A 51 := (hh.1.1 51 (by decide) (by decide))
  have y51 : B 51 = I 51 := b51.trans z51
  have hqB : QF B JB v := hh.2.2.2.2.1
  exact ⟨hph, ⟨frB, (QF_mn hqB (by omega))⟩, (OK8_k hOK (fun j _ => congrFun y51 j) ((hh.1.1 52 (by decide) (by decide)).trans z52) ((hh.1.1 53 (by decide) (by decide)).trans z53) (RX_o hQ).2.2.2.2.2.2.2.2.2.2), ⟨(SA8_k hST.1 ((congrFun (yc 0 (by decide)) 16).trans (h0.2.2.2.1 0 16 (by decide) (by decide) (by decide))) ((yc 48 (by decide)).trans (Fw_row h0.2.2.2.1 48 (by decide) (by decide) (by decide))) ((hh.1.2 0 (by decide)).trans (congrFun z49 0)) ((hh.1.1 50 (by decide) (by decide)).trans z50)), (TL8_k hST.2 ((congrFun (yc 1 (by decide)) 8).trans (h0.2.2.2.1 1 8 (by decide) (by decide) (by decide))) ((congrFun (yc 1 (by decide)) 10).trans (h0.2.2.2.1 1 10 (by decide) (by decide) (by decide))) ((yc 5 (by decide)).trans (Fw_row h0.2.2.2.1 5 (by decide) (by decide) (by decide))) (fun j _ => congrFun y51 j))⟩, (IM8_k hIM hC rfl ((hh.1.1 52 (by decide) (by decide)).trans z52) (fun k h1 _ => (yc k (Or.inr h1)).trans (h0.1 k (by omega)))), (DR8_k hDR ((congrFun (yc 0 (by decide)) 13).trans (h0.2.2.2.1 0 13 (by decide) (by decide) (by decide))) ((congrFun (yc 0 (by decide)) 14).trans (h0.2.2.2.1 0 14 (by decide) (by decide) (by decide))) ((yc 47 (by decide)).trans (Fw_row h0.2.2.2.1 47 (by decide) (by decide) (by decide))) ((hh.1.2 39 (by decide)).trans (congrFun z49 39)) ((hh.1.2 40 (by decide)).trans (congrFun z49 40)) ((hh.1.1 72 (by decide) (by decide)).trans z72))⟩
set_option maxHeartbeats 1000000 in
theorem CI8_ways {I A B J JA JB : aI1} {R : aR1} {S : aS1} {a b x y v : Int} (hP : CPI I J R S v) (hC : CI I R S) (hQ : RX I) (h0 : (Kp 0 49 I A ∧ Kp 0 49 J JA ∧ CX A ∧ Fw [] [] I A ∧ ((0 ≤ a ∧ a ≤ FU (I 1 5) ∧ 0 ≤ b ∧ b < I 1 6) → x = fW (wyF (I 3) (I 1 7) a (FU (I 1 5) + 1) b) 0 (FU (I 1 5) + 1).toNat) ∧ (¬ (0 ≤ a ∧ a ≤ FU (I 1 5) ∧ 0 ≤ b ∧ b < I 1 6) → x = -1)) ∧ FRk A JA) (hh : A = B ∧ JA = JB ∧ ((0 ≤ a ∧ a ≤ FU (A 51 304) ∧ 0 ≤ b ∧ b < A 51 305) → y = fW (wyF (A 51) (A 51 306) a (FU (A 51 304) + 1) b) 0 (FU (A 51 304) + 1).toNat) ∧ (¬ (0 ≤ a ∧ a ≤ FU (A 51 304) ∧ 0 ≤ b ∧ b < A 51 305) → y = -1)) : CPI B JB R S (v + 1) := by
  obtain ⟨hPH, ⟨-, hQF⟩, hOK, hST, hIM, hDR⟩ := id hP
  obtain ⟨h0, fr⟩ := h0
  obtain ⟨rfl, rfl, hh⟩ := hh
  have g0 : Kp 0 49 I A ∧ Kp 0 49 J JA ∧ CX A ∧ Fw [] [] I A ∧ True := ⟨h0.1, h0.2.1, h0.2.2.1, h0.2.2.2.1, trivial⟩
  have h1 : A = A ∧ JA = JA ∧ True := ⟨rfl, rfl, trivial⟩
  have cp := CF_ways hPH.1.1 hC g0 h1
  have cg := CG_ways hPH.1.2 hC hQ g0 h1
  have ch := CH_ways hPH.1 hPH.2 hC g0 h1
  have hph : CPH A R S := ⟨⟨cp, cg⟩, ch⟩
  clear cp cg ch g0 h1
  have zz : ∀ k, 49 ≤ k → k < 73 → A k = I k := fun k h1 _ => h0.1 k (by omega)
  have zj : ∀ k, 49 ≤ k → k < 73 → JA k = J k := fun k h1 _ => h0.2.1 k (by omega)
  have z49 := zz 49 (by decide) (by decide)
  have z50 := zz 50 (by decide) (by decide)
  have z51 := zz 51 (by decide) (by decide)
  have z52 := zz 52 (by decide) (by decide)
  have z53 := zz 53 (by decide) (by decide)
  have z61 := zz 61 (by decide) (by decide)
  have z72 := zz 72 (by decide) (by decide)
  have qa : QF A JA v := QF_kp hQF (congrFun z49 1) (congrFun z49 25) z51 z61 (zj 62 (by decide) (by decide)) (Int.le_refl _)
  exact ⟨hph, ⟨fr, (QF_mn qa (by omega))⟩, (OK8_k hOK (fun j _ => congrFun z51 j) z52 z53 (RX_o hQ).2.2.2.2.2.2.2.2.2.2), ⟨(SA8_k hST.1 (h0.2.2.2.1 0 16 (by decide) (by decide) (by decide)) (Fw_row h0.2.2.2.1 48 (by decide) (by decide) (by decide)) (congrFun z49 0) z50), (TL8_k hST.2 (h0.2.2.2.1 1 8 (by decide) (by decide) (by decide)) (h0.2.2.2.1 1 10 (by decide) (by decide) (by decide)) (Fw_row h0.2.2.2.1 5 (by decide) (by decide) (by decide)) (fun j _ => congrFun z51 j))⟩, (IM8_k hIM hC rfl z52 (fun k h1 _ => h0.1 k (by omega))), (DR8_k hDR (h0.2.2.2.1 0 13 (by decide) (by decide) (by decide)) (h0.2.2.2.1 0 14 (by decide) (by decide) (by decide)) (Fw_row h0.2.2.2.1 47 (by decide) (by decide) (by decide)) (congrFun z49 39) (congrFun z49 40) z72)⟩
set_option maxHeartbeats 1000000 in
theorem CI8_lasts {I A B J JA JB : aI1} {R : aR1} {S : aS1} {a x y v : Int} (hP : CPI I J R S v) (hC : CI I R S) (hQ : RX I) (h0 : (Kp 0 49 I A ∧ Kp 0 49 J JA ∧ CX A ∧ Fw [18, 19, 20, 21, 22, 23, 24, 25, 26, 27, 28, 29, 30] [] I A ∧ ((0 ≤ a ∧ a ≤ FU (I 1 5)) → ∃ L, zLV (I 3) (I 1 7) (FU (I 1 5) + 1) (I 1 6) (-1) L ∧ x = L a.toNat) ∧ (¬ (0 ≤ a ∧ a ≤ FU (I 1 5)) → x = -1)) ∧ FRk A JA) (hh : Ch [61] [25] A B ∧ Kp 49 73 JA JB ∧ RX B ∧ B 51 = A 51 ∧ QF B JB v ∧ ((0 ≤ a ∧ a ≤ FU (A 51 304)) → ∃ L, zLV (A 51) (A 51 306) (FU (A 51 304) + 1) (A 51 305) (-1) L ∧ y = L a.toNat) ∧ (¬ (0 ≤ a ∧ a ≤ FU (A 51 304)) → y = -1)) : CPI B JB R S (v + 1) := by
  obtain ⟨hPH, ⟨-, hQF⟩, hOK, hST, hIM, hDR⟩ := id hP
  obtain ⟨h0, fr⟩ := h0
  have g0 : Kp 0 49 I A ∧ Kp 0 49 J JA ∧ CX A ∧ Fw [18, 19, 20, 21, 22, 23, 24, 25, 26, 27, 28, 29, 30, 31, 32, 33, 34, 35, 36] [] I A ∧ True := ⟨h0.1, h0.2.1, h0.2.2.1, (Fw_wd h0.2.2.2.1 (by decide) (by decide)), trivial⟩
  have h1 : Ch [61] [25] A B ∧ Kp 49 73 JA JB ∧ RX B ∧ True := ⟨hh.1, hh.2.1, hh.2.2.1, trivial⟩
  have cp := CF_lasts hPH.1.1 hC g0 h1
  have cg := CG_lasts hPH.1.2 hC hQ g0 h1
  have ch := CH_lasts hPH.1 hPH.2 hC g0 h1
  have hph : CPH B R S := ⟨⟨cp, cg⟩, ch⟩
  clear cp cg ch g0 h1
  have zz : ∀ k, 49 ≤ k → k < 73 → A k = I k := fun k h1 _ => h0.1 k (by omega)
  have zj : ∀ k, 49 ≤ k → k < 73 → JA k = J k := fun k h1 _ => h0.2.1 k (by omega)
  have z49 := zz 49 (by decide) (by decide)
  have z50 := zz 50 (by decide) (by decide)
  have z51 := zz 51 (by decide) (by decide)
  have z52 := zz 52 (by decide) (by decide)
  have z53 := zz 53 (by decide) (by decide)
  have z61 := zz 61 (by decide) (by decide)
  have z72 := zz 72 (by decide) (by decide)
  have qa : QF A JA v := QF_kp hQF (congrFun z49 1) (congrFun z49 25) z51 z61 (zj 62 (by decide) (by decide)) (Int.le_refl _)
  have yc : ∀ k, k < 49 ∨ 73 ≤ k → B k = A k := Ch_kp hh.1 (by decide)
  have frB : FRk B JB := FRk_kp (a := 49) (b := 73) fr yc hh.2.1 (by decide)
  have b51 : B 51 = A 51 := (hh.1.1 51 (by decide) (by decide))
  have y51 : B 51 = I 51 := b51.trans z51
  have hqB : QF B JB v := hh.2.2.2.2.1
  exact ⟨hph, ⟨frB, (QF_mn hqB (by omega))⟩, (OK8_k hOK (fun j _ => congrFun y51 j) ((hh.1.1 52 (by decide) (by decide)).trans z52) ((hh.1.1 53 (by decide) (by decide)).trans z53) (RX_o hQ).2.2.2.2.2.2.2.2.2.2), ⟨(SA8_k hST.1 ((congrFun (yc 0 (by decide)) 16).trans (h0.2.2.2.1 0 16 (by decide) (by decide) (by decide))) ((yc 48 (by decide)).trans (Fw_row h0.2.2.2.1 48 (by decide) (by decide) (by decide))) ((hh.1.2 0 (by decide)).trans (congrFun z49 0)) ((hh.1.1 50 (by decide) (by decide)).trans z50)), (TL8_k hST.2 ((congrFun (yc 1 (by decide)) 8).trans (h0.2.2.2.1 1 8 (by decide) (by decide) (by decide))) ((congrFun (yc 1 (by decide)) 10).trans (h0.2.2.2.1 1 10 (by decide) (by decide) (by decide))) ((yc 5 (by decide)).trans (Fw_row h0.2.2.2.1 5 (by decide) (by decide) (by decide))) (fun j _ => congrFun y51 j))⟩, (IM8_k hIM hC rfl ((hh.1.1 52 (by decide) (by decide)).trans z52) (fun k h1 _ => (yc k (Or.inr h1)).trans (h0.1 k (by omega)))), (DR8_k hDR ((congrFun (yc 0 (by decide)) 13).trans (h0.2.2.2.1 0 13 (by decide) (by decide) (by decide))) ((congrFun (yc 0 (by decide)) 14).trans (h0.2.2.2.1 0 14 (by decide) (by decide) (by decide))) ((yc 47 (by decide)).trans (Fw_row h0.2.2.2.1 47 (by decide) (by decide) (by decide))) ((hh.1.2 39 (by decide)).trans (congrFun z49 39)) ((hh.1.2 40 (by decide)).trans (congrFun z49 40)) ((hh.1.1 72 (by decide) (by decide)).trans z72))⟩
set_option maxHeartbeats 1000000 in
theorem CI8_mean {I A B J JA JB : aI1} {R : aR1} {S : aS1} {a b x y v : Int} (hP : CPI I J R S v) (hC : CI I R S) (hQ : RX I) (h0 : (Kp 0 49 I A ∧ Kp 0 49 J JA ∧ CX A ∧ Fw [18, 19, 20, 21, 22, 23, 24, 25, 26, 27, 28, 29, 30] [] I A ∧ ((0 ≤ a ∧ a ≤ FU (I 1 5) ∧ 0 ≤ b ∧ b ≤ 1) → ∃ T, MTc (I 3) (I 1 7) (I 1 5) (I 1 6) T ∧ x = mPt (T a.toNat) (blw (I 3) (I 1 6) a.toNat) (if b = 0 then 1 else 0)) ∧ (¬ (0 ≤ a ∧ a ≤ FU (I 1 5) ∧ 0 ≤ b ∧ b ≤ 1) → x = -1)) ∧ FRk A JA) (hh : Ch [61] [25] A B ∧ Kp 49 73 JA JB ∧ RX B ∧ B 51 = A 51 ∧ QF B JB v ∧ ((0 ≤ a ∧ a ≤ FU (A 51 304) ∧ 0 ≤ b ∧ b ≤ 1) → ∃ M, MRc (A 51) (A 51 306) (A 51 304) (A 51 305) M ∧ y = mPt (M a.toNat) (dwn (A 51) (A 51 305) (A 51 304) a.toNat) (if b = 0 then 1 else 0)) ∧ (¬ (0 ≤ a ∧ a ≤ FU (A 51 304) ∧ 0 ≤ b ∧ b ≤ 1) → y = -1)) : CPI B JB R S (v + 1) := by
  obtain ⟨hPH, ⟨-, hQF⟩, hOK, hST, hIM, hDR⟩ := id hP
  obtain ⟨h0, fr⟩ := h0
  have g0 : Kp 0 49 I A ∧ Kp 0 49 J JA ∧ CX A ∧ Fw [18, 19, 20, 21, 22, 23, 24, 25, 26, 27, 28, 29, 30, 31, 32, 33, 34, 35, 36] [] I A ∧ True := ⟨h0.1, h0.2.1, h0.2.2.1, (Fw_wd h0.2.2.2.1 (by decide) (by decide)), trivial⟩
  have h1 : Ch [61] [25] A B ∧ Kp 49 73 JA JB ∧ RX B ∧ True := ⟨hh.1, hh.2.1, hh.2.2.1, trivial⟩
  have cp := CF_mean hPH.1.1 hC g0 h1
  have cg := CG_mean hPH.1.2 hC hQ g0 h1
  have ch := CH_mean hPH.1 hPH.2 hC g0 h1
  have hph : CPH B R S := ⟨⟨cp, cg⟩, ch⟩
  clear cp cg ch g0 h1
  have zz : ∀ k, 49 ≤ k → k < 73 → A k = I k := fun k h1 _ => h0.1 k (by omega)
  have zj : ∀ k, 49 ≤ k → k < 73 → JA k = J k := fun k h1 _ => h0.2.1 k (by omega)
  have z49 := zz 49 (by decide) (by decide)
  have z50 := zz 50 (by decide) (by decide)
  have z51 := zz 51 (by decide) (by decide)
  have z52 := zz 52 (by decide) (by decide)
  have z53 := zz 53 (by decide) (by decide)
  have z61 := zz 61 (by decide) (by decide)
  have z72 := zz 72 (by decide) (by decide)
  have qa : QF A JA v := QF_kp hQF (congrFun z49 1) (congrFun z49 25) z51 z61 (zj 62 (by decide) (by decide)) (Int.le_refl _)
  have yc : ∀ k, k < 49 ∨ 73 ≤ k → B k = A k := Ch_kp hh.1 (by decide)
  have frB : FRk B JB := FRk_kp (a := 49) (b := 73) fr yc hh.2.1 (by decide)
  have b51 : B 51 = A 51 := (hh.1.1 51 (by decide) (by decide))
  have y51 : B 51 = I 51 := b51.trans z51
  have hqB : QF B JB v := hh.2.2.2.2.1
  exact ⟨hph, ⟨frB, (QF_mn hqB (by omega))⟩, (OK8_k hOK (fun j _ => congrFun y51 j) ((hh.1.1 52 (by decide) (by decide)).trans z52) ((hh.1.1 53 (by decide) (by decide)).trans z53) (RX_o hQ).2.2.2.2.2.2.2.2.2.2), ⟨(SA8_k hST.1 ((congrFun (yc 0 (by decide)) 16).trans (h0.2.2.2.1 0 16 (by decide) (by decide) (by decide))) ((yc 48 (by decide)).trans (Fw_row h0.2.2.2.1 48 (by decide) (by decide) (by decide))) ((hh.1.2 0 (by decide)).trans (congrFun z49 0)) ((hh.1.1 50 (by decide) (by decide)).trans z50)), (TL8_k hST.2 ((congrFun (yc 1 (by decide)) 8).trans (h0.2.2.2.1 1 8 (by decide) (by decide) (by decide))) ((congrFun (yc 1 (by decide)) 10).trans (h0.2.2.2.1 1 10 (by decide) (by decide) (by decide))) ((yc 5 (by decide)).trans (Fw_row h0.2.2.2.1 5 (by decide) (by decide) (by decide))) (fun j _ => congrFun y51 j))⟩, (IM8_k hIM hC rfl ((hh.1.1 52 (by decide) (by decide)).trans z52) (fun k h1 _ => (yc k (Or.inr h1)).trans (h0.1 k (by omega)))), (DR8_k hDR ((congrFun (yc 0 (by decide)) 13).trans (h0.2.2.2.1 0 13 (by decide) (by decide) (by decide))) ((congrFun (yc 0 (by decide)) 14).trans (h0.2.2.2.1 0 14 (by decide) (by decide) (by decide))) ((yc 47 (by decide)).trans (Fw_row h0.2.2.2.1 47 (by decide) (by decide) (by decide))) ((hh.1.2 39 (by decide)).trans (congrFun z49 39)) ((hh.1.2 40 (by decide)).trans (congrFun z49 40)) ((hh.1.1 72 (by decide) (by decide)).trans z72))⟩
set_option maxHeartbeats 1000000 in
theorem CI8_reached {I A B J JA JB : aI1} {R : aR1} {S : aS1} {a x y v : Int} (hP : CPI I J R S v) (hC : CI I R S) (hQ : RX I) (h0 : (Kp 0 49 I A ∧ Kp 0 49 J JA ∧ CX A ∧ Fw [] [] I A ∧ (a = -1 → x = fW (rcF (I 3) (I 1 7)) 0 (FU (I 1 5) + 1).toNat) ∧ (¬ a = -1 → 0 ≤ a ∧ a ≤ FU (I 1 5) → (x = 0 ∨ x = 1) ∧ (x = 1 ↔ RC (I 3) (I 1 7) a.toNat)) ∧ (¬ a = -1 → ¬ (0 ≤ a ∧ a ≤ FU (I 1 5)) → x = -1)) ∧ FRk A JA) (hh : (Ch [63] [] A B ∧ Kp 49 73 JA JB ∧ RX B ∧ (a = -1 → y = fW (rcF (A 51) (A 51 306)) 0 (FU (A 51 304) + 1).toNat) ∧ (¬ a = -1 → (0 ≤ a ∧ a ≤ FU (A 51 304)) → (y = 0 ∨ y = 1) ∧ (y = 1 ↔ RC (A 51) (A 51 306) a.toNat)) ∧ (¬ a = -1 → ¬ (0 ≤ a ∧ a ≤ FU (A 51 304)) → y = -1)) ∧ QK9 A B JA JB) : CPI B JB R S (v + 1) := by
  obtain ⟨hPH, ⟨-, hQF⟩, hOK, hST, hIM, hDR⟩ := id hP
  obtain ⟨h0, fr⟩ := h0
  obtain ⟨hh, qk⟩ := hh
  have g0 : Kp 0 49 I A ∧ Kp 0 49 J JA ∧ CX A ∧ Fw [] [] I A ∧ True := ⟨h0.1, h0.2.1, h0.2.2.1, h0.2.2.2.1, trivial⟩
  have h1 : Ch [63] [] A B ∧ Kp 49 73 JA JB ∧ RX B ∧ True := ⟨hh.1, hh.2.1, hh.2.2.1, trivial⟩
  have cp := CF_reached hPH.1.1 hC g0 h1
  have cg := CG_reached hPH.1.2 hC hQ g0 h1
  have ch := CH_reached hPH.1 hPH.2 hC g0 h1
  have hph : CPH B R S := ⟨⟨cp, cg⟩, ch⟩
  clear cp cg ch g0 h1
  have zz : ∀ k, 49 ≤ k → k < 73 → A k = I k := fun k h1 _ => h0.1 k (by omega)
  have zj : ∀ k, 49 ≤ k → k < 73 → JA k = J k := fun k h1 _ => h0.2.1 k (by omega)
  have z49 := zz 49 (by decide) (by decide)
  have z50 := zz 50 (by decide) (by decide)
  have z51 := zz 51 (by decide) (by decide)
  have z52 := zz 52 (by decide) (by decide)
  have z53 := zz 53 (by decide) (by decide)
  have z61 := zz 61 (by decide) (by decide)
  have z72 := zz 72 (by decide) (by decide)
  have qa : QF A JA v := QF_kp hQF (congrFun z49 1) (congrFun z49 25) z51 z61 (zj 62 (by decide) (by decide)) (Int.le_refl _)
  have yc : ∀ k, k < 49 ∨ 73 ≤ k → B k = A k := Ch_kp hh.1 (by decide)
  have frB : FRk B JB := FRk_kp (a := 49) (b := 73) fr yc hh.2.1 (by decide)
  have b51 : B 51 = A 51 := (hh.1.1 51 (by decide) (by decide))
  have y51 : B 51 = I 51 := b51.trans z51
  exact ⟨hph, ⟨frB, (QF_tk qa qk.1.2.2.1 qk.2 b51 (by omega))⟩, (OK8_k hOK (fun j _ => congrFun y51 j) ((hh.1.1 52 (by decide) (by decide)).trans z52) ((hh.1.1 53 (by decide) (by decide)).trans z53) (RX_o hQ).2.2.2.2.2.2.2.2.2.2), ⟨(SA8_k hST.1 ((congrFun (yc 0 (by decide)) 16).trans (h0.2.2.2.1 0 16 (by decide) (by decide) (by decide))) ((yc 48 (by decide)).trans (Fw_row h0.2.2.2.1 48 (by decide) (by decide) (by decide))) ((hh.1.2 0 (by decide)).trans (congrFun z49 0)) ((hh.1.1 50 (by decide) (by decide)).trans z50)), (TL8_k hST.2 ((congrFun (yc 1 (by decide)) 8).trans (h0.2.2.2.1 1 8 (by decide) (by decide) (by decide))) ((congrFun (yc 1 (by decide)) 10).trans (h0.2.2.2.1 1 10 (by decide) (by decide) (by decide))) ((yc 5 (by decide)).trans (Fw_row h0.2.2.2.1 5 (by decide) (by decide) (by decide))) (fun j _ => congrFun y51 j))⟩, (IM8_k hIM hC rfl ((hh.1.1 52 (by decide) (by decide)).trans z52) (fun k h1 _ => (yc k (Or.inr h1)).trans (h0.1 k (by omega)))), (DR8_k hDR ((congrFun (yc 0 (by decide)) 13).trans (h0.2.2.2.1 0 13 (by decide) (by decide) (by decide))) ((congrFun (yc 0 (by decide)) 14).trans (h0.2.2.2.1 0 14 (by decide) (by decide) (by decide))) ((yc 47 (by decide)).trans (Fw_row h0.2.2.2.1 47 (by decide) (by decide) (by decide))) ((hh.1.2 39 (by decide)).trans (congrFun z49 39)) ((hh.1.2 40 (by decide)).trans (congrFun z49 40)) ((hh.1.1 72 (by decide) (by decide)).trans z72))⟩
set_option maxHeartbeats 1000000 in
theorem CI8_failing {I A B J JA JB : aI1} {R : aR1} {S : aS1} {a x y v : Int} (hP : CPI I J R S v) (hC : CI I R S) (hQ : RX I) (h0 : (Kp 0 49 I A ∧ Kp 0 49 J JA ∧ CX A ∧ Fw [18, 19, 20, 21, 22, 23, 24, 25, 26, 27, 28, 29, 30] [] I A ∧ (a < -1 → x = -1) ∧ (-1 ≤ a → ∃ o L T F n, KT 2 I o L T ∧ FLg (fun s x => NX (bC 2 o L T) (I 3) (I 1 7) s (FU (I 1 5) + 1) x) L (I 3) (I 1 6) F n ∧ (a = -1 → x = n) ∧ (0 ≤ a → a < n → x = F a.toNat) ∧ (n ≤ a → x = -1))) ∧ FRk A JA) (hh : Ch [61, 64] [25, 28] A B ∧ Kp 49 73 JA JB ∧ RX B ∧ B 51 = A 51 ∧ QF B JB v ∧ ∃ L M F n, zLV (A 51) (A 51 306) (FU (A 51 304) + 1) (A 51 305) (-1) L ∧ MRc (A 51) (A 51 306) (A 51 304) (A 51 305) M ∧ FLg (fun s y => NX (bR 2 s (A 51 304) (A 51 305) (A 51) L M) (A 51) (A 51 306) s (FU (A 51 304) + 1) y) L (A 51) (A 51 305) F n ∧ (a = -1 → y = n) ∧ (0 ≤ a → a < n → y = F a.toNat) ∧ (a < -1 → y = -1) ∧ (n ≤ a → y = -1)) : CPI B JB R S (v + 1) := by
  obtain ⟨hPH, ⟨-, hQF⟩, hOK, hST, hIM, hDR⟩ := id hP
  obtain ⟨h0, fr⟩ := h0
  have g0 : Kp 0 49 I A ∧ Kp 0 49 J JA ∧ CX A ∧ Fw [18, 19, 20, 21, 22, 23, 24, 25, 26, 27, 28, 29, 30, 31, 32, 33, 34, 35, 36] [] I A ∧ True := ⟨h0.1, h0.2.1, h0.2.2.1, (Fw_wd h0.2.2.2.1 (by decide) (by decide)), trivial⟩
  have h1 : Ch [61, 64] [25, 28] A B ∧ Kp 49 73 JA JB ∧ RX B ∧ True := ⟨hh.1, hh.2.1, hh.2.2.1, trivial⟩
  have cp := CF_failing hPH.1.1 hC g0 h1
  have cg := CG_failing hPH.1.2 hC hQ g0 h1
  have ch := CH_failing hPH.1 hPH.2 hC g0 h1
  have hph : CPH B R S := ⟨⟨cp, cg⟩, ch⟩
  clear cp cg ch g0 h1
  have zz : ∀ k, 49 ≤ k → k < 73 → A k = I k := fun k h1 _ => h0.1 k (by omega)
  have zj : ∀ k, 49 ≤ k → k < 73 → JA k = J k := fun k h1 _ => h0.2.1 k (by omega)
  have z49 := zz 49 (by decide) (by decide)
  have z50 := zz 50 (by decide) (by decide)
  have z51 := zz 51 (by decide) (by decide)
  have z52 := zz 52 (by decide) (by decide)
  have z53 := zz 53 (by decide) (by decide)
  have z61 := zz 61 (by decide) (by decide)
  have z72 := zz 72 (by decide) (by decide)
  have qa : QF A JA v := QF_kp hQF (congrFun z49 1) (congrFun z49 25) z51 z61 (zj 62 (by decide) (by decide)) (Int.le_refl _)
  have yc : ∀ k, k < 49 ∨ 73 ≤ k → B k = A k := Ch_kp hh.1 (by decide)
  have frB : FRk B JB := FRk_kp (a := 49) (b := 73) fr yc hh.2.1 (by decide)
  have b51 : B 51 = A 51 := (hh.1.1 51 (by decide) (by decide))
  have y51 : B 51 = I 51 := b51.trans z51
  have hqB : QF B JB v := hh.2.2.2.2.1
  exact ⟨hph, ⟨frB, (QF_mn hqB (by omega))⟩, (OK8_k hOK (fun j _ => congrFun y51 j) ((hh.1.1 52 (by decide) (by decide)).trans z52) ((hh.1.1 53 (by decide) (by decide)).trans z53) (RX_o hQ).2.2.2.2.2.2.2.2.2.2), ⟨(SA8_k hST.1 ((congrFun (yc 0 (by decide)) 16).trans (h0.2.2.2.1 0 16 (by decide) (by decide) (by decide))) ((yc 48 (by decide)).trans (Fw_row h0.2.2.2.1 48 (by decide) (by decide) (by decide))) ((hh.1.2 0 (by decide)).trans (congrFun z49 0)) ((hh.1.1 50 (by decide) (by decide)).trans z50)), (TL8_k hST.2 ((congrFun (yc 1 (by decide)) 8).trans (h0.2.2.2.1 1 8 (by decide) (by decide) (by decide))) ((congrFun (yc 1 (by decide)) 10).trans (h0.2.2.2.1 1 10 (by decide) (by decide) (by decide))) ((yc 5 (by decide)).trans (Fw_row h0.2.2.2.1 5 (by decide) (by decide) (by decide))) (fun j _ => congrFun y51 j))⟩, (IM8_k hIM hC rfl ((hh.1.1 52 (by decide) (by decide)).trans z52) (fun k h1 _ => (yc k (Or.inr h1)).trans (h0.1 k (by omega)))), (DR8_k hDR ((congrFun (yc 0 (by decide)) 13).trans (h0.2.2.2.1 0 13 (by decide) (by decide) (by decide))) ((congrFun (yc 0 (by decide)) 14).trans (h0.2.2.2.1 0 14 (by decide) (by decide) (by decide))) ((yc 47 (by decide)).trans (Fw_row h0.2.2.2.1 47 (by decide) (by decide) (by decide))) ((hh.1.2 39 (by decide)).trans (congrFun z49 39)) ((hh.1.2 40 (by decide)).trans (congrFun z49 40)) ((hh.1.1 72 (by decide) (by decide)).trans z72))⟩
set_option maxHeartbeats 1000000 in
theorem CI8_hurts {I A B J JA JB : aI1} {R : aR1} {S : aS1} {a x y v : Int} (hP : CPI I J R S v) (hC : CI I R S) (hQ : RX I) (h0 : (Kp 0 49 I A ∧ Kp 0 49 J JA ∧ CX A ∧ Fw [18, 19, 20, 21, 22, 23, 24, 25, 26, 27, 28, 29, 30] [] I A ∧ ((0 ≤ a ∧ a < I 1 5) → ∃ L, zLV (I 3) (i_or (I 1 7) (i_shl 1 a)) (FU (I 1 5) + 1) (I 1 6) (-1) L ∧ x = L 0) ∧ (¬ (0 ≤ a ∧ a < I 1 5) → x = -1)) ∧ FRk A JA) (hh : (Ch [61] [25] A B ∧ Kp 49 73 JA JB ∧ RX B ∧ ((0 ≤ a ∧ a < A 51 304) → ∃ L, zLV (A 51) (i_or (A 51 306) (i_shl 1 a)) (FU (A 51 304) + 1) (A 51 305) (-1) L ∧ y = L 0) ∧ (¬ (0 ≤ a ∧ a < A 51 304) → y = -1)) ∧ QK9 A B JA JB) : CPI B JB R S (v + 1) := by
  obtain ⟨hPH, ⟨-, hQF⟩, hOK, hST, hIM, hDR⟩ := id hP
  obtain ⟨h0, fr⟩ := h0
  obtain ⟨hh, qk⟩ := hh
  have g0 : Kp 0 49 I A ∧ Kp 0 49 J JA ∧ CX A ∧ Fw [18, 19, 20, 21, 22, 23, 24, 25, 26, 27, 28, 29, 30, 31, 32, 33, 34, 35, 36] [] I A ∧ True := ⟨h0.1, h0.2.1, h0.2.2.1, (Fw_wd h0.2.2.2.1 (by decide) (by decide)), trivial⟩
  have h1 : Ch [61] [25] A B ∧ Kp 49 73 JA JB ∧ RX B ∧ True := ⟨hh.1, hh.2.1, hh.2.2.1, trivial⟩
  have cp := CF_hurts hPH.1.1 hC g0 h1
  have cg := CG_hurts hPH.1.2 hC hQ g0 h1
  have ch := CH_hurts hPH.1 hPH.2 hC g0 h1
  have hph : CPH B R S := ⟨⟨cp, cg⟩, ch⟩
  clear cp cg ch g0 h1
  have zz : ∀ k, 49 ≤ k → k < 73 → A k = I k := fun k h1 _ => h0.1 k (by omega)
  have zj : ∀ k, 49 ≤ k → k < 73 → JA k = J k := fun k h1 _ => h0.2.1 k (by omega)
  have z49 := zz 49 (by decide) (by decide)
  have z50 := zz 50 (by decide) (by decide)
  have z51 := zz 51 (by decide) (by decide)
  have z52 := zz 52 (by decide) (by decide)
  have z53 := zz 53 (by decide) (by decide)
  have z61 := zz 61 (by decide) (by decide)
  have z72 := zz 72 (by decide) (by decide)
  have qa : QF A JA v := QF_kp hQF (congrFun z49 1) (congrFun z49 25) z51 z61 (zj 62 (by decide) (by decide)) (Int.le_refl _)
  have yc : ∀ k, k < 49 ∨ 73 ≤ k → B k = A k := Ch_kp hh.1 (by decide)
  have frB : FRk B JB := FRk_kp (a := 49) (b := 73) fr yc hh.2.1 (by decide)
  have b51 : B 51 = A 51 := (hh.1.1 51 (by decide) (by decide))
  have y51 : B 51 = I 51 := b51.trans z51
  exact ⟨hph, ⟨frB, (QF_tk qa qk.1.2.2.1 qk.2 b51 (by omega))⟩, (OK8_k hOK (fun j _ => congrFun y51 j) ((hh.1.1 52 (by decide) (by decide)).trans z52) ((hh.1.1 53 (by decide) (by decide)).trans z53) (RX_o hQ).2.2.2.2.2.2.2.2.2.2), ⟨(SA8_k hST.1 ((congrFun (yc 0 (by decide)) 16).trans (h0.2.2.2.1 0 16 (by decide) (by decide) (by decide))) ((yc 48 (by decide)).trans (Fw_row h0.2.2.2.1 48 (by decide) (by decide) (by decide))) ((hh.1.2 0 (by decide)).trans (congrFun z49 0)) ((hh.1.1 50 (by decide) (by decide)).trans z50)), (TL8_k hST.2 ((congrFun (yc 1 (by decide)) 8).trans (h0.2.2.2.1 1 8 (by decide) (by decide) (by decide))) ((congrFun (yc 1 (by decide)) 10).trans (h0.2.2.2.1 1 10 (by decide) (by decide) (by decide))) ((yc 5 (by decide)).trans (Fw_row h0.2.2.2.1 5 (by decide) (by decide) (by decide))) (fun j _ => congrFun y51 j))⟩, (IM8_k hIM hC rfl ((hh.1.1 52 (by decide) (by decide)).trans z52) (fun k h1 _ => (yc k (Or.inr h1)).trans (h0.1 k (by omega)))), (DR8_k hDR ((congrFun (yc 0 (by decide)) 13).trans (h0.2.2.2.1 0 13 (by decide) (by decide) (by decide))) ((congrFun (yc 0 (by decide)) 14).trans (h0.2.2.2.1 0 14 (by decide) (by decide) (by decide))) ((yc 47 (by decide)).trans (Fw_row h0.2.2.2.1 47 (by decide) (by decide) (by decide))) ((hh.1.2 39 (by decide)).trans (congrFun z49 39)) ((hh.1.2 40 (by decide)).trans (congrFun z49 40)) ((hh.1.1 72 (by decide) (by decide)).trans z72))⟩
set_option maxHeartbeats 1000000 in
theorem CI8_codes {I A B J JA JB : aI1} {R : aR1} {S : aS1} {a b c x y v : Int} (hP : CPI I J R S v) (hC : CI I R S) (hQ : RX I) (h0 : (Kp 0 49 I A ∧ Kp 0 49 J JA ∧ CX A ∧ Fw [37, 38, 39, 40, 41, 42, 43, 44, 45] [] I A ∧ SR A ∧ SRF A ∧ (¬ (1 ≤ a ∧ a ≤ 3 ∧ 2 ≤ b ∧ b ≤ 4 ∧ 0 ≤ c ∧ c ≤ 8) → x = -1) ∧ ((1 ≤ a ∧ a ≤ 3 ∧ 2 ≤ b ∧ b ≤ 4 ∧ 0 ≤ c ∧ c ≤ 8) → x = TBX a b c)) ∧ FRk A JA) (hh : (Ch [51, 61, 65, 66] [25, 31] A B ∧ Kp 49 73 JA JB ∧ RX B ∧ (¬ (1 ≤ a ∧ a ≤ 3 ∧ 2 ≤ b ∧ b ≤ 4 ∧ 0 ≤ c ∧ c ≤ 8) → y = -1) ∧ ((1 ≤ a ∧ a ≤ 3 ∧ 2 ≤ b ∧ b ≤ 4 ∧ 0 ≤ c ∧ c ≤ 8) → y = TBX a b c) ∧ B 51 = A 51) ∧ QK9 A B JA JB) : CPI B JB R S (v + 1) := by
  obtain ⟨hPH, ⟨-, hQF⟩, hOK, hST, hIM, hDR⟩ := id hP
  obtain ⟨h0, fr⟩ := h0
  obtain ⟨hh, qk⟩ := hh
  have g0 : Kp 0 49 I A ∧ Kp 0 49 J JA ∧ CX A ∧ Fw [37, 38, 39, 40, 41, 42, 43, 44, 45] [] I A ∧ SR A ∧ SRF A ∧ (¬ (1 ≤ a ∧ a ≤ 3 ∧ 2 ≤ b ∧ b ≤ 4 ∧ 0 ≤ c ∧ c ≤ 8) → x = -1) ∧ ((1 ≤ a ∧ a ≤ 3 ∧ 2 ≤ b ∧ b ≤ 4 ∧ 0 ≤ c ∧ c ≤ 8) → x = TBX a b c) := h0
  have h1 : Ch [51, 61, 65, 66] [25, 31] A B ∧ Kp 49 73 JA JB ∧ RX B ∧ (¬ (1 ≤ a ∧ a ≤ 3 ∧ 2 ≤ b ∧ b ≤ 4 ∧ 0 ≤ c ∧ c ≤ 8) → y = -1) ∧ ((1 ≤ a ∧ a ≤ 3 ∧ 2 ≤ b ∧ b ≤ 4 ∧ 0 ≤ c ∧ c ≤ 8) → y = TBX a b c) ∧ B 51 = A 51 := hh
  have cp := CF_codes hPH.1.1 hC (C65_codes g0) (R65_codes (RX_low hQ h0.1) h1)
  have cg := CG_codes hPH.1.2 hC hQ (C65_codes g0) (R65_codes (RX_low hQ h0.1) h1)
  have ch := CH_codes hPH.1 hPH.2 hC g0 h1
  have hph : CPH B R S := ⟨⟨cp.1, cg⟩, ch⟩
  clear cp cg ch g0 h1
  have zz : ∀ k, 49 ≤ k → k < 73 → A k = I k := fun k h1 _ => h0.1 k (by omega)
  have zj : ∀ k, 49 ≤ k → k < 73 → JA k = J k := fun k h1 _ => h0.2.1 k (by omega)
  have z49 := zz 49 (by decide) (by decide)
  have z50 := zz 50 (by decide) (by decide)
  have z51 := zz 51 (by decide) (by decide)
  have z52 := zz 52 (by decide) (by decide)
  have z53 := zz 53 (by decide) (by decide)
  have z61 := zz 61 (by decide) (by decide)
  have z72 := zz 72 (by decide) (by decide)
  have qa : QF A JA v := QF_kp hQF (congrFun z49 1) (congrFun z49 25) z51 z61 (zj 62 (by decide) (by decide)) (Int.le_refl _)
  have yc : ∀ k, k < 49 ∨ 73 ≤ k → B k = A k := Ch_kp hh.1 (by decide)
  have frB : FRk B JB := FRk_kp (a := 49) (b := 73) fr yc hh.2.1 (by decide)
  have b51 : B 51 = A 51 := hh.2.2.2.2.2
  have y51 : B 51 = I 51 := b51.trans z51
  exact ⟨hph, ⟨frB, (QF_tk qa qk.1.2.2.1 qk.2 b51 (by omega))⟩, (OK8_k hOK (fun j _ => congrFun y51 j) ((hh.1.1 52 (by decide) (by decide)).trans z52) ((hh.1.1 53 (by decide) (by decide)).trans z53) (RX_o hQ).2.2.2.2.2.2.2.2.2.2), ⟨(SA8_k hST.1 ((congrFun (yc 0 (by decide)) 16).trans (h0.2.2.2.1 0 16 (by decide) (by decide) (by decide))) ((yc 48 (by decide)).trans (Fw_row h0.2.2.2.1 48 (by decide) (by decide) (by decide))) ((hh.1.2 0 (by decide)).trans (congrFun z49 0)) ((hh.1.1 50 (by decide) (by decide)).trans z50)), (TL8_k hST.2 ((congrFun (yc 1 (by decide)) 8).trans (h0.2.2.2.1 1 8 (by decide) (by decide) (by decide))) ((congrFun (yc 1 (by decide)) 10).trans (h0.2.2.2.1 1 10 (by decide) (by decide) (by decide))) ((yc 5 (by decide)).trans (Fw_row h0.2.2.2.1 5 (by decide) (by decide) (by decide))) (fun j _ => congrFun y51 j))⟩, (IM8_k hIM hC rfl ((hh.1.1 52 (by decide) (by decide)).trans z52) (fun k h1 _ => (yc k (Or.inr h1)).trans (h0.1 k (by omega)))), (DR8_k hDR ((congrFun (yc 0 (by decide)) 13).trans (h0.2.2.2.1 0 13 (by decide) (by decide) (by decide))) ((congrFun (yc 0 (by decide)) 14).trans (h0.2.2.2.1 0 14 (by decide) (by decide) (by decide))) ((yc 47 (by decide)).trans (Fw_row h0.2.2.2.1 47 (by decide) (by decide) (by decide))) ((hh.1.2 39 (by decide)).trans (congrFun z49 39)) ((hh.1.2 40 (by decide)).trans (congrFun z49 40)) ((hh.1.1 72 (by decide) (by decide)).trans z72))⟩
set_option maxHeartbeats 1000000 in
theorem CI8_log {I A B J JA JB : aI1} {R : aR1} {S : aS1} {a x y v : Int} (hP : CPI I J R S v) (hC : CI I R S) (hQ : RX I) (h0 : (Kp 0 49 I A ∧ Kp 0 49 J JA ∧ CX A ∧ Fw [] [] I A ∧ x = if a = -1 then I 1 8 else if 0 ≤ a ∧ a < I 1 10 then I 5 a.toNat else -1) ∧ FRk A JA) (hh : A = B ∧ JA = JB ∧ y = if a = -1 then A 51 307 else if 0 ≤ a ∧ a < A 51 308 then A 51 (264 + a).toNat else -1) : CPI B JB R S (v + 1) := by
  obtain ⟨hPH, ⟨-, hQF⟩, hOK, hST, hIM, hDR⟩ := id hP
  obtain ⟨h0, fr⟩ := h0
  obtain ⟨rfl, rfl, hh⟩ := hh
  have g0 : Kp 0 49 I A ∧ Kp 0 49 J JA ∧ CX A ∧ Fw [] [] I A ∧ True := ⟨h0.1, h0.2.1, h0.2.2.1, h0.2.2.2.1, trivial⟩
  have h1 : A = A ∧ JA = JA ∧ True := ⟨rfl, rfl, trivial⟩
  have cp := CF_log hPH.1.1 hC g0 h1
  have cg := CG_log hPH.1.2 hC hQ g0 h1
  have ch := CH_log hPH.1 hPH.2 hC g0 h1
  have hph : CPH A R S := ⟨⟨cp, cg⟩, ch⟩
  clear cp cg ch g0 h1
  have zz : ∀ k, 49 ≤ k → k < 73 → A k = I k := fun k h1 _ => h0.1 k (by omega)
  have zj : ∀ k, 49 ≤ k → k < 73 → JA k = J k := fun k h1 _ => h0.2.1 k (by omega)
  have z49 := zz 49 (by decide) (by decide)
  have z50 := zz 50 (by decide) (by decide)
  have z51 := zz 51 (by decide) (by decide)
  have z52 := zz 52 (by decide) (by decide)
  have z53 := zz 53 (by decide) (by decide)
  have z61 := zz 61 (by decide) (by decide)
  have z72 := zz 72 (by decide) (by decide)
  have qa : QF A JA v := QF_kp hQF (congrFun z49 1) (congrFun z49 25) z51 z61 (zj 62 (by decide) (by decide)) (Int.le_refl _)
  exact ⟨hph, ⟨fr, (QF_mn qa (by omega))⟩, (OK8_k hOK (fun j _ => congrFun z51 j) z52 z53 (RX_o hQ).2.2.2.2.2.2.2.2.2.2), ⟨(SA8_k hST.1 (h0.2.2.2.1 0 16 (by decide) (by decide) (by decide)) (Fw_row h0.2.2.2.1 48 (by decide) (by decide) (by decide)) (congrFun z49 0) z50), (TL8_k hST.2 (h0.2.2.2.1 1 8 (by decide) (by decide) (by decide)) (h0.2.2.2.1 1 10 (by decide) (by decide) (by decide)) (Fw_row h0.2.2.2.1 5 (by decide) (by decide) (by decide)) (fun j _ => congrFun z51 j))⟩, (IM8_k hIM hC rfl z52 (fun k h1 _ => h0.1 k (by omega))), (DR8_k hDR (h0.2.2.2.1 0 13 (by decide) (by decide) (by decide)) (h0.2.2.2.1 0 14 (by decide) (by decide) (by decide)) (Fw_row h0.2.2.2.1 47 (by decide) (by decide) (by decide)) (congrFun z49 39) (congrFun z49 40) z72)⟩
set_option maxHeartbeats 1000000 in
theorem CI8_burnt {I A B J JA JB : aI1} {R : aR1} {S : aS1} {x y v : Int} (hP : CPI I J R S v) (hC : CI I R S) (hQ : RX I) (h0 : (Kp 0 49 I A ∧ Kp 0 49 J JA ∧ CX A ∧ Fw [18, 19, 20, 21, 22, 23, 24, 25, 26, 27, 28, 29, 30] [] I A ∧ x = oilS (I 2) (I 1 8).toNat (I 1 5).toNat) ∧ FRk A JA) (hh : A = B ∧ JA = JB ∧ y = oilF (A 51) (A 51 307) (A 51 304).toNat) : CPI B JB R S (v + 1) := by
  obtain ⟨hPH, ⟨-, hQF⟩, hOK, hST, hIM, hDR⟩ := id hP
  obtain ⟨h0, fr⟩ := h0
  obtain ⟨rfl, rfl, hh⟩ := hh
  have g0 : Kp 0 49 I A ∧ Kp 0 49 J JA ∧ CX A ∧ Fw [18, 19, 20, 21, 22, 23, 24, 25, 26, 27, 28, 29, 30, 31, 32, 33, 34, 35, 36] [] I A ∧ True := ⟨h0.1, h0.2.1, h0.2.2.1, (Fw_wd h0.2.2.2.1 (by decide) (by decide)), trivial⟩
  have h1 : A = A ∧ JA = JA ∧ True := ⟨rfl, rfl, trivial⟩
  have cp := CF_burnt hPH.1.1 hC g0 h1
  have cg := CG_burnt hPH.1.2 hC hQ g0 h1
  have ch := CH_burnt hPH.1 hPH.2 hC g0 h1
  have hph : CPH A R S := ⟨⟨cp, cg⟩, ch⟩
  clear cp cg ch g0 h1
  have zz : ∀ k, 49 ≤ k → k < 73 → A k = I k := fun k h1 _ => h0.1 k (by omega)
  have zj : ∀ k, 49 ≤ k → k < 73 → JA k = J k := fun k h1 _ => h0.2.1 k (by omega)
  have z49 := zz 49 (by decide) (by decide)
  have z50 := zz 50 (by decide) (by decide)
  have z51 := zz 51 (by decide) (by decide)
  have z52 := zz 52 (by decide) (by decide)
  have z53 := zz 53 (by decide) (by decide)
  have z61 := zz 61 (by decide) (by decide)
  have z72 := zz 72 (by decide) (by decide)
  have qa : QF A JA v := QF_kp hQF (congrFun z49 1) (congrFun z49 25) z51 z61 (zj 62 (by decide) (by decide)) (Int.le_refl _)
  exact ⟨hph, ⟨fr, (QF_mn qa (by omega))⟩, (OK8_k hOK (fun j _ => congrFun z51 j) z52 z53 (RX_o hQ).2.2.2.2.2.2.2.2.2.2), ⟨(SA8_k hST.1 (h0.2.2.2.1 0 16 (by decide) (by decide) (by decide)) (Fw_row h0.2.2.2.1 48 (by decide) (by decide) (by decide)) (congrFun z49 0) z50), (TL8_k hST.2 (h0.2.2.2.1 1 8 (by decide) (by decide) (by decide)) (h0.2.2.2.1 1 10 (by decide) (by decide) (by decide)) (Fw_row h0.2.2.2.1 5 (by decide) (by decide) (by decide)) (fun j _ => congrFun z51 j))⟩, (IM8_k hIM hC rfl z52 (fun k h1 _ => h0.1 k (by omega))), (DR8_k hDR (h0.2.2.2.1 0 13 (by decide) (by decide) (by decide)) (h0.2.2.2.1 0 14 (by decide) (by decide) (by decide)) (Fw_row h0.2.2.2.1 47 (by decide) (by decide) (by decide)) (congrFun z49 39) (congrFun z49 40) z72)⟩
set_option maxHeartbeats 1000000 in
theorem CI8_judge {I A B J JA JB : aI1} {R : aR1} {S : aS1} {a x y v : Int} (hP : CPI I J R S v) (hC : CI I R S) (hQ : RX I) (h0 : (Kp 0 49 I A ∧ Kp 0 49 J JA ∧ CX A ∧ Fw [18, 19, 20, 21, 22, 23, 24, 25, 26, 27, 28, 29, 30] [] I A ∧ ((0 ≤ a ∧ a ≤ 3) → ∃ o L T, KT a I o L T ∧ JG (fun s t => 0 ≤ s ∧ s ≤ FU (I 1 5) ∧ 0 ≤ t ∧ t ≤ FU (I 1 5) ∧ ¬ I 3 t.toNat = -1 ∧ NX (bC a o L T) (I 3) (I 1 7) s (FU (I 1 5) + 1) (I 3 t.toNat) = t) (I 46) (I 0 12) x) ∧ (¬ (0 ≤ a ∧ a ≤ 3) → x = -1)) ∧ FRk A JA) (hh : Ch [61] [25] A B ∧ Kp 49 73 JA JB ∧ RX B ∧ B 51 = A 51 ∧ QF B JB v ∧ ((0 ≤ a ∧ a ≤ 3) → ∃ L M, zLV (A 51) (A 51 306) (FU (A 51 304) + 1) (A 51 305) (-1) L ∧ MRc (A 51) (A 51 306) (A 51 304) (A 51 305) M ∧ JG (JOk (fun s => bR a s (A 51 304) (A 51 305) (A 51) L M) (A 51) (A 51 306) (A 51 304)) (A 67) (A 49 33) y) ∧ (¬ (0 ≤ a ∧ a ≤ 3) → y = -1)) : CPI B JB R S (v + 1) := by
  obtain ⟨hPH, ⟨-, hQF⟩, hOK, hST, hIM, hDR⟩ := id hP
  obtain ⟨h0, fr⟩ := h0
  have g0 : Kp 0 49 I A ∧ Kp 0 49 J JA ∧ CX A ∧ Fw [18, 19, 20, 21, 22, 23, 24, 25, 26, 27, 28, 29, 30, 31, 32, 33, 34, 35, 36] [] I A ∧ True := ⟨h0.1, h0.2.1, h0.2.2.1, (Fw_wd h0.2.2.2.1 (by decide) (by decide)), trivial⟩
  have h1 : Ch [61] [25] A B ∧ Kp 49 73 JA JB ∧ RX B ∧ True := ⟨hh.1, hh.2.1, hh.2.2.1, trivial⟩
  have cp := CF_judge hPH.1.1 hC g0 h1
  have cg := CG_judge hPH.1.2 hC hQ g0 h1
  have ch := CH_judge hPH.1 hPH.2 hC g0 h1
  have hph : CPH B R S := ⟨⟨cp, cg⟩, ch⟩
  clear cp cg ch g0 h1
  have zz : ∀ k, 49 ≤ k → k < 73 → A k = I k := fun k h1 _ => h0.1 k (by omega)
  have zj : ∀ k, 49 ≤ k → k < 73 → JA k = J k := fun k h1 _ => h0.2.1 k (by omega)
  have z49 := zz 49 (by decide) (by decide)
  have z50 := zz 50 (by decide) (by decide)
  have z51 := zz 51 (by decide) (by decide)
  have z52 := zz 52 (by decide) (by decide)
  have z53 := zz 53 (by decide) (by decide)
  have z61 := zz 61 (by decide) (by decide)
  have z72 := zz 72 (by decide) (by decide)
  have qa : QF A JA v := QF_kp hQF (congrFun z49 1) (congrFun z49 25) z51 z61 (zj 62 (by decide) (by decide)) (Int.le_refl _)
  have yc : ∀ k, k < 49 ∨ 73 ≤ k → B k = A k := Ch_kp hh.1 (by decide)
  have frB : FRk B JB := FRk_kp (a := 49) (b := 73) fr yc hh.2.1 (by decide)
  have b51 : B 51 = A 51 := (hh.1.1 51 (by decide) (by decide))
  have y51 : B 51 = I 51 := b51.trans z51
  have hqB : QF B JB v := hh.2.2.2.2.1
  exact ⟨hph, ⟨frB, (QF_mn hqB (by omega))⟩, (OK8_k hOK (fun j _ => congrFun y51 j) ((hh.1.1 52 (by decide) (by decide)).trans z52) ((hh.1.1 53 (by decide) (by decide)).trans z53) (RX_o hQ).2.2.2.2.2.2.2.2.2.2), ⟨(SA8_k hST.1 ((congrFun (yc 0 (by decide)) 16).trans (h0.2.2.2.1 0 16 (by decide) (by decide) (by decide))) ((yc 48 (by decide)).trans (Fw_row h0.2.2.2.1 48 (by decide) (by decide) (by decide))) ((hh.1.2 0 (by decide)).trans (congrFun z49 0)) ((hh.1.1 50 (by decide) (by decide)).trans z50)), (TL8_k hST.2 ((congrFun (yc 1 (by decide)) 8).trans (h0.2.2.2.1 1 8 (by decide) (by decide) (by decide))) ((congrFun (yc 1 (by decide)) 10).trans (h0.2.2.2.1 1 10 (by decide) (by decide) (by decide))) ((yc 5 (by decide)).trans (Fw_row h0.2.2.2.1 5 (by decide) (by decide) (by decide))) (fun j _ => congrFun y51 j))⟩, (IM8_k hIM hC rfl ((hh.1.1 52 (by decide) (by decide)).trans z52) (fun k h1 _ => (yc k (Or.inr h1)).trans (h0.1 k (by omega)))), (DR8_k hDR ((congrFun (yc 0 (by decide)) 13).trans (h0.2.2.2.1 0 13 (by decide) (by decide) (by decide))) ((congrFun (yc 0 (by decide)) 14).trans (h0.2.2.2.1 0 14 (by decide) (by decide) (by decide))) ((yc 47 (by decide)).trans (Fw_row h0.2.2.2.1 47 (by decide) (by decide) (by decide))) ((hh.1.2 39 (by decide)).trans (congrFun z49 39)) ((hh.1.2 40 (by decide)).trans (congrFun z49 40)) ((hh.1.1 72 (by decide) (by decide)).trans z72))⟩
set_option maxHeartbeats 1000000 in
theorem CI8_rows {I A B J JA JB : aI1} {R : aR1} {S : aS1} {a b c x y v : Int} (hP : CPI I J R S v) (hC : CI I R S) (hQ : RX I) (h0 : (Kp 0 49 I A ∧ Kp 0 49 J JA ∧ CX A ∧ Fw [18, 19, 20, 21, 22, 23, 24, 25, 26, 27, 28, 29, 30, 31, 32] [] I A ∧ ((0 ≤ a ∧ a ≤ 8 ∧ 0 ≤ b ∧ b ≤ FU (I 1 5) ∧ 0 ≤ c ∧ c ≤ 3) → ∃ o L T, KT c I o L T ∧ x = RW (I 3) (nxD c I o L T) (-1) (-1) (I 1 6).toNat (FU (I 1 5) + 1).toNat a.toNat b.toNat) ∧ (¬ (0 ≤ a ∧ a ≤ 8 ∧ 0 ≤ b ∧ b ≤ FU (I 1 5) ∧ 0 ≤ c ∧ c ≤ 3) → x = -1)) ∧ FRk A JA) (hh : Ch [61] [25] A B ∧ Kp 49 73 JA JB ∧ RX B ∧ B 51 = A 51 ∧ QF B JB v ∧ ((0 ≤ a ∧ a ≤ 8 ∧ 0 ≤ b ∧ b ≤ FU (A 51 304) ∧ 0 ≤ c ∧ c ≤ 3) → ∃ L M, (zLV (A 51) (A 51 306) (FU (A 51 304) + 1) (A 51 305) (-1) L ∧ MRc (A 51) (A 51 306) (A 51 304) (A 51 305) M) ∧ y = RW (A 51) (nxRf c A L M) (-1) 0 (A 51 305).toNat (FU (A 51 304) + 1).toNat a.toNat b.toNat) ∧ (¬ (0 ≤ a ∧ a ≤ 8 ∧ 0 ≤ b ∧ b ≤ FU (A 51 304) ∧ 0 ≤ c ∧ c ≤ 3) → y = -1)) : CPI B JB R S (v + 1) := by
  obtain ⟨hPH, ⟨-, hQF⟩, hOK, hST, hIM, hDR⟩ := id hP
  obtain ⟨h0, fr⟩ := h0
  have g0 : Kp 0 49 I A ∧ Kp 0 49 J JA ∧ CX A ∧ Fw [18, 19, 20, 21, 22, 23, 24, 25, 26, 27, 28, 29, 30, 31, 32, 33, 34, 35, 36] [] I A ∧ True := ⟨h0.1, h0.2.1, h0.2.2.1, (Fw_wd h0.2.2.2.1 (by decide) (by decide)), trivial⟩
  have h1 : Ch [61] [25] A B ∧ Kp 49 73 JA JB ∧ RX B ∧ True := ⟨hh.1, hh.2.1, hh.2.2.1, trivial⟩
  have cp := CF_rows hPH.1.1 hC g0 h1
  have cg := CG_rows hPH.1.2 hC hQ g0 h1
  have ch := CH_rows hPH.1 hPH.2 hC g0 h1
  have hph : CPH B R S := ⟨⟨cp, cg⟩, ch⟩
  clear cp cg ch g0 h1
  have zz : ∀ k, 49 ≤ k → k < 73 → A k = I k := fun k h1 _ => h0.1 k (by omega)
  have zj : ∀ k, 49 ≤ k → k < 73 → JA k = J k := fun k h1 _ => h0.2.1 k (by omega)
  have z49 := zz 49 (by decide) (by decide)
  have z50 := zz 50 (by decide) (by decide)
  have z51 := zz 51 (by decide) (by decide)
  have z52 := zz 52 (by decide) (by decide)
  have z53 := zz 53 (by decide) (by decide)
  have z61 := zz 61 (by decide) (by decide)
  have z72 := zz 72 (by decide) (by decide)
  have qa : QF A JA v := QF_kp hQF (congrFun z49 1) (congrFun z49 25) z51 z61 (zj 62 (by decide) (by decide)) (Int.le_refl _)
  have yc : ∀ k, k < 49 ∨ 73 ≤ k → B k = A k := Ch_kp hh.1 (by decide)
  have frB : FRk B JB := FRk_kp (a := 49) (b := 73) fr yc hh.2.1 (by decide)
  have b51 : B 51 = A 51 := (hh.1.1 51 (by decide) (by decide))
  have y51 : B 51 = I 51 := b51.trans z51
  have hqB : QF B JB v := hh.2.2.2.2.1
  exact ⟨hph, ⟨frB, (QF_mn hqB (by omega))⟩, (OK8_k hOK (fun j _ => congrFun y51 j) ((hh.1.1 52 (by decide) (by decide)).trans z52) ((hh.1.1 53 (by decide) (by decide)).trans z53) (RX_o hQ).2.2.2.2.2.2.2.2.2.2), ⟨(SA8_k hST.1 ((congrFun (yc 0 (by decide)) 16).trans (h0.2.2.2.1 0 16 (by decide) (by decide) (by decide))) ((yc 48 (by decide)).trans (Fw_row h0.2.2.2.1 48 (by decide) (by decide) (by decide))) ((hh.1.2 0 (by decide)).trans (congrFun z49 0)) ((hh.1.1 50 (by decide) (by decide)).trans z50)), (TL8_k hST.2 ((congrFun (yc 1 (by decide)) 8).trans (h0.2.2.2.1 1 8 (by decide) (by decide) (by decide))) ((congrFun (yc 1 (by decide)) 10).trans (h0.2.2.2.1 1 10 (by decide) (by decide) (by decide))) ((yc 5 (by decide)).trans (Fw_row h0.2.2.2.1 5 (by decide) (by decide) (by decide))) (fun j _ => congrFun y51 j))⟩, (IM8_k hIM hC rfl ((hh.1.1 52 (by decide) (by decide)).trans z52) (fun k h1 _ => (yc k (Or.inr h1)).trans (h0.1 k (by omega)))), (DR8_k hDR ((congrFun (yc 0 (by decide)) 13).trans (h0.2.2.2.1 0 13 (by decide) (by decide) (by decide))) ((congrFun (yc 0 (by decide)) 14).trans (h0.2.2.2.1 0 14 (by decide) (by decide) (by decide))) ((yc 47 (by decide)).trans (Fw_row h0.2.2.2.1 47 (by decide) (by decide) (by decide))) ((hh.1.2 39 (by decide)).trans (congrFun z49 39)) ((hh.1.2 40 (by decide)).trans (congrFun z49 40)) ((hh.1.1 72 (by decide) (by decide)).trans z72))⟩
set_option maxHeartbeats 1000000 in
theorem CI8_could {I A B J JA JB : aI1} {R : aR1} {S : aS1} {a b c e f x y v : Int} (hP : CPI I J R S v) (hC : CI I R S) (hQ : RX I) (h0 : (Kp 0 49 I A ∧ Kp 0 49 J JA ∧ CX A ∧ Fw [18, 19, 20, 21, 22, 23, 24, 25, 26, 27, 28, 29, 30, 31, 32] [] I A ∧ ((0 ≤ a ∧ a ≤ 8 ∧ 0 ≤ b ∧ b ≤ FU (I 1 5) ∧ 0 ≤ c ∧ c ≤ 3 ∧ 0 ≤ e ∧ e < a ∧ 0 ≤ f ∧ f < I 1 6) → ∃ o L T, KT c I o L T ∧ x = RW (I 3) (nxD c I o L T) e f (I 1 6).toNat (FU (I 1 5) + 1).toNat a.toNat b.toNat) ∧ (¬ (0 ≤ a ∧ a ≤ 8 ∧ 0 ≤ b ∧ b ≤ FU (I 1 5) ∧ 0 ≤ c ∧ c ≤ 3 ∧ 0 ≤ e ∧ e < a ∧ 0 ≤ f ∧ f < I 1 6) → x = -1)) ∧ FRk A JA) (hh : Ch [61] [25] A B ∧ Kp 49 73 JA JB ∧ RX B ∧ B 51 = A 51 ∧ QF B JB v ∧ ((0 ≤ a ∧ a ≤ 8 ∧ 0 ≤ b ∧ b ≤ FU (A 51 304) ∧ 0 ≤ c ∧ c ≤ 3 ∧ 0 ≤ e ∧ e < a ∧ 0 ≤ f ∧ f < A 51 305) → ∃ L M, (zLV (A 51) (A 51 306) (FU (A 51 304) + 1) (A 51 305) (-1) L ∧ MRc (A 51) (A 51 306) (A 51 304) (A 51 305) M) ∧ y = RW (A 51) (nxRf c A L M) e f (A 51 305).toNat (FU (A 51 304) + 1).toNat a.toNat b.toNat) ∧ (¬ (0 ≤ a ∧ a ≤ 8 ∧ 0 ≤ b ∧ b ≤ FU (A 51 304) ∧ 0 ≤ c ∧ c ≤ 3 ∧ 0 ≤ e ∧ e < a ∧ 0 ≤ f ∧ f < A 51 305) → y = -1)) : CPI B JB R S (v + 1) := by
  obtain ⟨hPH, ⟨-, hQF⟩, hOK, hST, hIM, hDR⟩ := id hP
  obtain ⟨h0, fr⟩ := h0
  have g0 : Kp 0 49 I A ∧ Kp 0 49 J JA ∧ CX A ∧ Fw [18, 19, 20, 21, 22, 23, 24, 25, 26, 27, 28, 29, 30, 31, 32, 33, 34, 35, 36] [] I A ∧ True := ⟨h0.1, h0.2.1, h0.2.2.1, (Fw_wd h0.2.2.2.1 (by decide) (by decide)), trivial⟩
  have h1 : Ch [61] [25] A B ∧ Kp 49 73 JA JB ∧ RX B ∧ True := ⟨hh.1, hh.2.1, hh.2.2.1, trivial⟩
  have cp := CF_could hPH.1.1 hC g0 h1
  have cg := CG_could hPH.1.2 hC hQ g0 h1
  have ch := CH_could hPH.1 hPH.2 hC g0 h1
  have hph : CPH B R S := ⟨⟨cp, cg⟩, ch⟩
  clear cp cg ch g0 h1
  have zz : ∀ k, 49 ≤ k → k < 73 → A k = I k := fun k h1 _ => h0.1 k (by omega)
  have zj : ∀ k, 49 ≤ k → k < 73 → JA k = J k := fun k h1 _ => h0.2.1 k (by omega)
  have z49 := zz 49 (by decide) (by decide)
  have z50 := zz 50 (by decide) (by decide)
  have z51 := zz 51 (by decide) (by decide)
  have z52 := zz 52 (by decide) (by decide)
  have z53 := zz 53 (by decide) (by decide)
  have z61 := zz 61 (by decide) (by decide)
  have z72 := zz 72 (by decide) (by decide)
  have qa : QF A JA v := QF_kp hQF (congrFun z49 1) (congrFun z49 25) z51 z61 (zj 62 (by decide) (by decide)) (Int.le_refl _)
  have yc : ∀ k, k < 49 ∨ 73 ≤ k → B k = A k := Ch_kp hh.1 (by decide)
  have frB : FRk B JB := FRk_kp (a := 49) (b := 73) fr yc hh.2.1 (by decide)
  have b51 : B 51 = A 51 := (hh.1.1 51 (by decide) (by decide))
  have y51 : B 51 = I 51 := b51.trans z51
  have hqB : QF B JB v := hh.2.2.2.2.1
  exact ⟨hph, ⟨frB, (QF_mn hqB (by omega))⟩, (OK8_k hOK (fun j _ => congrFun y51 j) ((hh.1.1 52 (by decide) (by decide)).trans z52) ((hh.1.1 53 (by decide) (by decide)).trans z53) (RX_o hQ).2.2.2.2.2.2.2.2.2.2), ⟨(SA8_k hST.1 ((congrFun (yc 0 (by decide)) 16).trans (h0.2.2.2.1 0 16 (by decide) (by decide) (by decide))) ((yc 48 (by decide)).trans (Fw_row h0.2.2.2.1 48 (by decide) (by decide) (by decide))) ((hh.1.2 0 (by decide)).trans (congrFun z49 0)) ((hh.1.1 50 (by decide) (by decide)).trans z50)), (TL8_k hST.2 ((congrFun (yc 1 (by decide)) 8).trans (h0.2.2.2.1 1 8 (by decide) (by decide) (by decide))) ((congrFun (yc 1 (by decide)) 10).trans (h0.2.2.2.1 1 10 (by decide) (by decide) (by decide))) ((yc 5 (by decide)).trans (Fw_row h0.2.2.2.1 5 (by decide) (by decide) (by decide))) (fun j _ => congrFun y51 j))⟩, (IM8_k hIM hC rfl ((hh.1.1 52 (by decide) (by decide)).trans z52) (fun k h1 _ => (yc k (Or.inr h1)).trans (h0.1 k (by omega)))), (DR8_k hDR ((congrFun (yc 0 (by decide)) 13).trans (h0.2.2.2.1 0 13 (by decide) (by decide) (by decide))) ((congrFun (yc 0 (by decide)) 14).trans (h0.2.2.2.1 0 14 (by decide) (by decide) (by decide))) ((yc 47 (by decide)).trans (Fw_row h0.2.2.2.1 47 (by decide) (by decide) (by decide))) ((hh.1.2 39 (by decide)).trans (congrFun z49 39)) ((hh.1.2 40 (by decide)).trans (congrFun z49 40)) ((hh.1.1 72 (by decide) (by decide)).trans z72))⟩
set_option maxHeartbeats 1000000 in
theorem CI8_maybe {I A B J JA JB : aI1} {R : aR1} {S : aS1} {a b x y v : Int} (hP : CPI I J R S v) (hC : CI I R S) (hQ : RX I) (h0 : (Kp 0 49 I A ∧ Kp 0 49 J JA ∧ CX A ∧ Fw [] [] I A ∧ ((0 ≤ a ∧ a ≤ FU (I 1 5) ∧ 0 ≤ b ∧ b ≤ 8) → x = fW (mbF (I 3) (I 1 7) a (FU (I 1 5) + 1) b) 0 (FU (I 1 5) + 1).toNat) ∧ (¬ (0 ≤ a ∧ a ≤ FU (I 1 5) ∧ 0 ≤ b ∧ b ≤ 8) → x = -1)) ∧ FRk A JA) (hh : (Ch [63] [] A B ∧ Kp 49 73 JA JB ∧ RX B ∧ ((0 ≤ a ∧ a ≤ FU (A 51 304) ∧ 0 ≤ b ∧ b ≤ 8) → y = fW (mbF (A 51) (A 51 306) a (FU (A 51 304) + 1) b) 0 (FU (A 51 304) + 1).toNat) ∧ (¬ (0 ≤ a ∧ a ≤ FU (A 51 304) ∧ 0 ≤ b ∧ b ≤ 8) → y = -1)) ∧ QK9 A B JA JB) : CPI B JB R S (v + 1) := by
  obtain ⟨hPH, ⟨-, hQF⟩, hOK, hST, hIM, hDR⟩ := id hP
  obtain ⟨h0, fr⟩ := h0
  obtain ⟨hh, qk⟩ := hh
  have g0 : Kp 0 49 I A ∧ Kp 0 49 J JA ∧ CX A ∧ Fw [] [] I A ∧ True := ⟨h0.1, h0.2.1, h0.2.2.1, h0.2.2.2.1, trivial⟩
  have h1 : Ch [63] [] A B ∧ Kp 49 73 JA JB ∧ RX B ∧ True := ⟨hh.1, hh.2.1, hh.2.2.1, trivial⟩
  have cp := CF_maybe hPH.1.1 hC g0 h1
  have cg := CG_maybe hPH.1.2 hC hQ g0 h1
  have ch := CH_maybe hPH.1 hPH.2 hC g0 h1
  have hph : CPH B R S := ⟨⟨cp, cg⟩, ch⟩
  clear cp cg ch g0 h1
  have zz : ∀ k, 49 ≤ k → k < 73 → A k = I k := fun k h1 _ => h0.1 k (by omega)
  have zj : ∀ k, 49 ≤ k → k < 73 → JA k = J k := fun k h1 _ => h0.2.1 k (by omega)
  have z49 := zz 49 (by decide) (by decide)
  have z50 := zz 50 (by decide) (by decide)
  have z51 := zz 51 (by decide) (by decide)
  have z52 := zz 52 (by decide) (by decide)
  have z53 := zz 53 (by decide) (by decide)
  have z61 := zz 61 (by decide) (by decide)
  have z72 := zz 72 (by decide) (by decide)
  have qa : QF A JA v := QF_kp hQF (congrFun z49 1) (congrFun z49 25) z51 z61 (zj 62 (by decide) (by decide)) (Int.le_refl _)
  have yc : ∀ k, k < 49 ∨ 73 ≤ k → B k = A k := Ch_kp hh.1 (by decide)
  have frB : FRk B JB := FRk_kp (a := 49) (b := 73) fr yc hh.2.1 (by decide)
  have b51 : B 51 = A 51 := (hh.1.1 51 (by decide) (by decide))
  have y51 : B 51 = I 51 := b51.trans z51
  exact ⟨hph, ⟨frB, (QF_tk qa qk.1.2.2.1 qk.2 b51 (by omega))⟩, (OK8_k hOK (fun j _ => congrFun y51 j) ((hh.1.1 52 (by decide) (by decide)).trans z52) ((hh.1.1 53 (by decide) (by decide)).trans z53) (RX_o hQ).2.2.2.2.2.2.2.2.2.2), ⟨(SA8_k hST.1 ((congrFun (yc 0 (by decide)) 16).trans (h0.2.2.2.1 0 16 (by decide) (by decide) (by decide))) ((yc 48 (by decide)).trans (Fw_row h0.2.2.2.1 48 (by decide) (by decide) (by decide))) ((hh.1.2 0 (by decide)).trans (congrFun z49 0)) ((hh.1.1 50 (by decide) (by decide)).trans z50)), (TL8_k hST.2 ((congrFun (yc 1 (by decide)) 8).trans (h0.2.2.2.1 1 8 (by decide) (by decide) (by decide))) ((congrFun (yc 1 (by decide)) 10).trans (h0.2.2.2.1 1 10 (by decide) (by decide) (by decide))) ((yc 5 (by decide)).trans (Fw_row h0.2.2.2.1 5 (by decide) (by decide) (by decide))) (fun j _ => congrFun y51 j))⟩, (IM8_k hIM hC rfl ((hh.1.1 52 (by decide) (by decide)).trans z52) (fun k h1 _ => (yc k (Or.inr h1)).trans (h0.1 k (by omega)))), (DR8_k hDR ((congrFun (yc 0 (by decide)) 13).trans (h0.2.2.2.1 0 13 (by decide) (by decide) (by decide))) ((congrFun (yc 0 (by decide)) 14).trans (h0.2.2.2.1 0 14 (by decide) (by decide) (by decide))) ((yc 47 (by decide)).trans (Fw_row h0.2.2.2.1 47 (by decide) (by decide) (by decide))) ((hh.1.2 39 (by decide)).trans (congrFun z49 39)) ((hh.1.2 40 (by decide)).trans (congrFun z49 40)) ((hh.1.1 72 (by decide) (by decide)).trans z72))⟩
set_option maxHeartbeats 1000000 in
theorem CI8_safe {I A B J JA JB : aI1} {R : aR1} {S : aS1} {x y v : Int} (hP : CPI I J R S v) (hC : CI I R S) (hQ : RX I) (h0 : (Kp 0 49 I A ∧ Kp 0 49 J JA ∧ CX A ∧ Fw [18, 19, 20, 21, 22, 23, 24, 25, 26, 27, 28, 29, 30] [] I A ∧ SFE (I 3) (I 1 7) (FU (I 1 5) + 1) x) ∧ FRk A JA) (hh : (Ch [63] [] A B ∧ Kp 49 73 JA JB ∧ RX B ∧ SFE (A 51) (A 51 306) (FU (A 51 304) + 1) y) ∧ QK9 A B JA JB) : CPI B JB R S (v + 1) := by
  obtain ⟨hPH, ⟨-, hQF⟩, hOK, hST, hIM, hDR⟩ := id hP
  obtain ⟨h0, fr⟩ := h0
  obtain ⟨hh, qk⟩ := hh
  have g0 : Kp 0 49 I A ∧ Kp 0 49 J JA ∧ CX A ∧ Fw [18, 19, 20, 21, 22, 23, 24, 25, 26, 27, 28, 29, 30, 31, 32, 33, 34, 35, 36] [] I A ∧ True := ⟨h0.1, h0.2.1, h0.2.2.1, (Fw_wd h0.2.2.2.1 (by decide) (by decide)), trivial⟩
  have h1 : Ch [63] [] A B ∧ Kp 49 73 JA JB ∧ RX B ∧ True := ⟨hh.1, hh.2.1, hh.2.2.1, trivial⟩
  have cp := CF_safe hPH.1.1 hC g0 h1
  have cg := CG_safe hPH.1.2 hC hQ g0 h1
  have ch := CH_safe hPH.1 hPH.2 hC g0 h1
  have hph : CPH B R S := ⟨⟨cp, cg⟩, ch⟩
  clear cp cg ch g0 h1
  have zz : ∀ k, 49 ≤ k → k < 73 → A k = I k := fun k h1 _ => h0.1 k (by omega)
  have zj : ∀ k, 49 ≤ k → k < 73 → JA k = J k := fun k h1 _ => h0.2.1 k (by omega)
  have z49 := zz 49 (by decide) (by decide)
  have z50 := zz 50 (by decide) (by decide)
  have z51 := zz 51 (by decide) (by decide)
  have z52 := zz 52 (by decide) (by decide)
  have z53 := zz 53 (by decide) (by decide)
  have z61 := zz 61 (by decide) (by decide)
  have z72 := zz 72 (by decide) (by decide)
  have qa : QF A JA v := QF_kp hQF (congrFun z49 1) (congrFun z49 25) z51 z61 (zj 62 (by decide) (by decide)) (Int.le_refl _)
  have yc : ∀ k, k < 49 ∨ 73 ≤ k → B k = A k := Ch_kp hh.1 (by decide)
  have frB : FRk B JB := FRk_kp (a := 49) (b := 73) fr yc hh.2.1 (by decide)
  have b51 : B 51 = A 51 := (hh.1.1 51 (by decide) (by decide))
  have y51 : B 51 = I 51 := b51.trans z51
  exact ⟨hph, ⟨frB, (QF_tk qa qk.1.2.2.1 qk.2 b51 (by omega))⟩, (OK8_k hOK (fun j _ => congrFun y51 j) ((hh.1.1 52 (by decide) (by decide)).trans z52) ((hh.1.1 53 (by decide) (by decide)).trans z53) (RX_o hQ).2.2.2.2.2.2.2.2.2.2), ⟨(SA8_k hST.1 ((congrFun (yc 0 (by decide)) 16).trans (h0.2.2.2.1 0 16 (by decide) (by decide) (by decide))) ((yc 48 (by decide)).trans (Fw_row h0.2.2.2.1 48 (by decide) (by decide) (by decide))) ((hh.1.2 0 (by decide)).trans (congrFun z49 0)) ((hh.1.1 50 (by decide) (by decide)).trans z50)), (TL8_k hST.2 ((congrFun (yc 1 (by decide)) 8).trans (h0.2.2.2.1 1 8 (by decide) (by decide) (by decide))) ((congrFun (yc 1 (by decide)) 10).trans (h0.2.2.2.1 1 10 (by decide) (by decide) (by decide))) ((yc 5 (by decide)).trans (Fw_row h0.2.2.2.1 5 (by decide) (by decide) (by decide))) (fun j _ => congrFun y51 j))⟩, (IM8_k hIM hC rfl ((hh.1.1 52 (by decide) (by decide)).trans z52) (fun k h1 _ => (yc k (Or.inr h1)).trans (h0.1 k (by omega)))), (DR8_k hDR ((congrFun (yc 0 (by decide)) 13).trans (h0.2.2.2.1 0 13 (by decide) (by decide) (by decide))) ((congrFun (yc 0 (by decide)) 14).trans (h0.2.2.2.1 0 14 (by decide) (by decide) (by decide))) ((yc 47 (by decide)).trans (Fw_row h0.2.2.2.1 47 (by decide) (by decide) (by decide))) ((hh.1.2 39 (by decide)).trans (congrFun z49 39)) ((hh.1.2 40 (by decide)).trans (congrFun z49 40)) ((hh.1.1 72 (by decide) (by decide)).trans z72))⟩
set_option maxHeartbeats 1000000 in
theorem CI8_spy {I A B J JA JB : aI1} {R : aR1} {S : aS1} {v : Int} (hP : CPI I J R S v) (hC : CI I R S) (hQ : RX I) (h0 : (Kp 0 49 I A ∧ Kp 0 49 J JA ∧ CX A ∧ Fw [] [] I A ∧ True) ∧ FRk A JA) (hh : (Ch [63] [] A B ∧ Kp 49 73 JA JB ∧ RX B ∧ True) ∧ QK9 A B JA JB) : CPI B JB R S (v + 1) := by
  obtain ⟨hPH, ⟨-, hQF⟩, hOK, hST, hIM, hDR⟩ := id hP
  obtain ⟨h0, fr⟩ := h0
  obtain ⟨hh, qk⟩ := hh
  have g0 : Kp 0 49 I A ∧ Kp 0 49 J JA ∧ CX A ∧ Fw [] [] I A ∧ True := h0
  have h1 : Ch [63] [] A B ∧ Kp 49 73 JA JB ∧ RX B ∧ True := hh
  have cp := CF_spy hPH.1.1 hC g0 h1
  have cg := CG_spy hPH.1.2 hC hQ g0 h1
  have ch := CH_spy hPH.1 hPH.2 hC g0 h1
  have hph : CPH B R S := ⟨⟨cp, cg⟩, ch⟩
  clear cp cg ch g0 h1
  have zz : ∀ k, 49 ≤ k → k < 73 → A k = I k := fun k h1 _ => h0.1 k (by omega)
  have zj : ∀ k, 49 ≤ k → k < 73 → JA k = J k := fun k h1 _ => h0.2.1 k (by omega)
  have z49 := zz 49 (by decide) (by decide)
  have z50 := zz 50 (by decide) (by decide)
  have z51 := zz 51 (by decide) (by decide)
  have z52 := zz 52 (by decide) (by decide)
  have z53 := zz 53 (by decide) (by decide)
  have z61 := zz 61 (by decide) (by decide)
  have z72 := zz 72 (by decide) (by decide)
  have qa : QF A JA v := QF_kp hQF (congrFun z49 1) (congrFun z49 25) z51 z61 (zj 62 (by decide) (by decide)) (Int.le_refl _)
  have yc : ∀ k, k < 49 ∨ 73 ≤ k → B k = A k := Ch_kp hh.1 (by decide)
  have frB : FRk B JB := FRk_kp (a := 49) (b := 73) fr yc hh.2.1 (by decide)
  have b51 : B 51 = A 51 := (hh.1.1 51 (by decide) (by decide))
  have y51 : B 51 = I 51 := b51.trans z51
  exact ⟨hph, ⟨frB, (QF_tk qa qk.1.2.2.1 qk.2 b51 (by omega))⟩, (OK8_k hOK (fun j _ => congrFun y51 j) ((hh.1.1 52 (by decide) (by decide)).trans z52) ((hh.1.1 53 (by decide) (by decide)).trans z53) (RX_o hQ).2.2.2.2.2.2.2.2.2.2), ⟨(SA8_k hST.1 ((congrFun (yc 0 (by decide)) 16).trans (h0.2.2.2.1 0 16 (by decide) (by decide) (by decide))) ((yc 48 (by decide)).trans (Fw_row h0.2.2.2.1 48 (by decide) (by decide) (by decide))) ((hh.1.2 0 (by decide)).trans (congrFun z49 0)) ((hh.1.1 50 (by decide) (by decide)).trans z50)), (TL8_k hST.2 ((congrFun (yc 1 (by decide)) 8).trans (h0.2.2.2.1 1 8 (by decide) (by decide) (by decide))) ((congrFun (yc 1 (by decide)) 10).trans (h0.2.2.2.1 1 10 (by decide) (by decide) (by decide))) ((yc 5 (by decide)).trans (Fw_row h0.2.2.2.1 5 (by decide) (by decide) (by decide))) (fun j _ => congrFun y51 j))⟩, (IM8_k hIM hC rfl ((hh.1.1 52 (by decide) (by decide)).trans z52) (fun k h1 _ => (yc k (Or.inr h1)).trans (h0.1 k (by omega)))), (DR8_k hDR ((congrFun (yc 0 (by decide)) 13).trans (h0.2.2.2.1 0 13 (by decide) (by decide) (by decide))) ((congrFun (yc 0 (by decide)) 14).trans (h0.2.2.2.1 0 14 (by decide) (by decide) (by decide))) ((yc 47 (by decide)).trans (Fw_row h0.2.2.2.1 47 (by decide) (by decide) (by decide))) ((hh.1.2 39 (by decide)).trans (congrFun z49 39)) ((hh.1.2 40 (by decide)).trans (congrFun z49 40)) ((hh.1.1 72 (by decide) (by decide)).trans z72))⟩
set_option maxHeartbeats 1000000 in
theorem CI8_cheap {I A B J JA JB : aI1} {R : aR1} {S : aS1} {v : Int} (hP : CPI I J R S v) (hC : CI I R S) (hQ : RX I) (h0 : (Kp 0 49 I A ∧ Kp 0 49 J JA ∧ CX A ∧ Fw [18, 19, 20, 21, 22, 23, 24, 25, 26, 27, 28, 29, 30, 31, 32, 33, 34, 35, 36] [] I A ∧ True) ∧ FRk A JA) (hh : (Ch [70, 71] [] A B ∧ Kp 49 73 JA JB ∧ RX B ∧ True) ∧ QK9 A B JA JB) : CPI B JB R S (v + 1) := by
  obtain ⟨hPH, ⟨-, hQF⟩, hOK, hST, hIM, hDR⟩ := id hP
  obtain ⟨h0, fr⟩ := h0
  obtain ⟨hh, qk⟩ := hh
  have g0 : Kp 0 49 I A ∧ Kp 0 49 J JA ∧ CX A ∧ Fw [18, 19, 20, 21, 22, 23, 24, 25, 26, 27, 28, 29, 30, 31, 32, 33, 34, 35, 36] [] I A ∧ True := h0
  have h1 : Ch [70, 71] [] A B ∧ Kp 49 73 JA JB ∧ RX B ∧ True := hh
  have cp := CF_cheap hPH.1.1 hC g0 h1
  have cg := CG_cheap hPH.1.2 hC hQ g0 h1
  have ch := CH_cheap hPH.1 hPH.2 hC g0 h1
  have hph : CPH B R S := ⟨⟨cp, cg⟩, ch⟩
  clear cp cg ch g0 h1
  have zz : ∀ k, 49 ≤ k → k < 73 → A k = I k := fun k h1 _ => h0.1 k (by omega)
  have zj : ∀ k, 49 ≤ k → k < 73 → JA k = J k := fun k h1 _ => h0.2.1 k (by omega)
  have z49 := zz 49 (by decide) (by decide)
  have z50 := zz 50 (by decide) (by decide)
  have z51 := zz 51 (by decide) (by decide)
  have z52 := zz 52 (by decide) (by decide)
  have z53 := zz 53 (by decide) (by decide)
  have z61 := zz 61 (by decide) (by decide)
  have z72 := zz 72 (by decide) (by decide)
  have qa : QF A JA v := QF_kp hQF (congrFun z49 1) (congrFun z49 25) z51 z61 (zj 62 (by decide) (by decide)) (Int.le_refl _)
  have yc : ∀ k, k < 49 ∨ 73 ≤ k → B k = A k := Ch_kp hh.1 (by decide)
  have frB : FRk B JB := FRk_kp (a := 49) (b := 73) fr yc hh.2.1 (by decide)
  have b51 : B 51 = A 51 := (hh.1.1 51 (by decide) (by decide))
  have y51 : B 51 = I 51 := b51.trans z51
  exact ⟨hph, ⟨frB, (QF_tk qa qk.1.2.2.1 qk.2 b51 (by omega))⟩, (OK8_k hOK (fun j _ => congrFun y51 j) ((hh.1.1 52 (by decide) (by decide)).trans z52) ((hh.1.1 53 (by decide) (by decide)).trans z53) (RX_o hQ).2.2.2.2.2.2.2.2.2.2), ⟨(SA8_k hST.1 ((congrFun (yc 0 (by decide)) 16).trans (h0.2.2.2.1 0 16 (by decide) (by decide) (by decide))) ((yc 48 (by decide)).trans (Fw_row h0.2.2.2.1 48 (by decide) (by decide) (by decide))) ((hh.1.2 0 (by decide)).trans (congrFun z49 0)) ((hh.1.1 50 (by decide) (by decide)).trans z50)), (TL8_k hST.2 ((congrFun (yc 1 (by decide)) 8).trans (h0.2.2.2.1 1 8 (by decide) (by decide) (by decide))) ((congrFun (yc 1 (by decide)) 10).trans (h0.2.2.2.1 1 10 (by decide) (by decide) (by decide))) ((yc 5 (by decide)).trans (Fw_row h0.2.2.2.1 5 (by decide) (by decide) (by decide))) (fun j _ => congrFun y51 j))⟩, (IM8_k hIM hC rfl ((hh.1.1 52 (by decide) (by decide)).trans z52) (fun k h1 _ => (yc k (Or.inr h1)).trans (h0.1 k (by omega)))), (DR8_k hDR ((congrFun (yc 0 (by decide)) 13).trans (h0.2.2.2.1 0 13 (by decide) (by decide) (by decide))) ((congrFun (yc 0 (by decide)) 14).trans (h0.2.2.2.1 0 14 (by decide) (by decide) (by decide))) ((yc 47 (by decide)).trans (Fw_row h0.2.2.2.1 47 (by decide) (by decide) (by decide))) ((hh.1.2 39 (by decide)).trans (congrFun z49 39)) ((hh.1.2 40 (by decide)).trans (congrFun z49 40)) ((hh.1.1 72 (by decide) (by decide)).trans z72))⟩
set_option maxHeartbeats 1000000 in
theorem CI8_plan {I A B J JA JB : aI1} {R : aR1} {S : aS1} {v : Int} (hP : CPI I J R S v) (hC : CI I R S) (hQ : RX I) (h0 : (Kp 0 49 I A ∧ Kp 0 49 J JA ∧ CX A ∧ Fw [18, 19, 20, 21, 22, 23, 24, 25, 26, 27, 28, 29, 30, 31, 32, 33, 34, 35, 36] [] I A ∧ True) ∧ FRk A JA) (hh : (Ch [70, 71] [] A B ∧ Kp 49 73 JA JB ∧ RX B ∧ True) ∧ QK9 A B JA JB) : CPI B JB R S (v + 1) := by
  obtain ⟨hPH, ⟨-, hQF⟩, hOK, hST, hIM, hDR⟩ := id hP
  obtain ⟨h0, fr⟩ := h0
  obtain ⟨hh, qk⟩ := hh
  have g0 : Kp 0 49 I A ∧ Kp 0 49 J JA ∧ CX A ∧ Fw [18, 19, 20, 21, 22, 23, 24, 25, 26, 27, 28, 29, 30, 31, 32, 33, 34, 35, 36] [] I A ∧ True := h0
  have h1 : Ch [70, 71] [] A B ∧ Kp 49 73 JA JB ∧ RX B ∧ True := hh
  have cp := CF_plan hPH.1.1 hC g0 h1
  have cg := CG_plan hPH.1.2 hC hQ g0 h1
  have ch := CH_plan hPH.1 hPH.2 hC g0 h1
  have hph : CPH B R S := ⟨⟨cp, cg⟩, ch⟩
  clear cp cg ch g0 h1
  have zz : ∀ k, 49 ≤ k → k < 73 → A k = I k := fun k h1 _ => h0.1 k (by omega)
  have zj : ∀ k, 49 ≤ k → k < 73 → JA k = J k := fun k h1 _ => h0.2.1 k (by omega)
  have z49 := zz 49 (by decide) (by decide)
  have z50 := zz 50 (by decide) (by decide)
  have z51 := zz 51 (by decide) (by decide)
  have z52 := zz 52 (by decide) (by decide)
  have z53 := zz 53 (by decide) (by decide)
  have z61 := zz 61 (by decide) (by decide)
  have z72 := zz 72 (by decide) (by decide)
  have qa : QF A JA v := QF_kp hQF (congrFun z49 1) (congrFun z49 25) z51 z61 (zj 62 (by decide) (by decide)) (Int.le_refl _)
  have yc : ∀ k, k < 49 ∨ 73 ≤ k → B k = A k := Ch_kp hh.1 (by decide)
  have frB : FRk B JB := FRk_kp (a := 49) (b := 73) fr yc hh.2.1 (by decide)
  have b51 : B 51 = A 51 := (hh.1.1 51 (by decide) (by decide))
  have y51 : B 51 = I 51 := b51.trans z51
  exact ⟨hph, ⟨frB, (QF_tk qa qk.1.2.2.1 qk.2 b51 (by omega))⟩, (OK8_k hOK (fun j _ => congrFun y51 j) ((hh.1.1 52 (by decide) (by decide)).trans z52) ((hh.1.1 53 (by decide) (by decide)).trans z53) (RX_o hQ).2.2.2.2.2.2.2.2.2.2), ⟨(SA8_k hST.1 ((congrFun (yc 0 (by decide)) 16).trans (h0.2.2.2.1 0 16 (by decide) (by decide) (by decide))) ((yc 48 (by decide)).trans (Fw_row h0.2.2.2.1 48 (by decide) (by decide) (by decide))) ((hh.1.2 0 (by decide)).trans (congrFun z49 0)) ((hh.1.1 50 (by decide) (by decide)).trans z50)), (TL8_k hST.2 ((congrFun (yc 1 (by decide)) 8).trans (h0.2.2.2.1 1 8 (by decide) (by decide) (by decide))) ((congrFun (yc 1 (by decide)) 10).trans (h0.2.2.2.1 1 10 (by decide) (by decide) (by decide))) ((yc 5 (by decide)).trans (Fw_row h0.2.2.2.1 5 (by decide) (by decide) (by decide))) (fun j _ => congrFun y51 j))⟩, (IM8_k hIM hC rfl ((hh.1.1 52 (by decide) (by decide)).trans z52) (fun k h1 _ => (yc k (Or.inr h1)).trans (h0.1 k (by omega)))), (DR8_k hDR ((congrFun (yc 0 (by decide)) 13).trans (h0.2.2.2.1 0 13 (by decide) (by decide) (by decide))) ((congrFun (yc 0 (by decide)) 14).trans (h0.2.2.2.1 0 14 (by decide) (by decide) (by decide))) ((yc 47 (by decide)).trans (Fw_row h0.2.2.2.1 47 (by decide) (by decide) (by decide))) ((hh.1.2 39 (by decide)).trans (congrFun z49 39)) ((hh.1.2 40 (by decide)).trans (congrFun z49 40)) ((hh.1.1 72 (by decide) (by decide)).trans z72))⟩
set_option maxHeartbeats 1000000 in
theorem CI8_drawn {I A B J JA JB : aI1} {R : aR1} {S : aS1} {a x y v : Int} (hP : CPI I J R S v) (hC : CI I R S) (hQ : RX I) (h0 : (Kp 0 49 I A ∧ Kp 0 49 J JA ∧ CX A ∧ Fw [] [] I A ∧ x = if a = -1 then I 0 14 else if 0 ≤ a ∧ a < I 0 13 then I 47 a.toNat else -1) ∧ FRk A JA) (hh : A = B ∧ JA = JB ∧ y = if A 49 39 = -1 then -1 else if a = -1 then A 49 40 else if 0 ≤ a ∧ a < A 49 39 then A 72 a.toNat else -1) : CPI B JB R S (v + 1) := by
  obtain ⟨hPH, ⟨-, hQF⟩, hOK, hST, hIM, hDR⟩ := id hP
  obtain ⟨h0, fr⟩ := h0
  obtain ⟨rfl, rfl, hh⟩ := hh
  have g0 : Kp 0 49 I A ∧ Kp 0 49 J JA ∧ CX A ∧ Fw [] [] I A ∧ True := ⟨h0.1, h0.2.1, h0.2.2.1, h0.2.2.2.1, trivial⟩
  have h1 : A = A ∧ JA = JA ∧ True := ⟨rfl, rfl, trivial⟩
  have cp := CF_drawn hPH.1.1 hC g0 h1
  have cg := CG_drawn hPH.1.2 hC hQ g0 h1
  have ch := CH_drawn hPH.1 hPH.2 hC g0 h1
  have hph : CPH A R S := ⟨⟨cp, cg⟩, ch⟩
  clear cp cg ch g0 h1
  have zz : ∀ k, 49 ≤ k → k < 73 → A k = I k := fun k h1 _ => h0.1 k (by omega)
  have zj : ∀ k, 49 ≤ k → k < 73 → JA k = J k := fun k h1 _ => h0.2.1 k (by omega)
  have z49 := zz 49 (by decide) (by decide)
  have z50 := zz 50 (by decide) (by decide)
  have z51 := zz 51 (by decide) (by decide)
  have z52 := zz 52 (by decide) (by decide)
  have z53 := zz 53 (by decide) (by decide)
  have z61 := zz 61 (by decide) (by decide)
  have z72 := zz 72 (by decide) (by decide)
  have qa : QF A JA v := QF_kp hQF (congrFun z49 1) (congrFun z49 25) z51 z61 (zj 62 (by decide) (by decide)) (Int.le_refl _)
  exact ⟨hph, ⟨fr, (QF_mn qa (by omega))⟩, (OK8_k hOK (fun j _ => congrFun z51 j) z52 z53 (RX_o hQ).2.2.2.2.2.2.2.2.2.2), ⟨(SA8_k hST.1 (h0.2.2.2.1 0 16 (by decide) (by decide) (by decide)) (Fw_row h0.2.2.2.1 48 (by decide) (by decide) (by decide)) (congrFun z49 0) z50), (TL8_k hST.2 (h0.2.2.2.1 1 8 (by decide) (by decide) (by decide)) (h0.2.2.2.1 1 10 (by decide) (by decide) (by decide)) (Fw_row h0.2.2.2.1 5 (by decide) (by decide) (by decide)) (fun j _ => congrFun z51 j))⟩, (IM8_k hIM hC rfl z52 (fun k h1 _ => h0.1 k (by omega))), (DR8_k hDR (h0.2.2.2.1 0 13 (by decide) (by decide) (by decide)) (h0.2.2.2.1 0 14 (by decide) (by decide) (by decide)) (Fw_row h0.2.2.2.1 47 (by decide) (by decide) (by decide)) (congrFun z49 39) (congrFun z49 40) z72)⟩
set_option maxHeartbeats 1000000 in
theorem CI8_count {I A B J JA JB : aI1} {R : aR1} {S : aS1} {a x y v : Int} (hP : CPI I J R S v) (hC : CI I R S) (hQ : RX I) (h0 : (Kp 0 49 I A ∧ Kp 0 49 J JA ∧ CX A ∧ Fw [] [] I A ∧ x = CNc I (cnR (I 3) (FU (I 1 5) + 1).toNat) a) ∧ FRk A JA) (hh : A = B ∧ JA = JB ∧ y = CNr A (cnR (A 51) (FU (A 51 304) + 1).toNat) a) : CPI B JB R S (v + 1) := by
  obtain ⟨hPH, ⟨-, hQF⟩, hOK, hST, hIM, hDR⟩ := id hP
  obtain ⟨h0, fr⟩ := h0
  obtain ⟨rfl, rfl, hh⟩ := hh
  have g0 : Kp 0 49 I A ∧ Kp 0 49 J JA ∧ CX A ∧ Fw [] [] I A ∧ True := ⟨h0.1, h0.2.1, h0.2.2.1, h0.2.2.2.1, trivial⟩
  have h1 : A = A ∧ JA = JA ∧ True := ⟨rfl, rfl, trivial⟩
  have cp := CF_count hPH.1.1 hC g0 h1
  have cg := CG_count hPH.1.2 hC hQ g0 h1
  have ch := CH_count hPH.1 hPH.2 hC g0 h1
  have hph : CPH A R S := ⟨⟨cp, cg⟩, ch⟩
  clear cp cg ch g0 h1
  have zz : ∀ k, 49 ≤ k → k < 73 → A k = I k := fun k h1 _ => h0.1 k (by omega)
  have zj : ∀ k, 49 ≤ k → k < 73 → JA k = J k := fun k h1 _ => h0.2.1 k (by omega)
  have z49 := zz 49 (by decide) (by decide)
  have z50 := zz 50 (by decide) (by decide)
  have z51 := zz 51 (by decide) (by decide)
  have z52 := zz 52 (by decide) (by decide)
  have z53 := zz 53 (by decide) (by decide)
  have z61 := zz 61 (by decide) (by decide)
  have z72 := zz 72 (by decide) (by decide)
  have qa : QF A JA v := QF_kp hQF (congrFun z49 1) (congrFun z49 25) z51 z61 (zj 62 (by decide) (by decide)) (Int.le_refl _)
  exact ⟨hph, ⟨fr, (QF_mn qa (by omega))⟩, (OK8_k hOK (fun j _ => congrFun z51 j) z52 z53 (RX_o hQ).2.2.2.2.2.2.2.2.2.2), ⟨(SA8_k hST.1 (h0.2.2.2.1 0 16 (by decide) (by decide) (by decide)) (Fw_row h0.2.2.2.1 48 (by decide) (by decide) (by decide)) (congrFun z49 0) z50), (TL8_k hST.2 (h0.2.2.2.1 1 8 (by decide) (by decide) (by decide)) (h0.2.2.2.1 1 10 (by decide) (by decide) (by decide)) (Fw_row h0.2.2.2.1 5 (by decide) (by decide) (by decide)) (fun j _ => congrFun z51 j))⟩, (IM8_k hIM hC rfl z52 (fun k h1 _ => h0.1 k (by omega))), (DR8_k hDR (h0.2.2.2.1 0 13 (by decide) (by decide) (by decide)) (h0.2.2.2.1 0 14 (by decide) (by decide) (by decide)) (Fw_row h0.2.2.2.1 47 (by decide) (by decide) (by decide)) (congrFun z49 39) (congrFun z49 40) z72)⟩
set_option maxHeartbeats 1000000 in
theorem CI8_status {I A B J JA JB : aI1} {R : aR1} {S : aS1} {x y v : Int} (hP : CPI I J R S v) (hC : CI I R S) (hQ : RX I) (h0 : (Kp 0 49 I A ∧ Kp 0 49 J JA ∧ CX A ∧ Fw [] [] I A ∧ x = I 0 16) ∧ FRk A JA) (hh : A = B ∧ JA = JB ∧ y = A 49 0) : CPI B JB R S (v + 1) := by
  obtain ⟨hPH, ⟨-, hQF⟩, hOK, hST, hIM, hDR⟩ := id hP
  obtain ⟨h0, fr⟩ := h0
  obtain ⟨rfl, rfl, hh⟩ := hh
  have g0 : Kp 0 49 I A ∧ Kp 0 49 J JA ∧ CX A ∧ Fw [] [] I A ∧ True := ⟨h0.1, h0.2.1, h0.2.2.1, h0.2.2.2.1, trivial⟩
  have h1 : A = A ∧ JA = JA ∧ True := ⟨rfl, rfl, trivial⟩
  have cp := CF_status hPH.1.1 hC g0 h1
  have cg := CG_status hPH.1.2 hC hQ g0 h1
  have ch := CH_status hPH.1 hPH.2 hC g0 h1
  have hph : CPH A R S := ⟨⟨cp, cg⟩, ch⟩
  clear cp cg ch g0 h1
  have zz : ∀ k, 49 ≤ k → k < 73 → A k = I k := fun k h1 _ => h0.1 k (by omega)
  have zj : ∀ k, 49 ≤ k → k < 73 → JA k = J k := fun k h1 _ => h0.2.1 k (by omega)
  have z49 := zz 49 (by decide) (by decide)
  have z50 := zz 50 (by decide) (by decide)
  have z51 := zz 51 (by decide) (by decide)
  have z52 := zz 52 (by decide) (by decide)
  have z53 := zz 53 (by decide) (by decide)
  have z61 := zz 61 (by decide) (by decide)
  have z72 := zz 72 (by decide) (by decide)
  have qa : QF A JA v := QF_kp hQF (congrFun z49 1) (congrFun z49 25) z51 z61 (zj 62 (by decide) (by decide)) (Int.le_refl _)
  exact ⟨hph, ⟨fr, (QF_mn qa (by omega))⟩, (OK8_k hOK (fun j _ => congrFun z51 j) z52 z53 (RX_o hQ).2.2.2.2.2.2.2.2.2.2), ⟨(SA8_k hST.1 (h0.2.2.2.1 0 16 (by decide) (by decide) (by decide)) (Fw_row h0.2.2.2.1 48 (by decide) (by decide) (by decide)) (congrFun z49 0) z50), (TL8_k hST.2 (h0.2.2.2.1 1 8 (by decide) (by decide) (by decide)) (h0.2.2.2.1 1 10 (by decide) (by decide) (by decide)) (Fw_row h0.2.2.2.1 5 (by decide) (by decide) (by decide)) (fun j _ => congrFun z51 j))⟩, (IM8_k hIM hC rfl z52 (fun k h1 _ => h0.1 k (by omega))), (DR8_k hDR (h0.2.2.2.1 0 13 (by decide) (by decide) (by decide)) (h0.2.2.2.1 0 14 (by decide) (by decide) (by decide)) (Fw_row h0.2.2.2.1 47 (by decide) (by decide) (by decide)) (congrFun z49 39) (congrFun z49 40) z72)⟩
set_option maxHeartbeats 1000000 in
theorem CI8_unwant {I A B J JA JB : aI1} {R : aR1} {S : aS1} {x y v : Int} (hP : CPI I J R S v) (hC : CI I R S) (hQ : RX I) (h0 : (Kp 0 49 I A ∧ Kp 0 49 J JA ∧ CX A ∧ Fw [33] [(1, 11)] I A ∧ x = I 1 11 ∧ A 1 11 = 0) ∧ FRk A JA) (hh : (Ch [51] [1] A B ∧ Kp 49 73 JA JB ∧ RX B ∧ y = A 51 309 ∧ B 51 = up1 (A 51) 309 0) ∧ VQ9 A B) : CPI B JB R S (v + 1) := by
  obtain ⟨hPH, ⟨-, hQF⟩, hOK, hST, hIM, hDR⟩ := id hP
  obtain ⟨h0, fr⟩ := h0
  obtain ⟨hh, qk⟩ := hh
  have g0 : Kp 0 49 I A ∧ Kp 0 49 J JA ∧ CX A ∧ Fw [33] [(1, 11)] I A ∧ x = I 1 11 ∧ A 1 11 = 0 := h0
  have h1 : Ch [51] [1] A B ∧ Kp 49 73 JA JB ∧ RX B ∧ y = A 51 309 ∧ B 51 = up1 (A 51) 309 0 := hh
  have cp := CF_unwant hPH.1.1 hC g0 h1
  have cg := CG_unwant hPH.1.2 hC hQ g0 h1
  have ch := CH_unwant hPH.1 hPH.2 hC g0 h1
  have hph : CPH B R S := ⟨⟨cp.1, cg⟩, ch⟩
  clear cp cg ch g0 h1
  have zz : ∀ k, 49 ≤ k → k < 73 → A k = I k := fun k h1 _ => h0.1 k (by omega)
  have zj : ∀ k, 49 ≤ k → k < 73 → JA k = J k := fun k h1 _ => h0.2.1 k (by omega)
  have z49 := zz 49 (by decide) (by decide)
  have z50 := zz 50 (by decide) (by decide)
  have z51 := zz 51 (by decide) (by decide)
  have z52 := zz 52 (by decide) (by decide)
  have z53 := zz 53 (by decide) (by decide)
  have z61 := zz 61 (by decide) (by decide)
  have z72 := zz 72 (by decide) (by decide)
  have qa : QF A JA v := QF_kp hQF (congrFun z49 1) (congrFun z49 25) z51 z61 (zj 62 (by decide) (by decide)) (Int.le_refl _)
  have yc : ∀ k, k < 49 ∨ 73 ≤ k → B k = A k := Ch_kp hh.1 (by decide)
  have frB : FRk B JB := FRk_kp (a := 49) (b := 73) fr yc hh.2.1 (by decide)
  have b51 : ∀ j, j ≠ 309 → B 51 j = I 51 j := fun j hj => by rw [hh.2.2.2.2, up1_n _ _ hj, z51]
  exact ⟨hph, ⟨frB, (QF_tu qa qk.2.2.1 qk.2.2.2 (Int.le_refl _))⟩, (OK8_k hOK (fun j hj => b51 j (by omega)) ((hh.1.1 52 (by decide) (by decide)).trans z52) ((hh.1.1 53 (by decide) (by decide)).trans z53) (RX_o hQ).2.2.2.2.2.2.2.2.2.2), ⟨(SA8_k hST.1 ((congrFun (yc 0 (by decide)) 16).trans (h0.2.2.2.1 0 16 (by decide) (by decide) (by decide))) ((yc 48 (by decide)).trans (Fw_row h0.2.2.2.1 48 (by decide) (by decide) (by decide))) (qk.2.1.trans (congrFun z49 0)) (qk.1.trans z50)), (TL8_k hST.2 ((congrFun (yc 1 (by decide)) 8).trans (h0.2.2.2.1 1 8 (by decide) (by decide) (by decide))) ((congrFun (yc 1 (by decide)) 10).trans (h0.2.2.2.1 1 10 (by decide) (by decide) (by decide))) ((yc 5 (by decide)).trans (Fw_row h0.2.2.2.1 5 (by decide) (by decide) (by decide))) (fun j hj => b51 j (by omega)))⟩, (IM8_k hIM hC rfl ((hh.1.1 52 (by decide) (by decide)).trans z52) (fun k h1 _ => (yc k (Or.inr h1)).trans (h0.1 k (by omega)))), (DR8_k hDR ((congrFun (yc 0 (by decide)) 13).trans (h0.2.2.2.1 0 13 (by decide) (by decide) (by decide))) ((congrFun (yc 0 (by decide)) 14).trans (h0.2.2.2.1 0 14 (by decide) (by decide) (by decide))) ((yc 47 (by decide)).trans (Fw_row h0.2.2.2.1 47 (by decide) (by decide) (by decide))) ((hh.1.2 39 (by decide)).trans (congrFun z49 39)) ((hh.1.2 40 (by decide)).trans (congrFun z49 40)) ((hh.1.1 72 (by decide) (by decide)).trans z72))⟩
set_option maxHeartbeats 1000000 in
theorem CI8_dawn {I A B J JA JB : aI1} {R : aR1} {S : aS1} {x y v : Int} (hP : CPI I J R S v) (hC : CI I R S) (hQ : RX I) (h0 : (Kp 0 49 I A ∧ Kp 0 49 J JA ∧ CX A ∧ Fw [] [(1, 8), (1, 10)] I A ∧ x = bc (I 1 8) ∧ A 1 8 = 0 ∧ A 1 10 = 0) ∧ FRk A JA) (hh : Ch [51] [1] A B ∧ Kp 49 73 JA JB ∧ RX B ∧ y = pcn (A 51 307).toNat ∧ B 51 = up1 (up1 (A 51) 307 0) 308 0 ∧ B 49 1 = A 49 1 + 1 ∧ JB = JA) : CPI B JB R S (v + 1) := by
  obtain ⟨hPH, ⟨-, hQF⟩, hOK, hST, hIM, hDR⟩ := id hP
  obtain ⟨h0, fr⟩ := h0
  have g0 : Kp 0 49 I A ∧ Kp 0 49 J JA ∧ CX A ∧ Fw [] [(1, 8), (1, 10)] I A ∧ x = bc (I 1 8) ∧ A 1 8 = 0 ∧ A 1 10 = 0 := h0
  have h1 : Ch [51] [1] A B ∧ Kp 49 73 JA JB ∧ RX B ∧ B 51 = up1 (up1 (A 51) 307 0) 308 0 := ⟨hh.1, hh.2.1, hh.2.2.1, hh.2.2.2.2.1⟩
  have cp := CF_dawn hPH.1.1 hC g0 h1
  have cg := CG_dawn hPH.1.2 hC hQ g0 h1
  have ch := CH_dawn hPH.1 hPH.2 hC g0 h1
  have hph : CPH B R S := ⟨⟨cp, cg⟩, ch⟩
  clear cp cg ch g0 h1
  have zz : ∀ k, 49 ≤ k → k < 73 → A k = I k := fun k h1 _ => h0.1 k (by omega)
  have zj : ∀ k, 49 ≤ k → k < 73 → JA k = J k := fun k h1 _ => h0.2.1 k (by omega)
  have z49 := zz 49 (by decide) (by decide)
  have z50 := zz 50 (by decide) (by decide)
  have z51 := zz 51 (by decide) (by decide)
  have z52 := zz 52 (by decide) (by decide)
  have z53 := zz 53 (by decide) (by decide)
  have z61 := zz 61 (by decide) (by decide)
  have z72 := zz 72 (by decide) (by decide)
  have qa : QF A JA v := QF_kp hQF (congrFun z49 1) (congrFun z49 25) z51 z61 (zj 62 (by decide) (by decide)) (Int.le_refl _)
  have yc : ∀ k, k < 49 ∨ 73 ≤ k → B k = A k := Ch_kp hh.1 (by decide)
  have frB : FRk B JB := FRk_kp (a := 49) (b := 73) fr yc hh.2.1 (by decide)
  obtain ⟨x1, x2, x3⟩ := h0.2.2.2.2
  have b51 := hh.2.2.2.2.1
  have b7 : B 51 307 = 0 := by rw [b51, up1_n _ _ (by decide), up1_s]
  have b8 : B 51 308 = 0 := by rw [b51, up1_s]
  have bo : ∀ j, j ≠ 307 → j ≠ 308 → B 51 j = I 51 j := fun j h7 h8 => by rw [b51, up1_n _ _ h8, up1_n _ _ h7, z51]
  have hfu := (RX_o hQ).2.2.2.2.2.2.2.2.2
  have ok : OKr (B 51) := OKr_k hOK.1 (fun j hj => bo j (by omega) (by omega)) (by rw [b7, bo 304 (by decide) (by decide)]; omega) (by rw [bo 304 (by decide) (by decide)]; omega)
  exact ⟨hph, ⟨frB, (QF_tu qa hh.2.2.2.2.2.1 (Or.inr (hh.1.2 25 (by decide))) (Int.le_refl _))⟩, (OK8_n hOK ok ((hh.1.1 52 (by decide) (by decide)).trans z52) ((hh.1.1 53 (by decide) (by decide)).trans z53)), ⟨(SA8_k hST.1 ((congrFun (yc 0 (by decide)) 16).trans (h0.2.2.2.1 0 16 (by decide) (by decide) (by decide))) ((yc 48 (by decide)).trans (Fw_row h0.2.2.2.1 48 (by decide) (by decide) (by decide))) ((hh.1.2 0 (by decide)).trans (congrFun z49 0)) ((hh.1.1 50 (by decide) (by decide)).trans z50)), (TL8_0 ((congrFun (yc 1 (by decide)) 8).trans x2) ((congrFun (yc 1 (by decide)) 10).trans x3) b7 b8)⟩, (IM8_k hIM hC rfl ((hh.1.1 52 (by decide) (by decide)).trans z52) (fun k h1 _ => (yc k (Or.inr h1)).trans (h0.1 k (by omega)))), (DR8_k hDR ((congrFun (yc 0 (by decide)) 13).trans (h0.2.2.2.1 0 13 (by decide) (by decide) (by decide))) ((congrFun (yc 0 (by decide)) 14).trans (h0.2.2.2.1 0 14 (by decide) (by decide) (by decide))) ((yc 47 (by decide)).trans (Fw_row h0.2.2.2.1 47 (by decide) (by decide) (by decide))) ((hh.1.2 39 (by decide)).trans (congrFun z49 39)) ((hh.1.2 40 (by decide)).trans (congrFun z49 40)) ((hh.1.1 72 (by decide) (by decide)).trans z72))⟩
set_option maxHeartbeats 1000000 in
theorem CI8_lamps {I A B J JA JB : aI1} {R : aR1} {S : aS1} {a x y v : Int} (hP : CPI I J R S v) (hC : CI I R S) (hQ : RX I) (h0 : (Kp 0 49 I A ∧ Kp 0 49 J JA ∧ CX A ∧ Fw [2, 3, 18, 19, 20, 21, 22, 23, 24, 25, 26, 27, 28, 29, 30, 33, 48] [(0, 16), (1, 5), (1, 7), (1, 8), (1, 10), (1, 11)] I A ∧ (¬ (1 ≤ a ∧ a ≤ 8) → x = -1 ∧ RFc I A (-1)) ∧ ((1 ≤ a ∧ a ≤ 8) → x = I 1 5 ∧ Fw [2, 3, 18, 19, 20, 21, 22, 23, 24, 25, 26, 27, 28, 29, 30, 33] [(0, 16), (1, 5), (1, 7), (1, 8), (1, 10), (1, 11)] I A ∧ A 1 5 = a ∧ A 1 7 = 0 ∧ (∀ j, j < 8 → A 2 j = 1) ∧ A 0 16 = 0 ∧ A 1 8 = 0 ∧ A 1 10 = 0 ∧ A 1 11 = 0 ∧ (∀ s, s < 256 → A 3 s = -1))) ∧ FRk A JA) (hh : (Ch [50, 51] [0, 1] A B ∧ Kp 49 73 JA JB ∧ RX B ∧ (¬ (1 ≤ a ∧ a ≤ 8) → y = -1 ∧ B 51 = A 51) ∧ ((1 ≤ a ∧ a ≤ 8) → y = A 51 304 ∧ B 51 304 = a ∧ B 51 306 = 0 ∧ B 51 307 = 0 ∧ B 51 308 = 0 ∧ B 51 309 = 0 ∧ (∀ j, j < 8 → B 51 (256 + j) = 1) ∧ (∀ s, s < 256 → B 51 s = -1) ∧ (∀ j : Nat, 264 ≤ j → j ≠ 304 → j ≠ 306 → j ≠ 307 → j ≠ 308 → j ≠ 309 → B 51 j = A 51 j))) ∧ RGQ9 y A B JA JB) : CPI B JB R S (v + 1) := by
  obtain ⟨hPH, ⟨-, hQF⟩, hOK, hST, hIM, hDR⟩ := id hP
  obtain ⟨h0, fr⟩ := h0
  obtain ⟨hh, qk⟩ := hh
  have g0 : Kp 0 49 I A ∧ Kp 0 49 J JA ∧ CX A ∧ Fw [2, 3, 18, 19, 20, 21, 22, 23, 24, 25, 26, 27, 28, 29, 30, 31, 32, 33, 34, 35, 36, 48] [(0, 16), (1, 5), (1, 7), (1, 8), (1, 10), (1, 11)] I A ∧ (¬ (1 ≤ a ∧ a ≤ 8) → x = -1 ∧ RFc I A (-1)) ∧ ((1 ≤ a ∧ a ≤ 8) → x = I 1 5 ∧ Fw [2, 3, 18, 19, 20, 21, 22, 23, 24, 25, 26, 27, 28, 29, 30, 31, 32, 33, 34, 35, 36] [(0, 16), (1, 5), (1, 7), (1, 8), (1, 10), (1, 11)] I A ∧ A 1 5 = a ∧ A 1 7 = 0 ∧ (∀ j, j < 8 → A 2 j = 1) ∧ A 0 16 = 0 ∧ A 1 8 = 0 ∧ A 1 10 = 0 ∧ A 1 11 = 0 ∧ (∀ s, s < 256 → A 3 s = -1)) := ⟨h0.1, h0.2.1, h0.2.2.1, (Fw_wd h0.2.2.2.1 (by decide) (by decide)), h0.2.2.2.2.1, (fun hq_ => ⟨(h0.2.2.2.2.2 hq_).1, (Fw_wd (h0.2.2.2.2.2 hq_).2.1 (by decide) (by decide)), (h0.2.2.2.2.2 hq_).2.2.1, (h0.2.2.2.2.2 hq_).2.2.2.1, (h0.2.2.2.2.2 hq_).2.2.2.2.1, (h0.2.2.2.2.2 hq_).2.2.2.2.2.1, (h0.2.2.2.2.2 hq_).2.2.2.2.2.2.1, (h0.2.2.2.2.2 hq_).2.2.2.2.2.2.2.1, (h0.2.2.2.2.2 hq_).2.2.2.2.2.2.2.2.1, (h0.2.2.2.2.2 hq_).2.2.2.2.2.2.2.2.2⟩)⟩
  have h1 : Ch [50, 51] [0, 1] A B ∧ Kp 49 73 JA JB ∧ RX B ∧ (¬ (1 ≤ a ∧ a ≤ 8) → y = -1 ∧ B 51 = A 51) ∧ ((1 ≤ a ∧ a ≤ 8) → y = A 51 304 ∧ B 51 304 = a ∧ B 51 306 = 0 ∧ B 51 307 = 0 ∧ B 51 308 = 0 ∧ B 51 309 = 0 ∧ (∀ j, j < 8 → B 51 (256 + j) = 1) ∧ (∀ s, s < 256 → B 51 s = -1) ∧ (∀ j : Nat, 264 ≤ j → j ≠ 304 → j ≠ 306 → j ≠ 307 → j ≠ 308 → j ≠ 309 → B 51 j = A 51 j)) := hh
  have cp := CF_lamps hPH.1.1 hC g0 h1
  have cg := CG_lamps hPH.1.2 hC hQ g0 h1
  have ch := CH_lamps hPH.1 hPH.2 hC g0 h1
  have hph : CPH B R S := ⟨⟨cp.1, cg⟩, ch⟩
  clear cp cg ch g0 h1
  have zz : ∀ k, 49 ≤ k → k < 73 → A k = I k := fun k h1 _ => h0.1 k (by omega)
  have zj : ∀ k, 49 ≤ k → k < 73 → JA k = J k := fun k h1 _ => h0.2.1 k (by omega)
  have z49 := zz 49 (by decide) (by decide)
  have z50 := zz 50 (by decide) (by decide)
  have z51 := zz 51 (by decide) (by decide)
  have z52 := zz 52 (by decide) (by decide)
  have z53 := zz 53 (by decide) (by decide)
  have z61 := zz 61 (by decide) (by decide)
  have z72 := zz 72 (by decide) (by decide)
  have qa : QF A JA v := QF_kp hQF (congrFun z49 1) (congrFun z49 25) z51 z61 (zj 62 (by decide) (by decide)) (Int.le_refl _)
  have yc : ∀ k, k < 49 ∨ 73 ≤ k → B k = A k := Ch_kp hh.1 (by decide)
  have frB : FRk B JB := FRk_kp (a := 49) (b := 73) fr yc hh.2.1 (by decide)
  obtain ⟨⟨⟨q8, q15, q12, q5, q6, q7, q11⟩, tb, -⟩, ⟨⟨q9, q0⟩, -⟩⟩ := id hPH.1
  have x5 := XI_o hC.2.1.1
  have hfu := (RX_o hQ).2.2.2.2.2.2.2.2.2
  have ef : FU (A 51 304) = FU (I 1 5) := by rw [z51, ← q5]
  have e304 : A 51 304 = I 1 5 := by rw [z51, ← q5]
  have e305 : A 51 305 = I 1 6 := by rw [z51, ← q6]
  have e309 : A 51 309 = I 1 11 := by rw [z51, ← q11]
  have e310 : A 51 310 = I 1 9 := by rw [z51, ← q9]
  have e10 : A 49 10 = I 8 1 := (congrFun z49 10).trans q8.symm
  by_cases hv : 1 ≤ a ∧ a ≤ 8
  · have g := h0.2.2.2.2.2 hv
    have d := hh.2.2.2.2 hv
    obtain ⟨g1, gw, -, -, -, g16, g8, g10, -, -⟩ := g
    obtain ⟨d1, d304, -, d307, d308, -, do_, dc, dr⟩ := d
    have hfa := FU_r hv.1 hv.2
    have q := qk.2 (by omega)
    have ok : OKr (B 51) := ⟨fun l hl => by rw [do_ l hl]; decide, fun s hs => by rw [d304] at hs; rw [dc s (by omega), dr 305 (by decide) (by decide) (by decide) (by decide) (by decide) (by decide)]; omega, by rw [d307, d304]; omega⟩
    exact ⟨hph, ⟨frB, (QF_tu qa q.2.2.1 q.2.2.2 (Int.le_refl _))⟩, (OK8_n hOK ok ((hh.1.1 52 (by decide) (by decide)).trans z52) ((hh.1.1 53 (by decide) (by decide)).trans z53)), ⟨(SA8_a hST.1 g16 (Fw_row gw 48 (by decide) (by decide) (by decide)) q yc z50), (TL8_0 ((congrFun (yc 1 (by decide)) 8).trans g8) ((congrFun (yc 1 (by decide)) 10).trans g10) d307 d308)⟩, (IM8_k hIM hC rfl ((hh.1.1 52 (by decide) (by decide)).trans z52) (fun k h1 _ => (yc k (Or.inr h1)).trans (h0.1 k (by omega)))), (DR8_k hDR ((congrFun (yc 0 (by decide)) 13).trans (h0.2.2.2.1 0 13 (by decide) (by decide) (by decide))) ((congrFun (yc 0 (by decide)) 14).trans (h0.2.2.2.1 0 14 (by decide) (by decide) (by decide))) ((yc 47 (by decide)).trans (Fw_row h0.2.2.2.1 47 (by decide) (by decide) (by decide))) ((hh.1.2 39 (by decide)).trans (congrFun z49 39)) ((hh.1.2 40 (by decide)).trans (congrFun z49 40)) ((hh.1.1 72 (by decide) (by decide)).trans z72))⟩
  · have g := h0.2.2.2.2.1 hv
    have d := hh.2.2.2.1 hv
    have b51 := d.2
    have rf := g.2
    have q := qk.1 (by have := d.1; omega)
    exact ⟨hph, ⟨frB, (QF_tk qa q.2.2.1 q.2.2.2 b51 (by omega))⟩, (OK8_k hOK (fun j _ => congrFun (b51.trans z51) j) ((hh.1.1 52 (by decide) (by decide)).trans z52) ((hh.1.1 53 (by decide) (by decide)).trans z53) (RX_o hQ).2.2.2.2.2.2.2.2.2.2), ⟨(SA8_r hST.1 rf.2.1 rf.2.2 q d.1 yc z50), (TL8_k hST.2 ((congrFun (yc 1 (by decide)) 8).trans (rf.1 1 8 (by decide) (by decide) (by decide))) ((congrFun (yc 1 (by decide)) 10).trans (rf.1 1 10 (by decide) (by decide) (by decide))) ((yc 5 (by decide)).trans (Fw_row rf.1 5 (by decide) (by decide) (by decide))) (fun j _ => congrFun (b51.trans z51) j))⟩, (IM8_k hIM hC rfl ((hh.1.1 52 (by decide) (by decide)).trans z52) (fun k h1 _ => (yc k (Or.inr h1)).trans (h0.1 k (by omega)))), (DR8_k hDR ((congrFun (yc 0 (by decide)) 13).trans (h0.2.2.2.1 0 13 (by decide) (by decide) (by decide))) ((congrFun (yc 0 (by decide)) 14).trans (h0.2.2.2.1 0 14 (by decide) (by decide) (by decide))) ((yc 47 (by decide)).trans (Fw_row h0.2.2.2.1 47 (by decide) (by decide) (by decide))) ((hh.1.2 39 (by decide)).trans (congrFun z49 39)) ((hh.1.2 40 (by decide)).trans (congrFun z49 40)) ((hh.1.1 72 (by decide) (by decide)).trans z72))⟩
set_option maxHeartbeats 1000000 in
theorem CI8_news {I A B J JA JB : aI1} {R : aR1} {S : aS1} {a x y v : Int} (hP : CPI I J R S v) (hC : CI I R S) (hQ : RX I) (h0 : (Kp 0 49 I A ∧ Kp 0 49 J JA ∧ CX A ∧ Fw [3, 18, 19, 20, 21, 22, 23, 24, 25, 26, 27, 28, 29, 30, 33, 48] [(0, 16), (1, 6), (1, 8), (1, 10), (1, 11)] I A ∧ (¬ (2 ≤ a ∧ a ≤ 8) → x = -1 ∧ RFc I A (-1)) ∧ ((2 ≤ a ∧ a ≤ 8) → x = I 1 6 ∧ Fw [3, 18, 19, 20, 21, 22, 23, 24, 25, 26, 27, 28, 29, 30, 33] [(0, 16), (1, 6), (1, 8), (1, 10), (1, 11)] I A ∧ A 1 6 = a ∧ A 0 16 = 0 ∧ A 1 8 = 0 ∧ A 1 10 = 0 ∧ A 1 11 = 0 ∧ (∀ s, s < 256 → A 3 s = -1))) ∧ FRk A JA) (hh : (Ch [50, 51] [0, 1] A B ∧ Kp 49 73 JA JB ∧ RX B ∧ (¬ (2 ≤ a ∧ a ≤ 8) → y = -1 ∧ B 51 = A 51) ∧ ((2 ≤ a ∧ a ≤ 8) → y = A 51 305 ∧ B 51 = EMr (up1 (A 51) 305 a))) ∧ RGQ9 y A B JA JB) : CPI B JB R S (v + 1) := by
  obtain ⟨hPH, ⟨-, hQF⟩, hOK, hST, hIM, hDR⟩ := id hP
  obtain ⟨h0, fr⟩ := h0
  obtain ⟨hh, qk⟩ := hh
  have g0 : Kp 0 49 I A ∧ Kp 0 49 J JA ∧ CX A ∧ Fw [3, 18, 19, 20, 21, 22, 23, 24, 25, 26, 27, 28, 29, 30, 31, 32, 33, 34, 35, 36, 48] [(0, 16), (1, 6), (1, 8), (1, 10), (1, 11)] I A ∧ (¬ (2 ≤ a ∧ a ≤ 8) → x = -1 ∧ RFc I A (-1)) ∧ ((2 ≤ a ∧ a ≤ 8) → x = I 1 6 ∧ Fw [3, 18, 19, 20, 21, 22, 23, 24, 25, 26, 27, 28, 29, 30, 31, 32, 33, 34, 35, 36] [(0, 16), (1, 6), (1, 8), (1, 10), (1, 11)] I A ∧ A 1 6 = a ∧ A 0 16 = 0 ∧ A 1 8 = 0 ∧ A 1 10 = 0 ∧ A 1 11 = 0 ∧ (∀ s, s < 256 → A 3 s = -1)) := ⟨h0.1, h0.2.1, h0.2.2.1, (Fw_wd h0.2.2.2.1 (by decide) (by decide)), h0.2.2.2.2.1, (fun hq_ => ⟨(h0.2.2.2.2.2 hq_).1, (Fw_wd (h0.2.2.2.2.2 hq_).2.1 (by decide) (by decide)), (h0.2.2.2.2.2 hq_).2.2.1, (h0.2.2.2.2.2 hq_).2.2.2.1, (h0.2.2.2.2.2 hq_).2.2.2.2.1, (h0.2.2.2.2.2 hq_).2.2.2.2.2.1, (h0.2.2.2.2.2 hq_).2.2.2.2.2.2.1, (h0.2.2.2.2.2 hq_).2.2.2.2.2.2.2⟩)⟩
  have h1 : Ch [50, 51] [0, 1] A B ∧ Kp 49 73 JA JB ∧ RX B ∧ (¬ (2 ≤ a ∧ a ≤ 8) → y = -1 ∧ B 51 = A 51) ∧ ((2 ≤ a ∧ a ≤ 8) → y = A 51 305 ∧ B 51 = EMr (up1 (A 51) 305 a)) := hh
  have cp := CF_news hPH.1.1 hC g0 h1
  have cg := CG_news hPH.1.2 hC hQ g0 h1
  have ch := CH_news hPH.1 hPH.2 hC g0 h1
  have hph : CPH B R S := ⟨⟨cp.1, cg⟩, ch⟩
  clear cp cg ch g0 h1
  have zz : ∀ k, 49 ≤ k → k < 73 → A k = I k := fun k h1 _ => h0.1 k (by omega)
  have zj : ∀ k, 49 ≤ k → k < 73 → JA k = J k := fun k h1 _ => h0.2.1 k (by omega)
  have z49 := zz 49 (by decide) (by decide)
  have z50 := zz 50 (by decide) (by decide)
  have z51 := zz 51 (by decide) (by decide)
  have z52 := zz 52 (by decide) (by decide)
  have z53 := zz 53 (by decide) (by decide)
  have z61 := zz 61 (by decide) (by decide)
  have z72 := zz 72 (by decide) (by decide)
  have qa : QF A JA v := QF_kp hQF (congrFun z49 1) (congrFun z49 25) z51 z61 (zj 62 (by decide) (by decide)) (Int.le_refl _)
  have yc : ∀ k, k < 49 ∨ 73 ≤ k → B k = A k := Ch_kp hh.1 (by decide)
  have frB : FRk B JB := FRk_kp (a := 49) (b := 73) fr yc hh.2.1 (by decide)
  obtain ⟨⟨⟨q8, q15, q12, q5, q6, q7, q11⟩, tb, -⟩, ⟨⟨q9, q0⟩, -⟩⟩ := id hPH.1
  have x5 := XI_o hC.2.1.1
  have hfu := (RX_o hQ).2.2.2.2.2.2.2.2.2
  have ef : FU (A 51 304) = FU (I 1 5) := by rw [z51, ← q5]
  have e304 : A 51 304 = I 1 5 := by rw [z51, ← q5]
  have e305 : A 51 305 = I 1 6 := by rw [z51, ← q6]
  have e309 : A 51 309 = I 1 11 := by rw [z51, ← q11]
  have e310 : A 51 310 = I 1 9 := by rw [z51, ← q9]
  have e10 : A 49 10 = I 8 1 := (congrFun z49 10).trans q8.symm
  by_cases hv : 2 ≤ a ∧ a ≤ 8
  · have g := h0.2.2.2.2.2 hv
    have d := hh.2.2.2.2 hv
    obtain ⟨g1, gw, -, g16, g8, g10, -, -⟩ := g
    obtain ⟨d1, db⟩ := d
    have q := qk.2 (by omega)
    have b4 : B 51 304 = A 51 304 := by rw [db, EMr_o (by decide) (by decide), up1_n _ _ (by decide)]
    have b5 : B 51 305 = a := by rw [db, EMr_o (by decide) (by decide), up1_s]
    have b7 : B 51 307 = 0 := by rw [db]; rfl
    have b8 : B 51 308 = 0 := by rw [db]; rfl
    have hfB := FU_r (n := B 51 304) (by omega) (by omega)
    have ok : OKr (B 51) := ⟨fun l hl => by rw [db, EMr_o (by omega) (by omega), up1_n _ _ (by omega), z51]; exact hOK.1.1 l hl, fun s hs => by
        have e9 : B 51 s = -1 := by rw [db]; exact if_pos (by omega)
        rw [e9, b5]; omega, by rw [b7, b4]; omega⟩
    exact ⟨hph, ⟨frB, (QF_tu qa q.2.2.1 q.2.2.2 (Int.le_refl _))⟩, (OK8_n hOK ok ((hh.1.1 52 (by decide) (by decide)).trans z52) ((hh.1.1 53 (by decide) (by decide)).trans z53)), ⟨(SA8_a hST.1 g16 (Fw_row gw 48 (by decide) (by decide) (by decide)) q yc z50), (TL8_0 ((congrFun (yc 1 (by decide)) 8).trans g8) ((congrFun (yc 1 (by decide)) 10).trans g10) b7 b8)⟩, (IM8_k hIM hC rfl ((hh.1.1 52 (by decide) (by decide)).trans z52) (fun k h1 _ => (yc k (Or.inr h1)).trans (h0.1 k (by omega)))), (DR8_k hDR ((congrFun (yc 0 (by decide)) 13).trans (h0.2.2.2.1 0 13 (by decide) (by decide) (by decide))) ((congrFun (yc 0 (by decide)) 14).trans (h0.2.2.2.1 0 14 (by decide) (by decide) (by decide))) ((yc 47 (by decide)).trans (Fw_row h0.2.2.2.1 47 (by decide) (by decide) (by decide))) ((hh.1.2 39 (by decide)).trans (congrFun z49 39)) ((hh.1.2 40 (by decide)).trans (congrFun z49 40)) ((hh.1.1 72 (by decide) (by decide)).trans z72))⟩
  · have g := h0.2.2.2.2.1 hv
    have d := hh.2.2.2.1 hv
    have b51 := d.2
    have rf := g.2
    have q := qk.1 (by have := d.1; omega)
    exact ⟨hph, ⟨frB, (QF_tk qa q.2.2.1 q.2.2.2 b51 (by omega))⟩, (OK8_k hOK (fun j _ => congrFun (b51.trans z51) j) ((hh.1.1 52 (by decide) (by decide)).trans z52) ((hh.1.1 53 (by decide) (by decide)).trans z53) (RX_o hQ).2.2.2.2.2.2.2.2.2.2), ⟨(SA8_r hST.1 rf.2.1 rf.2.2 q d.1 yc z50), (TL8_k hST.2 ((congrFun (yc 1 (by decide)) 8).trans (rf.1 1 8 (by decide) (by decide) (by decide))) ((congrFun (yc 1 (by decide)) 10).trans (rf.1 1 10 (by decide) (by decide) (by decide))) ((yc 5 (by decide)).trans (Fw_row rf.1 5 (by decide) (by decide) (by decide))) (fun j _ => congrFun (b51.trans z51) j))⟩, (IM8_k hIM hC rfl ((hh.1.1 52 (by decide) (by decide)).trans z52) (fun k h1 _ => (yc k (Or.inr h1)).trans (h0.1 k (by omega)))), (DR8_k hDR ((congrFun (yc 0 (by decide)) 13).trans (h0.2.2.2.1 0 13 (by decide) (by decide) (by decide))) ((congrFun (yc 0 (by decide)) 14).trans (h0.2.2.2.1 0 14 (by decide) (by decide) (by decide))) ((yc 47 (by decide)).trans (Fw_row h0.2.2.2.1 47 (by decide) (by decide) (by decide))) ((hh.1.2 39 (by decide)).trans (congrFun z49 39)) ((hh.1.2 40 (by decide)).trans (congrFun z49 40)) ((hh.1.1 72 (by decide) (by decide)).trans z72))⟩
set_option maxHeartbeats 1000000 in
theorem CI8_oil {I A B J JA JB : aI1} {R : aR1} {S : aS1} {a b x y v : Int} (hP : CPI I J R S v) (hC : CI I R S) (hQ : RX I) (h0 : (Kp 0 49 I A ∧ Kp 0 49 J JA ∧ CX A ∧ Fw [2, 18, 33, 48] [(0, 16)] I A ∧ (¬ (0 ≤ a ∧ a < I 1 5 ∧ 0 ≤ b ∧ b ≤ 99) → x = -1 ∧ RFc I A (-1)) ∧ ((0 ≤ a ∧ a < I 1 5 ∧ 0 ≤ b ∧ b ≤ 99) → x = I 2 a.toNat ∧ Fw [2, 18, 33] [(0, 16)] I A ∧ A 0 16 = 0 ∧ A 2 = up1 (I 2) a.toNat b)) ∧ FRk A JA) (hh : (Ch [50, 51] [0, 1] A B ∧ Kp 49 73 JA JB ∧ RX B ∧ (¬ (0 ≤ a ∧ a < A 51 304 ∧ 0 ≤ b ∧ b ≤ 99) → y = -1 ∧ B 51 = A 51) ∧ ((0 ≤ a ∧ a < A 51 304 ∧ 0 ≤ b ∧ b ≤ 99) → y = A 51 (256 + a.toNat) ∧ B 51 = up1 (A 51) (256 + a.toNat) b)) ∧ ((0 ≤ a ∧ a < A 51 304 ∧ 0 ≤ b ∧ b ≤ 99) → GQ9 A B) ∧ (¬ (0 ≤ a ∧ a < A 51 304 ∧ 0 ≤ b ∧ b ≤ 99) → RQ9 y A B JA JB)) : CPI B JB R S (v + 1) := by
  obtain ⟨hPH, ⟨-, hQF⟩, hOK, hST, hIM, hDR⟩ := id hP
  obtain ⟨h0, fr⟩ := h0
  obtain ⟨hh, qk⟩ := hh
  have g0 : Kp 0 49 I A ∧ Kp 0 49 J JA ∧ CX A ∧ Fw [2, 18, 33, 48] [(0, 16)] I A ∧ (¬ (0 ≤ a ∧ a < I 1 5 ∧ 0 ≤ b ∧ b ≤ 99) → x = -1 ∧ RFc I A (-1)) ∧ ((0 ≤ a ∧ a < I 1 5 ∧ 0 ≤ b ∧ b ≤ 99) → x = I 2 a.toNat ∧ Fw [2, 18, 33] [(0, 16)] I A ∧ A 0 16 = 0 ∧ A 2 = up1 (I 2) a.toNat b) := h0
  have h1 : Ch [50, 51] [0, 1] A B ∧ Kp 49 73 JA JB ∧ RX B ∧ (¬ (0 ≤ a ∧ a < A 51 304 ∧ 0 ≤ b ∧ b ≤ 99) → y = -1 ∧ B 51 = A 51) ∧ ((0 ≤ a ∧ a < A 51 304 ∧ 0 ≤ b ∧ b ≤ 99) → y = A 51 (256 + a.toNat) ∧ B 51 = up1 (A 51) (256 + a.toNat) b) := hh
  have cp := CF_oil hPH.1.1 hC g0 h1
  have cg := CG_oil hPH.1.2 hC hQ g0 h1
  have ch := CH_oil hPH.1 hPH.2 hC g0 h1
  have hph : CPH B R S := ⟨⟨cp.1, cg⟩, ch⟩
  clear cp cg ch g0 h1
  have zz : ∀ k, 49 ≤ k → k < 73 → A k = I k := fun k h1 _ => h0.1 k (by omega)
  have zj : ∀ k, 49 ≤ k → k < 73 → JA k = J k := fun k h1 _ => h0.2.1 k (by omega)
  have z49 := zz 49 (by decide) (by decide)
  have z50 := zz 50 (by decide) (by decide)
  have z51 := zz 51 (by decide) (by decide)
  have z52 := zz 52 (by decide) (by decide)
  have z53 := zz 53 (by decide) (by decide)
  have z61 := zz 61 (by decide) (by decide)
  have z72 := zz 72 (by decide) (by decide)
  have qa : QF A JA v := QF_kp hQF (congrFun z49 1) (congrFun z49 25) z51 z61 (zj 62 (by decide) (by decide)) (Int.le_refl _)
  have yc : ∀ k, k < 49 ∨ 73 ≤ k → B k = A k := Ch_kp hh.1 (by decide)
  have frB : FRk B JB := FRk_kp (a := 49) (b := 73) fr yc hh.2.1 (by decide)
  obtain ⟨⟨⟨q8, q15, q12, q5, q6, q7, q11⟩, tb, -⟩, ⟨⟨q9, q0⟩, -⟩⟩ := id hPH.1
  have x5 := XI_o hC.2.1.1
  have hfu := (RX_o hQ).2.2.2.2.2.2.2.2.2
  have ef : FU (A 51 304) = FU (I 1 5) := by rw [z51, ← q5]
  have e304 : A 51 304 = I 1 5 := by rw [z51, ← q5]
  have e305 : A 51 305 = I 1 6 := by rw [z51, ← q6]
  have e309 : A 51 309 = I 1 11 := by rw [z51, ← q11]
  have e310 : A 51 310 = I 1 9 := by rw [z51, ← q9]
  have e10 : A 49 10 = I 8 1 := (congrFun z49 10).trans q8.symm
  have hd := hh.2.2.2
  rw [e304] at hd qk
  by_cases hv : 0 ≤ a ∧ a < I 1 5 ∧ 0 ≤ b ∧ b ≤ 99
  · obtain ⟨g1, gw, g16, g2⟩ := h0.2.2.2.2.2 hv
    obtain ⟨d1, db⟩ := hd.2 hv
    have q := qk.1 hv
    have bo : ∀ j, j ≠ 256 + a.toNat → B 51 j = I 51 j := fun j hj => by rw [db, up1_n _ _ hj, z51]
    have ok : OKr (B 51) := ⟨fun l hl => by
        by_cases e9 : 256 + l = 256 + a.toNat
        · rw [db, e9, up1_s]; omega
        · rw [bo _ e9]; exact hOK.1.1 l hl, fun s hs => by
        rw [bo 304 (by omega)] at hs
        rw [bo s (by omega), bo 305 (by omega)]
        exact hOK.1.2.1 s hs, by rw [bo 307 (by omega), bo 304 (by omega)]; exact hOK.1.2.2⟩
    exact ⟨hph, ⟨frB, (QF_tu qa q.2.2.1 q.2.2.2 (Int.le_refl _))⟩, (OK8_n hOK ok ((hh.1.1 52 (by decide) (by decide)).trans z52) ((hh.1.1 53 (by decide) (by decide)).trans z53)), ⟨(SA8_a hST.1 g16 (Fw_row gw 48 (by decide) (by decide) (by decide)) q yc z50), (TL8_k hST.2 ((congrFun (yc 1 (by decide)) 8).trans (h0.2.2.2.1 1 8 (by decide) (by decide) (by decide))) ((congrFun (yc 1 (by decide)) 10).trans (h0.2.2.2.1 1 10 (by decide) (by decide) (by decide))) ((yc 5 (by decide)).trans (Fw_row h0.2.2.2.1 5 (by decide) (by decide) (by decide))) (fun j hj => bo j (by omega)))⟩, (IM8_k hIM hC rfl ((hh.1.1 52 (by decide) (by decide)).trans z52) (fun k h1 _ => (yc k (Or.inr h1)).trans (h0.1 k (by omega)))), (DR8_k hDR ((congrFun (yc 0 (by decide)) 13).trans (h0.2.2.2.1 0 13 (by decide) (by decide) (by decide))) ((congrFun (yc 0 (by decide)) 14).trans (h0.2.2.2.1 0 14 (by decide) (by decide) (by decide))) ((yc 47 (by decide)).trans (Fw_row h0.2.2.2.1 47 (by decide) (by decide) (by decide))) ((hh.1.2 39 (by decide)).trans (congrFun z49 39)) ((hh.1.2 40 (by decide)).trans (congrFun z49 40)) ((hh.1.1 72 (by decide) (by decide)).trans z72))⟩
  · have g := h0.2.2.2.2.1 hv
    have d := hd.1 hv
    have b51 := d.2
    have rf := g.2
    have q := qk.2 hv
    exact ⟨hph, ⟨frB, (QF_tk qa q.2.2.1 q.2.2.2 b51 (by omega))⟩, (OK8_k hOK (fun j _ => congrFun (b51.trans z51) j) ((hh.1.1 52 (by decide) (by decide)).trans z52) ((hh.1.1 53 (by decide) (by decide)).trans z53) (RX_o hQ).2.2.2.2.2.2.2.2.2.2), ⟨(SA8_r hST.1 rf.2.1 rf.2.2 q d.1 yc z50), (TL8_k hST.2 ((congrFun (yc 1 (by decide)) 8).trans (rf.1 1 8 (by decide) (by decide) (by decide))) ((congrFun (yc 1 (by decide)) 10).trans (rf.1 1 10 (by decide) (by decide) (by decide))) ((yc 5 (by decide)).trans (Fw_row rf.1 5 (by decide) (by decide) (by decide))) (fun j _ => congrFun (b51.trans z51) j))⟩, (IM8_k hIM hC rfl ((hh.1.1 52 (by decide) (by decide)).trans z52) (fun k h1 _ => (yc k (Or.inr h1)).trans (h0.1 k (by omega)))), (DR8_k hDR ((congrFun (yc 0 (by decide)) 13).trans (h0.2.2.2.1 0 13 (by decide) (by decide) (by decide))) ((congrFun (yc 0 (by decide)) 14).trans (h0.2.2.2.1 0 14 (by decide) (by decide) (by decide))) ((yc 47 (by decide)).trans (Fw_row h0.2.2.2.1 47 (by decide) (by decide) (by decide))) ((hh.1.2 39 (by decide)).trans (congrFun z49 39)) ((hh.1.2 40 (by decide)).trans (congrFun z49 40)) ((hh.1.1 72 (by decide) (by decide)).trans z72))⟩
set_option maxHeartbeats 1000000 in
theorem CI8_broken {I A B J JA JB : aI1} {R : aR1} {S : aS1} {a b x y v : Int} (hP : CPI I J R S v) (hC : CI I R S) (hQ : RX I) (h0 : (Kp 0 49 I A ∧ Kp 0 49 J JA ∧ CX A ∧ Fw [18, 19, 20, 21, 22, 23, 24, 25, 26, 27, 28, 29, 30, 33, 48] [(0, 16), (1, 7)] I A ∧ (¬ (0 ≤ a ∧ a < I 1 5 ∧ 0 ≤ b ∧ b ≤ 1) → x = -1 ∧ RFc I A (-1)) ∧ ((0 ≤ a ∧ a < I 1 5 ∧ 0 ≤ b ∧ b ≤ 1) → x = i_and (i_shr (I 1 7) a) 1 ∧ Fw [18, 19, 20, 21, 22, 23, 24, 25, 26, 27, 28, 29, 30, 33] [(0, 16), (1, 7)] I A ∧ A 0 16 = 0 ∧ A 1 7 = i_or (i_and (I 1 7) (i_xor (i_shl 1 a) (-1))) (i_shl b a))) ∧ FRk A JA) (hh : (Ch [50, 51] [0, 1] A B ∧ Kp 49 73 JA JB ∧ RX B ∧ (¬ (0 ≤ a ∧ a < A 51 304 ∧ 0 ≤ b ∧ b ≤ 1) → y = -1 ∧ B 51 = A 51) ∧ ((0 ≤ a ∧ a < A 51 304 ∧ 0 ≤ b ∧ b ≤ 1) → y = i_and (i_shr (A 51 306) a) 1 ∧ B 51 = up1 (A 51) 306 (i_or (i_and (A 51 306) (i_xor (i_shl 1 a) (-1))) (i_shl b a)))) ∧ ((0 ≤ a ∧ a < A 51 304 ∧ 0 ≤ b ∧ b ≤ 1) → GQ9 A B) ∧ (¬ (0 ≤ a ∧ a < A 51 304 ∧ 0 ≤ b ∧ b ≤ 1) → RQ9 y A B JA JB)) : CPI B JB R S (v + 1) := by
  obtain ⟨hPH, ⟨-, hQF⟩, hOK, hST, hIM, hDR⟩ := id hP
  obtain ⟨h0, fr⟩ := h0
  obtain ⟨hh, qk⟩ := hh
  have g0 : Kp 0 49 I A ∧ Kp 0 49 J JA ∧ CX A ∧ Fw [18, 19, 20, 21, 22, 23, 24, 25, 26, 27, 28, 29, 30, 31, 32, 33, 34, 35, 36, 48] [(0, 16), (1, 7)] I A ∧ (¬ (0 ≤ a ∧ a < I 1 5 ∧ 0 ≤ b ∧ b ≤ 1) → x = -1 ∧ RFc I A (-1)) ∧ ((0 ≤ a ∧ a < I 1 5 ∧ 0 ≤ b ∧ b ≤ 1) → x = i_and (i_shr (I 1 7) a) 1 ∧ Fw [18, 19, 20, 21, 22, 23, 24, 25, 26, 27, 28, 29, 30, 31, 32, 33, 34, 35, 36] [(0, 16), (1, 7)] I A ∧ A 0 16 = 0 ∧ A 1 7 = i_or (i_and (I 1 7) (i_xor (i_shl 1 a) (-1))) (i_shl b a)) := ⟨h0.1, h0.2.1, h0.2.2.1, (Fw_wd h0.2.2.2.1 (by decide) (by decide)), h0.2.2.2.2.1, (fun hq_ => ⟨(h0.2.2.2.2.2 hq_).1, (Fw_wd (h0.2.2.2.2.2 hq_).2.1 (by decide) (by decide)), (h0.2.2.2.2.2 hq_).2.2.1, (h0.2.2.2.2.2 hq_).2.2.2⟩)⟩
  have h1 : Ch [50, 51] [0, 1] A B ∧ Kp 49 73 JA JB ∧ RX B ∧ (¬ (0 ≤ a ∧ a < A 51 304 ∧ 0 ≤ b ∧ b ≤ 1) → y = -1 ∧ B 51 = A 51) ∧ ((0 ≤ a ∧ a < A 51 304 ∧ 0 ≤ b ∧ b ≤ 1) → y = i_and (i_shr (A 51 306) a) 1 ∧ B 51 = up1 (A 51) 306 (i_or (i_and (A 51 306) (i_xor (i_shl 1 a) (-1))) (i_shl b a))) := hh
  have cp := CF_broken hPH.1.1 hC g0 h1
  have cg := CG_broken hPH.1.2 hC hQ g0 h1
  have ch := CH_broken hPH.1 hPH.2 hC g0 h1
  have hph : CPH B R S := ⟨⟨cp.1, cg⟩, ch⟩
  clear cp cg ch g0 h1
  have zz : ∀ k, 49 ≤ k → k < 73 → A k = I k := fun k h1 _ => h0.1 k (by omega)
  have zj : ∀ k, 49 ≤ k → k < 73 → JA k = J k := fun k h1 _ => h0.2.1 k (by omega)
  have z49 := zz 49 (by decide) (by decide)
  have z50 := zz 50 (by decide) (by decide)
  have z51 := zz 51 (by decide) (by decide)
  have z52 := zz 52 (by decide) (by decide)
  have z53 := zz 53 (by decide) (by decide)
  have z61 := zz 61 (by decide) (by decide)
  have z72 := zz 72 (by decide) (by decide)
  have qa : QF A JA v := QF_kp hQF (congrFun z49 1) (congrFun z49 25) z51 z61 (zj 62 (by decide) (by decide)) (Int.le_refl _)
  have yc : ∀ k, k < 49 ∨ 73 ≤ k → B k = A k := Ch_kp hh.1 (by decide)
  have frB : FRk B JB := FRk_kp (a := 49) (b := 73) fr yc hh.2.1 (by decide)
  obtain ⟨⟨⟨q8, q15, q12, q5, q6, q7, q11⟩, tb, -⟩, ⟨⟨q9, q0⟩, -⟩⟩ := id hPH.1
  have x5 := XI_o hC.2.1.1
  have hfu := (RX_o hQ).2.2.2.2.2.2.2.2.2
  have ef : FU (A 51 304) = FU (I 1 5) := by rw [z51, ← q5]
  have e304 : A 51 304 = I 1 5 := by rw [z51, ← q5]
  have e305 : A 51 305 = I 1 6 := by rw [z51, ← q6]
  have e309 : A 51 309 = I 1 11 := by rw [z51, ← q11]
  have e310 : A 51 310 = I 1 9 := by rw [z51, ← q9]
  have e10 : A 49 10 = I 8 1 := (congrFun z49 10).trans q8.symm
  have hd := hh.2.2.2
  rw [e304] at hd qk
  by_cases hv : 0 ≤ a ∧ a < I 1 5 ∧ 0 ≤ b ∧ b ≤ 1
  · obtain ⟨g1, gw, g16, g2⟩ := h0.2.2.2.2.2 hv
    obtain ⟨d1, db⟩ := hd.2 hv
    have q := qk.1 hv
    have bo : ∀ j, j ≠ 306 → B 51 j = I 51 j := fun j hj => by rw [db, up1_n _ _ hj, z51]
    exact ⟨hph, ⟨frB, (QF_tu qa q.2.2.1 q.2.2.2 (Int.le_refl _))⟩, (OK8_k hOK (fun j hj => bo j (by omega)) ((hh.1.1 52 (by decide) (by decide)).trans z52) ((hh.1.1 53 (by decide) (by decide)).trans z53) (RX_o hQ).2.2.2.2.2.2.2.2.2.2), ⟨(SA8_a hST.1 g16 (Fw_row gw 48 (by decide) (by decide) (by decide)) q yc z50), (TL8_k hST.2 ((congrFun (yc 1 (by decide)) 8).trans (h0.2.2.2.1 1 8 (by decide) (by decide) (by decide))) ((congrFun (yc 1 (by decide)) 10).trans (h0.2.2.2.1 1 10 (by decide) (by decide) (by decide))) ((yc 5 (by decide)).trans (Fw_row h0.2.2.2.1 5 (by decide) (by decide) (by decide))) (fun j hj => bo j (by omega)))⟩, (IM8_k hIM hC rfl ((hh.1.1 52 (by decide) (by decide)).trans z52) (fun k h1 _ => (yc k (Or.inr h1)).trans (h0.1 k (by omega)))), (DR8_k hDR ((congrFun (yc 0 (by decide)) 13).trans (h0.2.2.2.1 0 13 (by decide) (by decide) (by decide))) ((congrFun (yc 0 (by decide)) 14).trans (h0.2.2.2.1 0 14 (by decide) (by decide) (by decide))) ((yc 47 (by decide)).trans (Fw_row h0.2.2.2.1 47 (by decide) (by decide) (by decide))) ((hh.1.2 39 (by decide)).trans (congrFun z49 39)) ((hh.1.2 40 (by decide)).trans (congrFun z49 40)) ((hh.1.1 72 (by decide) (by decide)).trans z72))⟩
  · have g := h0.2.2.2.2.1 hv
    have d := hd.1 hv
    have b51 := d.2
    have rf := g.2
    have q := qk.2 hv
    exact ⟨hph, ⟨frB, (QF_tk qa q.2.2.1 q.2.2.2 b51 (by omega))⟩, (OK8_k hOK (fun j _ => congrFun (b51.trans z51) j) ((hh.1.1 52 (by decide) (by decide)).trans z52) ((hh.1.1 53 (by decide) (by decide)).trans z53) (RX_o hQ).2.2.2.2.2.2.2.2.2.2), ⟨(SA8_r hST.1 rf.2.1 rf.2.2 q d.1 yc z50), (TL8_k hST.2 ((congrFun (yc 1 (by decide)) 8).trans (rf.1 1 8 (by decide) (by decide) (by decide))) ((congrFun (yc 1 (by decide)) 10).trans (rf.1 1 10 (by decide) (by decide) (by decide))) ((yc 5 (by decide)).trans (Fw_row rf.1 5 (by decide) (by decide) (by decide))) (fun j _ => congrFun (b51.trans z51) j))⟩, (IM8_k hIM hC rfl ((hh.1.1 52 (by decide) (by decide)).trans z52) (fun k h1 _ => (yc k (Or.inr h1)).trans (h0.1 k (by omega)))), (DR8_k hDR ((congrFun (yc 0 (by decide)) 13).trans (h0.2.2.2.1 0 13 (by decide) (by decide) (by decide))) ((congrFun (yc 0 (by decide)) 14).trans (h0.2.2.2.1 0 14 (by decide) (by decide) (by decide))) ((yc 47 (by decide)).trans (Fw_row h0.2.2.2.1 47 (by decide) (by decide) (by decide))) ((hh.1.2 39 (by decide)).trans (congrFun z49 39)) ((hh.1.2 40 (by decide)).trans (congrFun z49 40)) ((hh.1.1 72 (by decide) (by decide)).trans z72))⟩
set_option maxHeartbeats 1000000 in
theorem CI8_read {I A B J JA JB : aI1} {R : aR1} {S : aS1} {a b x y v : Int} (hP : CPI I J R S v) (hC : CI I R S) (hQ : RX I) (h0 : (Kp 0 49 I A ∧ Kp 0 49 J JA ∧ CX A ∧ Fw [3, 18, 19, 20, 21, 22, 23, 24, 25, 26, 27, 28, 29, 30, 33, 48] [(0, 16)] I A ∧ (¬ (0 ≤ a ∧ a ≤ FU (I 1 5) ∧ (b = -1 ∨ (0 ≤ b ∧ b < I 1 6))) → x = -1 ∧ RFc I A (-1)) ∧ ((0 ≤ a ∧ a ≤ FU (I 1 5) ∧ (b = -1 ∨ (0 ≤ b ∧ b < I 1 6))) → x = I 3 a.toNat ∧ Fw [3, 18, 19, 20, 21, 22, 23, 24, 25, 26, 27, 28, 29, 30, 33] [(0, 16)] I A ∧ A 0 16 = 0 ∧ A 3 = up1 (I 3) a.toNat b)) ∧ FRk A JA) (hh : (Ch [50, 51] [0, 1] A B ∧ Kp 49 73 JA JB ∧ RX B ∧ (¬ (0 ≤ a ∧ a ≤ FU (A 51 304) ∧ (b = -1 ∨ (0 ≤ b ∧ b < A 51 305))) → y = -1 ∧ B 51 = A 51) ∧ ((0 ≤ a ∧ a ≤ FU (A 51 304) ∧ (b = -1 ∨ (0 ≤ b ∧ b < A 51 305))) → y = A 51 a.toNat ∧ B 51 = up1 (A 51) a.toNat b)) ∧ ((0 ≤ a ∧ a ≤ FU (A 51 304) ∧ (b = -1 ∨ (0 ≤ b ∧ b < A 51 305))) → GQ9 A B) ∧ (¬ (0 ≤ a ∧ a ≤ FU (A 51 304) ∧ (b = -1 ∨ (0 ≤ b ∧ b < A 51 305))) → RQ9 y A B JA JB)) : CPI B JB R S (v + 1) := by
  obtain ⟨hPH, ⟨-, hQF⟩, hOK, hST, hIM, hDR⟩ := id hP
  obtain ⟨h0, fr⟩ := h0
  obtain ⟨hh, qk⟩ := hh
  have g0 : Kp 0 49 I A ∧ Kp 0 49 J JA ∧ CX A ∧ Fw [3, 18, 19, 20, 21, 22, 23, 24, 25, 26, 27, 28, 29, 30, 31, 32, 33, 34, 35, 36, 48] [(0, 16)] I A ∧ (¬ (0 ≤ a ∧ a ≤ FU (I 1 5) ∧ (b = -1 ∨ (0 ≤ b ∧ b < I 1 6))) → x = -1 ∧ RFc I A (-1)) ∧ ((0 ≤ a ∧ a ≤ FU (I 1 5) ∧ (b = -1 ∨ (0 ≤ b ∧ b < I 1 6))) → x = I 3 a.toNat ∧ Fw [3, 18, 19, 20, 21, 22, 23, 24, 25, 26, 27, 28, 29, 30, 31, 32, 33, 34, 35, 36] [(0, 16)] I A ∧ A 0 16 = 0 ∧ A 3 = up1 (I 3) a.toNat b) := ⟨h0.1, h0.2.1, h0.2.2.1, (Fw_wd h0.2.2.2.1 (by decide) (by decide)), h0.2.2.2.2.1, (fun hq_ => ⟨(h0.2.2.2.2.2 hq_).1, (Fw_wd (h0.2.2.2.2.2 hq_).2.1 (by decide) (by decide)), (h0.2.2.2.2.2 hq_).2.2.1, (h0.2.2.2.2.2 hq_).2.2.2⟩)⟩
  have h1 : Ch [50, 51] [0, 1] A B ∧ Kp 49 73 JA JB ∧ RX B ∧ (¬ (0 ≤ a ∧ a ≤ FU (A 51 304) ∧ (b = -1 ∨ (0 ≤ b ∧ b < A 51 305))) → y = -1 ∧ B 51 = A 51) ∧ ((0 ≤ a ∧ a ≤ FU (A 51 304) ∧ (b = -1 ∨ (0 ≤ b ∧ b < A 51 305))) → y = A 51 a.toNat ∧ B 51 = up1 (A 51) a.toNat b) := hh
  have cp := CF_read hPH.1.1 hC g0 h1
  have cg := CG_read hPH.1.2 hC hQ g0 h1
  have ch := CH_read hPH.1 hPH.2 hC g0 h1
  have hph : CPH B R S := ⟨⟨cp, cg⟩, ch.1⟩
  clear cp cg ch g0 h1
  have zz : ∀ k, 49 ≤ k → k < 73 → A k = I k := fun k h1 _ => h0.1 k (by omega)
  have zj : ∀ k, 49 ≤ k → k < 73 → JA k = J k := fun k h1 _ => h0.2.1 k (by omega)
  have z49 := zz 49 (by decide) (by decide)
  have z50 := zz 50 (by decide) (by decide)
  have z51 := zz 51 (by decide) (by decide)
  have z52 := zz 52 (by decide) (by decide)
  have z53 := zz 53 (by decide) (by decide)
  have z61 := zz 61 (by decide) (by decide)
  have z72 := zz 72 (by decide) (by decide)
  have qa : QF A JA v := QF_kp hQF (congrFun z49 1) (congrFun z49 25) z51 z61 (zj 62 (by decide) (by decide)) (Int.le_refl _)
  have yc : ∀ k, k < 49 ∨ 73 ≤ k → B k = A k := Ch_kp hh.1 (by decide)
  have frB : FRk B JB := FRk_kp (a := 49) (b := 73) fr yc hh.2.1 (by decide)
  obtain ⟨⟨⟨q8, q15, q12, q5, q6, q7, q11⟩, tb, -⟩, ⟨⟨q9, q0⟩, -⟩⟩ := id hPH.1
  have x5 := XI_o hC.2.1.1
  have hfu := (RX_o hQ).2.2.2.2.2.2.2.2.2
  have ef : FU (A 51 304) = FU (I 1 5) := by rw [z51, ← q5]
  have e304 : A 51 304 = I 1 5 := by rw [z51, ← q5]
  have e305 : A 51 305 = I 1 6 := by rw [z51, ← q6]
  have e309 : A 51 309 = I 1 11 := by rw [z51, ← q11]
  have e310 : A 51 310 = I 1 9 := by rw [z51, ← q9]
  have e10 : A 49 10 = I 8 1 := (congrFun z49 10).trans q8.symm
  have hd := hh.2.2.2
  rw [ef, e305] at hd qk
  by_cases hv : 0 ≤ a ∧ a ≤ FU (I 1 5) ∧ (b = -1 ∨ (0 ≤ b ∧ b < I 1 6))
  · obtain ⟨g1, gw, g16, g2⟩ := h0.2.2.2.2.2 hv
    obtain ⟨d1, db⟩ := hd.2 hv
    have q := qk.1 hv
    have bo : ∀ j, j ≠ a.toNat → B 51 j = I 51 j := fun j hj => by rw [db, up1_n _ _ hj, z51]
    have hq5 := congrFun z51 305
    have ok : OKr (B 51) := ⟨fun l hl => by rw [bo _ (by omega)]; exact hOK.1.1 l hl, fun s hs => by
        rw [bo 304 (by omega)] at hs
        rw [bo 305 (by omega)]
        by_cases e9 : s = a.toNat
        · rw [db, e9, up1_s]; omega
        · rw [bo s e9]; exact hOK.1.2.1 s hs, by rw [bo 307 (by omega), bo 304 (by omega)]; exact hOK.1.2.2⟩
    exact ⟨hph, ⟨frB, (QF_tu qa q.2.2.1 q.2.2.2 (Int.le_refl _))⟩, (OK8_n hOK ok ((hh.1.1 52 (by decide) (by decide)).trans z52) ((hh.1.1 53 (by decide) (by decide)).trans z53)), ⟨(SA8_a hST.1 g16 (Fw_row gw 48 (by decide) (by decide) (by decide)) q yc z50), (TL8_k hST.2 ((congrFun (yc 1 (by decide)) 8).trans (h0.2.2.2.1 1 8 (by decide) (by decide) (by decide))) ((congrFun (yc 1 (by decide)) 10).trans (h0.2.2.2.1 1 10 (by decide) (by decide) (by decide))) ((yc 5 (by decide)).trans (Fw_row h0.2.2.2.1 5 (by decide) (by decide) (by decide))) (fun j hj => bo j (by omega)))⟩, (IM8_k hIM hC rfl ((hh.1.1 52 (by decide) (by decide)).trans z52) (fun k h1 _ => (yc k (Or.inr h1)).trans (h0.1 k (by omega)))), (DR8_k hDR ((congrFun (yc 0 (by decide)) 13).trans (h0.2.2.2.1 0 13 (by decide) (by decide) (by decide))) ((congrFun (yc 0 (by decide)) 14).trans (h0.2.2.2.1 0 14 (by decide) (by decide) (by decide))) ((yc 47 (by decide)).trans (Fw_row h0.2.2.2.1 47 (by decide) (by decide) (by decide))) ((hh.1.2 39 (by decide)).trans (congrFun z49 39)) ((hh.1.2 40 (by decide)).trans (congrFun z49 40)) ((hh.1.1 72 (by decide) (by decide)).trans z72))⟩
  · have g := h0.2.2.2.2.1 hv
    have d := hd.1 hv
    have b51 := d.2
    have rf := g.2
    have q := qk.2 hv
    exact ⟨hph, ⟨frB, (QF_tk qa q.2.2.1 q.2.2.2 b51 (by omega))⟩, (OK8_k hOK (fun j _ => congrFun (b51.trans z51) j) ((hh.1.1 52 (by decide) (by decide)).trans z52) ((hh.1.1 53 (by decide) (by decide)).trans z53) (RX_o hQ).2.2.2.2.2.2.2.2.2.2), ⟨(SA8_r hST.1 rf.2.1 rf.2.2 q d.1 yc z50), (TL8_k hST.2 ((congrFun (yc 1 (by decide)) 8).trans (rf.1 1 8 (by decide) (by decide) (by decide))) ((congrFun (yc 1 (by decide)) 10).trans (rf.1 1 10 (by decide) (by decide) (by decide))) ((yc 5 (by decide)).trans (Fw_row rf.1 5 (by decide) (by decide) (by decide))) (fun j _ => congrFun (b51.trans z51) j))⟩, (IM8_k hIM hC rfl ((hh.1.1 52 (by decide) (by decide)).trans z52) (fun k h1 _ => (yc k (Or.inr h1)).trans (h0.1 k (by omega)))), (DR8_k hDR ((congrFun (yc 0 (by decide)) 13).trans (h0.2.2.2.1 0 13 (by decide) (by decide) (by decide))) ((congrFun (yc 0 (by decide)) 14).trans (h0.2.2.2.1 0 14 (by decide) (by decide) (by decide))) ((yc 47 (by decide)).trans (Fw_row h0.2.2.2.1 47 (by decide) (by decide) (by decide))) ((hh.1.2 39 (by decide)).trans (congrFun z49 39)) ((hh.1.2 40 (by decide)).trans (congrFun z49 40)) ((hh.1.1 72 (by decide) (by decide)).trans z72))⟩
set_option maxHeartbeats 1000000 in
theorem CI8_row {I A B J JA JB : aI1} {R : aR1} {S : aS1} {x y v : Int} (hP : CPI I J R S v) (hC : CI I R S) (hQ : RX I) (h0 : (Kp 0 49 I A ∧ Kp 0 49 J JA ∧ CX A ∧ Fw [3, 18, 19, 20, 21, 22, 23, 24, 25, 26, 27, 28, 29, 30, 33, 48] [(0, 15), (0, 16), (8, 1)] I A ∧ (I 8 1 = 0 → x = -6 ∧ RFc I A (-6)) ∧ (¬ I 8 1 = 0 → Fw [3, 18, 19, 20, 21, 22, 23, 24, 25, 26, 27, 28, 29, 30, 33] [(0, 15), (0, 16), (8, 1)] I A ∧ A 0 16 = 0 ∧ A 8 1 = 0 ∧ A 0 15 = max 0 (I 8 1 - (FU (I 1 5) + 1)) ∧ (∀ j : Nat, A 3 j = if (j : Int) < FU (I 1 5) + 1 then RWv (I 9) (I 8 1) (I 1 6) j else I 3 j) ∧ x = cnR (A 3) (FU (I 1 5) + 1).toNat)) ∧ FRk A JA) (hh : (Ch [50, 51] [0, 1, 6, 10] A B ∧ Kp 49 73 JA JB ∧ RX B ∧ B 49 10 = 0 ∧ (A 49 10 = 0 → y = -6 ∧ B 49 6 = A 49 6 ∧ B 51 = A 51) ∧ (¬ A 49 10 = 0 → B 49 6 = max 0 (A 49 10 - (FU (A 51 304) + 1)) ∧ (∀ j : Nat, B 51 j = if (j : Int) < FU (A 51 304) + 1 then RWv (A 55) (A 49 10) (A 51 305) j else A 51 j) ∧ y = cnR (B 51) (FU (A 51 304) + 1).toNat)) ∧ ((¬ A 49 10 = 0) → GQ9 A B) ∧ (¬ (¬ A 49 10 = 0) → RQ9 y A B JA JB)) : CPI B JB R S (v + 1) := by
  obtain ⟨hPH, ⟨-, hQF⟩, hOK, hST, hIM, hDR⟩ := id hP
  obtain ⟨h0, fr⟩ := h0
  obtain ⟨hh, qk⟩ := hh
  have g0 : Kp 0 49 I A ∧ Kp 0 49 J JA ∧ CX A ∧ Fw [3, 18, 19, 20, 21, 22, 23, 24, 25, 26, 27, 28, 29, 30, 31, 32, 33, 34, 35, 36, 48] [(0, 15), (0, 16), (8, 1)] I A ∧ (I 8 1 = 0 → x = -6 ∧ RFc I A (-6)) ∧ (¬ I 8 1 = 0 → Fw [3, 18, 19, 20, 21, 22, 23, 24, 25, 26, 27, 28, 29, 30, 31, 32, 33, 34, 35, 36] [(0, 15), (0, 16), (8, 1)] I A ∧ A 0 16 = 0 ∧ A 8 1 = 0 ∧ A 0 15 = max 0 (I 8 1 - (FU (I 1 5) + 1)) ∧ (∀ j : Nat, A 3 j = if (j : Int) < FU (I 1 5) + 1 then RWv (I 9) (I 8 1) (I 1 6) j else I 3 j) ∧ x = cnR (A 3) (FU (I 1 5) + 1).toNat) := ⟨h0.1, h0.2.1, h0.2.2.1, (Fw_wd h0.2.2.2.1 (by decide) (by decide)), h0.2.2.2.2.1, (fun hq_ => ⟨(Fw_wd (h0.2.2.2.2.2 hq_).1 (by decide) (by decide)), (h0.2.2.2.2.2 hq_).2.1, (h0.2.2.2.2.2 hq_).2.2.1, (h0.2.2.2.2.2 hq_).2.2.2.1, (h0.2.2.2.2.2 hq_).2.2.2.2.1, (h0.2.2.2.2.2 hq_).2.2.2.2.2⟩)⟩
  have h1 : Ch [50, 51] [0, 1, 6, 10] A B ∧ Kp 49 73 JA JB ∧ RX B ∧ B 49 10 = 0 ∧ (A 49 10 = 0 → y = -6 ∧ B 49 6 = A 49 6 ∧ B 51 = A 51) ∧ (¬ A 49 10 = 0 → B 49 6 = max 0 (A 49 10 - (FU (A 51 304) + 1)) ∧ (∀ j : Nat, B 51 j = if (j : Int) < FU (A 51 304) + 1 then RWv (A 55) (A 49 10) (A 51 305) j else A 51 j) ∧ y = cnR (B 51) (FU (A 51 304) + 1).toNat) := hh
  have cp := CF_row hPH.1.1 hC g0 h1
  have cg := CG_row hPH.1.2 hC hQ g0 h1
  have ch := CH_row hPH.1 hPH.2 hC g0 h1
  have hph : CPH B R S := ⟨⟨cp.1, cg⟩, ch⟩
  clear cp cg ch g0 h1
  have zz : ∀ k, 49 ≤ k → k < 73 → A k = I k := fun k h1 _ => h0.1 k (by omega)
  have zj : ∀ k, 49 ≤ k → k < 73 → JA k = J k := fun k h1 _ => h0.2.1 k (by omega)
  have z49 := zz 49 (by decide) (by decide)
  have z50 := zz 50 (by decide) (by decide)
  have z51 := zz 51 (by decide) (by decide)
  have z52 := zz 52 (by decide) (by decide)
  have z53 := zz 53 (by decide) (by decide)
  have z61 := zz 61 (by decide) (by decide)
  have z72 := zz 72 (by decide) (by decide)
  have qa : QF A JA v := QF_kp hQF (congrFun z49 1) (congrFun z49 25) z51 z61 (zj 62 (by decide) (by decide)) (Int.le_refl _)
  have yc : ∀ k, k < 49 ∨ 73 ≤ k → B k = A k := Ch_kp hh.1 (by decide)
  have frB : FRk B JB := FRk_kp (a := 49) (b := 73) fr yc hh.2.1 (by decide)
  obtain ⟨⟨⟨q8, q15, q12, q5, q6, q7, q11⟩, tb, -⟩, ⟨⟨q9, q0⟩, -⟩⟩ := id hPH.1
  have x5 := XI_o hC.2.1.1
  have hfu := (RX_o hQ).2.2.2.2.2.2.2.2.2
  have ef : FU (A 51 304) = FU (I 1 5) := by rw [z51, ← q5]
  have e304 : A 51 304 = I 1 5 := by rw [z51, ← q5]
  have e305 : A 51 305 = I 1 6 := by rw [z51, ← q6]
  have e309 : A 51 309 = I 1 11 := by rw [z51, ← q11]
  have e310 : A 51 310 = I 1 9 := by rw [z51, ← q9]
  have e10 : A 49 10 = I 8 1 := (congrFun z49 10).trans q8.symm
  have hd := hh.2.2.2
  rw [e10, ef, e305] at hd
  rw [e10] at qk
  by_cases hv : ¬ I 8 1 = 0
  · obtain ⟨gw, g16, -, -, -, -⟩ := h0.2.2.2.2.2 hv
    obtain ⟨-, db, -⟩ := hd.2.2 hv
    have q := qk.1 hv
    have bo : ∀ j : Nat, ¬ (j : Int) < FU (I 1 5) + 1 → B 51 j = I 51 j := fun j hj => by rw [db j, if_neg hj, z51]
    have hb : FU (I 1 5) ≤ 255 := by have := FU_r x5.1.1 x5.1.2; omega
    have ok : OKr (B 51) := ⟨fun l hl => by rw [bo _ (by omega)]; exact hOK.1.1 l hl, fun s hs => by
        rw [bo 304 (by omega), ← q5] at hs
        rw [bo 305 (by omega), ← q6, db s, if_pos (by omega)]
        unfold RWv
        by_cases e9 : (s : Int) < I 8 1 ∧ 0 ≤ A 55 s ∧ A 55 s < I 1 6
        · rw [if_pos e9]; omega
        · rw [if_neg e9]; omega, by rw [bo 307 (by omega), bo 304 (by omega)]; exact hOK.1.2.2⟩
    exact ⟨hph, ⟨frB, (QF_tu qa q.2.2.1 q.2.2.2 (Int.le_refl _))⟩, (OK8_n hOK ok ((hh.1.1 52 (by decide) (by decide)).trans z52) ((hh.1.1 53 (by decide) (by decide)).trans z53)), ⟨(SA8_a hST.1 g16 (Fw_row gw 48 (by decide) (by decide) (by decide)) q yc z50), (TL8_k hST.2 ((congrFun (yc 1 (by decide)) 8).trans (h0.2.2.2.1 1 8 (by decide) (by decide) (by decide))) ((congrFun (yc 1 (by decide)) 10).trans (h0.2.2.2.1 1 10 (by decide) (by decide) (by decide))) ((yc 5 (by decide)).trans (Fw_row h0.2.2.2.1 5 (by decide) (by decide) (by decide))) (fun j hj => bo j (by omega)))⟩, (IM8_k hIM hC rfl ((hh.1.1 52 (by decide) (by decide)).trans z52) (fun k h1 _ => (yc k (Or.inr h1)).trans (h0.1 k (by omega)))), (DR8_k hDR ((congrFun (yc 0 (by decide)) 13).trans (h0.2.2.2.1 0 13 (by decide) (by decide) (by decide))) ((congrFun (yc 0 (by decide)) 14).trans (h0.2.2.2.1 0 14 (by decide) (by decide) (by decide))) ((yc 47 (by decide)).trans (Fw_row h0.2.2.2.1 47 (by decide) (by decide) (by decide))) ((hh.1.2 39 (by decide)).trans (congrFun z49 39)) ((hh.1.2 40 (by decide)).trans (congrFun z49 40)) ((hh.1.1 72 (by decide) (by decide)).trans z72))⟩
  · have hv0 : I 8 1 = 0 := by omega
    have g := h0.2.2.2.2.1 hv0
    have d := hd.2.1 hv0
    have b51 := d.2.2
    have rf := g.2
    have q := qk.2 hv
    exact ⟨hph, ⟨frB, (QF_tk qa q.2.2.1 q.2.2.2 b51 (by omega))⟩, (OK8_k hOK (fun j _ => congrFun (b51.trans z51) j) ((hh.1.1 52 (by decide) (by decide)).trans z52) ((hh.1.1 53 (by decide) (by decide)).trans z53) (RX_o hQ).2.2.2.2.2.2.2.2.2.2), ⟨(SA8_r hST.1 rf.2.1 rf.2.2 q d.1 yc z50), (TL8_k hST.2 ((congrFun (yc 1 (by decide)) 8).trans (rf.1 1 8 (by decide) (by decide) (by decide))) ((congrFun (yc 1 (by decide)) 10).trans (rf.1 1 10 (by decide) (by decide) (by decide))) ((yc 5 (by decide)).trans (Fw_row rf.1 5 (by decide) (by decide) (by decide))) (fun j _ => congrFun (b51.trans z51) j))⟩, (IM8_k hIM hC rfl ((hh.1.1 52 (by decide) (by decide)).trans z52) (fun k h1 _ => (yc k (Or.inr h1)).trans (h0.1 k (by omega)))), (DR8_k hDR ((congrFun (yc 0 (by decide)) 13).trans (h0.2.2.2.1 0 13 (by decide) (by decide) (by decide))) ((congrFun (yc 0 (by decide)) 14).trans (h0.2.2.2.1 0 14 (by decide) (by decide) (by decide))) ((yc 47 (by decide)).trans (Fw_row h0.2.2.2.1 47 (by decide) (by decide) (by decide))) ((hh.1.2 39 (by decide)).trans (congrFun z49 39)) ((hh.1.2 40 (by decide)).trans (congrFun z49 40)) ((hh.1.1 72 (by decide) (by decide)).trans z72))⟩
set_option maxHeartbeats 1000000 in
theorem CI8_learn {I A B J JA JB : aI1} {R : aR1} {S : aS1} {qsf : Nat → List zQ} {a x y v : Int} (hP : CPI I J R S v) (hC : CI I R S) (hQ : RX I) (h0 : (Kp 0 49 I A ∧ Kp 0 49 J JA ∧ CX A ∧ Fw [3, 15, 16, 17, 18, 19, 20, 21, 22, 23, 24, 25, 26, 27, 28, 29, 30, 33, 48] [(0, 16)] I A ∧ (¬ (0 ≤ a ∧ a < I 1 9) → x = -2 ∧ RFc I A (-2)) ∧ ((0 ≤ a ∧ a < I 1 9) → Fw [3, 15, 16, 17, 18, 19, 20, 21, 22, 23, 24, 25, 26, 27, 28, 29, 30, 33] [(0, 16)] I A ∧ A 0 16 = 0 ∧ (∀ j : Nat, A 3 j = if (j : Int) ≤ FU (I 1 5) then zLd (qsf a.toNat) (I 1 5) (I 1 6) j else I 3 j) ∧ x = cnR (A 3) (FU (I 1 5) + 1).toNat)) ∧ FRk A JA) (hh : (Ch [50, 51, 60] [0, 1, 19, 20, 21] A B ∧ Kp 49 73 JA JB ∧ RX B ∧ (0 ≤ a ∧ a < A 51 310 → (∀ s : Nat, (s : Int) ≤ FU (A 51 304) → B 51 s = zLd (qsf a.toNat) (A 51 304) (A 51 305) s) ∧ (∀ s : Nat, ¬ (s : Int) ≤ FU (A 51 304) → B 51 s = A 51 s) ∧ y = cnR (B 51) (FU (A 51 304) + 1).toNat) ∧ (¬ (0 ≤ a ∧ a < A 51 310) → y = -2 ∧ B 51 = A 51)) ∧ RGQ9 y A B JA JB) : CPI B JB R S (v + 1) := by
  obtain ⟨hPH, ⟨-, hQF⟩, hOK, hST, hIM, hDR⟩ := id hP
  obtain ⟨h0, fr⟩ := h0
  obtain ⟨hh, qk⟩ := hh
  have g0 : Kp 0 49 I A ∧ Kp 0 49 J JA ∧ CX A ∧ Fw [3, 15, 16, 17, 18, 19, 20, 21, 22, 23, 24, 25, 26, 27, 28, 29, 30, 31, 32, 33, 34, 35, 36, 48] [(0, 16)] I A ∧ (¬ (0 ≤ a ∧ a < I 1 9) → x = -2 ∧ RFc I A (-2)) ∧ ((0 ≤ a ∧ a < I 1 9) → Fw [3, 15, 16, 17, 18, 19, 20, 21, 22, 23, 24, 25, 26, 27, 28, 29, 30, 31, 32, 33, 34, 35, 36] [(0, 16)] I A ∧ A 0 16 = 0 ∧ (∀ j : Nat, A 3 j = if (j : Int) ≤ FU (I 1 5) then zLd (qsf a.toNat) (I 1 5) (I 1 6) j else I 3 j) ∧ x = cnR (A 3) (FU (I 1 5) + 1).toNat) := ⟨h0.1, h0.2.1, h0.2.2.1, (Fw_wd h0.2.2.2.1 (by decide) (by decide)), h0.2.2.2.2.1, (fun hq_ => ⟨(Fw_wd (h0.2.2.2.2.2 hq_).1 (by decide) (by decide)), (h0.2.2.2.2.2 hq_).2.1, (h0.2.2.2.2.2 hq_).2.2.1, (h0.2.2.2.2.2 hq_).2.2.2⟩)⟩
  have h1 : Ch [50, 51, 60] [0, 1, 19, 20, 21] A B ∧ Kp 49 73 JA JB ∧ RX B ∧ (0 ≤ a ∧ a < A 51 310 → (∀ s : Nat, (s : Int) ≤ FU (A 51 304) → B 51 s = zLd (qsf a.toNat) (A 51 304) (A 51 305) s) ∧ (∀ s : Nat, ¬ (s : Int) ≤ FU (A 51 304) → B 51 s = A 51 s) ∧ y = cnR (B 51) (FU (A 51 304) + 1).toNat) ∧ (¬ (0 ≤ a ∧ a < A 51 310) → y = -2 ∧ B 51 = A 51) := hh
  have cp := CF_learn hPH.1.1 hC ⟨g0.1, g0.2.1, g0.2.2.1, g0.2.2.2.1, trivial⟩ (R66_learn (RX_low hQ h0.1) h1)
  have cg := CG_learn hPH.1.2 hC hQ ⟨g0.1, g0.2.1, g0.2.2.1, g0.2.2.2.1, trivial⟩ (R66_learn (RX_low hQ h0.1) h1)
  have ch := CH_learn hPH.1 hPH.2 hC g0 h1
  have hph : CPH B R S := ⟨⟨cp, cg⟩, ch.1⟩
  clear cp cg ch g0 h1
  have zz : ∀ k, 49 ≤ k → k < 73 → A k = I k := fun k h1 _ => h0.1 k (by omega)
  have zj : ∀ k, 49 ≤ k → k < 73 → JA k = J k := fun k h1 _ => h0.2.1 k (by omega)
  have z49 := zz 49 (by decide) (by decide)
  have z50 := zz 50 (by decide) (by decide)
  have z51 := zz 51 (by decide) (by decide)
  have z52 := zz 52 (by decide) (by decide)
  have z53 := zz 53 (by decide) (by decide)
  have z61 := zz 61 (by decide) (by decide)
  have z72 := zz 72 (by decide) (by decide)
  have qa : QF A JA v := QF_kp hQF (congrFun z49 1) (congrFun z49 25) z51 z61 (zj 62 (by decide) (by decide)) (Int.le_refl _)
  have yc : ∀ k, k < 49 ∨ 73 ≤ k → B k = A k := Ch_kp hh.1 (by decide)
  have frB : FRk B JB := FRk_kp (a := 49) (b := 73) fr yc hh.2.1 (by decide)
  obtain ⟨⟨⟨q8, q15, q12, q5, q6, q7, q11⟩, tb, -⟩, ⟨⟨q9, q0⟩, -⟩⟩ := id hPH.1
  have x5 := XI_o hC.2.1.1
  have hfu := (RX_o hQ).2.2.2.2.2.2.2.2.2
  have ef : FU (A 51 304) = FU (I 1 5) := by rw [z51, ← q5]
  have e304 : A 51 304 = I 1 5 := by rw [z51, ← q5]
  have e305 : A 51 305 = I 1 6 := by rw [z51, ← q6]
  have e309 : A 51 309 = I 1 11 := by rw [z51, ← q11]
  have e310 : A 51 310 = I 1 9 := by rw [z51, ← q9]
  have e10 : A 49 10 = I 8 1 := (congrFun z49 10).trans q8.symm
  have hd := hh.2.2.2
  rw [e310, e304, e305] at hd
  by_cases hv : 0 ≤ a ∧ a < I 1 9
  · obtain ⟨gw, g16, -, -⟩ := h0.2.2.2.2.2 hv
    obtain ⟨d1, d2, d3⟩ := hd.1 hv
    have hr9 := cnR_0 (B 51) (FU (I 1 5) + 1).toNat
    have q := qk.2 (by omega)
    have bo : ∀ j : Nat, ¬ (j : Int) ≤ FU (I 1 5) → B 51 j = I 51 j := fun j hj => by rw [d2 j hj, z51]
    have hb : FU (I 1 5) ≤ 255 := by have := FU_r x5.1.1 x5.1.2; omega
    have ok : OKr (B 51) := ⟨fun l hl => by rw [bo _ (by omega)]; exact hOK.1.1 l hl, fun s hs => by
        rw [bo 304 (by omega), ← q5] at hs
        rw [bo 305 (by omega), ← q6, d1 s hs]
        exact zGv_k (by omega), by rw [bo 307 (by omega), bo 304 (by omega)]; exact hOK.1.2.2⟩
    exact ⟨hph, ⟨frB, (QF_tu qa q.2.2.1 q.2.2.2 (Int.le_refl _))⟩, (OK8_n hOK ok ((hh.1.1 52 (by decide) (by decide)).trans z52) ((hh.1.1 53 (by decide) (by decide)).trans z53)), ⟨(SA8_a hST.1 g16 (Fw_row gw 48 (by decide) (by decide) (by decide)) q yc z50), (TL8_k hST.2 ((congrFun (yc 1 (by decide)) 8).trans (h0.2.2.2.1 1 8 (by decide) (by decide) (by decide))) ((congrFun (yc 1 (by decide)) 10).trans (h0.2.2.2.1 1 10 (by decide) (by decide) (by decide))) ((yc 5 (by decide)).trans (Fw_row h0.2.2.2.1 5 (by decide) (by decide) (by decide))) (fun j hj => bo j (by omega)))⟩, (IM8_k hIM hC rfl ((hh.1.1 52 (by decide) (by decide)).trans z52) (fun k h1 _ => (yc k (Or.inr h1)).trans (h0.1 k (by omega)))), (DR8_k hDR ((congrFun (yc 0 (by decide)) 13).trans (h0.2.2.2.1 0 13 (by decide) (by decide) (by decide))) ((congrFun (yc 0 (by decide)) 14).trans (h0.2.2.2.1 0 14 (by decide) (by decide) (by decide))) ((yc 47 (by decide)).trans (Fw_row h0.2.2.2.1 47 (by decide) (by decide) (by decide))) ((hh.1.2 39 (by decide)).trans (congrFun z49 39)) ((hh.1.2 40 (by decide)).trans (congrFun z49 40)) ((hh.1.1 72 (by decide) (by decide)).trans z72))⟩
  · have g := h0.2.2.2.2.1 hv
    have d := hd.2 hv
    have b51 := d.2
    have rf := g.2
    have q := qk.1 (by have := d.1; omega)
    exact ⟨hph, ⟨frB, (QF_tk qa q.2.2.1 q.2.2.2 b51 (by omega))⟩, (OK8_k hOK (fun j _ => congrFun (b51.trans z51) j) ((hh.1.1 52 (by decide) (by decide)).trans z52) ((hh.1.1 53 (by decide) (by decide)).trans z53) (RX_o hQ).2.2.2.2.2.2.2.2.2.2), ⟨(SA8_r hST.1 rf.2.1 rf.2.2 q d.1 yc z50), (TL8_k hST.2 ((congrFun (yc 1 (by decide)) 8).trans (rf.1 1 8 (by decide) (by decide) (by decide))) ((congrFun (yc 1 (by decide)) 10).trans (rf.1 1 10 (by decide) (by decide) (by decide))) ((yc 5 (by decide)).trans (Fw_row rf.1 5 (by decide) (by decide) (by decide))) (fun j _ => congrFun (b51.trans z51) j))⟩, (IM8_k hIM hC rfl ((hh.1.1 52 (by decide) (by decide)).trans z52) (fun k h1 _ => (yc k (Or.inr h1)).trans (h0.1 k (by omega)))), (DR8_k hDR ((congrFun (yc 0 (by decide)) 13).trans (h0.2.2.2.1 0 13 (by decide) (by decide) (by decide))) ((congrFun (yc 0 (by decide)) 14).trans (h0.2.2.2.1 0 14 (by decide) (by decide) (by decide))) ((yc 47 (by decide)).trans (Fw_row h0.2.2.2.1 47 (by decide) (by decide) (by decide))) ((hh.1.2 39 (by decide)).trans (congrFun z49 39)) ((hh.1.2 40 (by decide)).trans (congrFun z49 40)) ((hh.1.1 72 (by decide) (by decide)).trans z72))⟩
set_option maxHeartbeats 1000000 in
theorem CI8_trail {I A B J JA JB : aI1} {R : aR1} {S : aS1} {x y v : Int} (hP : CPI I J R S v) (hC : CI I R S) (hQ : RX I) (h0 : (Kp 0 49 I A ∧ Kp 0 49 J JA ∧ CX A ∧ Fw [46, 48] [(0, 12), (0, 16), (8, 1)] I A ∧ (I 8 1 = 0 → x = -6 ∧ RFc I A (-6)) ∧ (¬ I 8 1 = 0 → x = min (I 8 1) 30 ∧ Fw [46] [(0, 12), (0, 16), (8, 1)] I A ∧ A 0 16 = 0 ∧ A 0 12 = min (I 8 1) 30 ∧ A 8 1 = 0 ∧ (∀ j : Nat, (j : Int) < min (I 8 1) 30 → A 46 j = I 9 j))) ∧ FRk A JA) (hh : (Ch [50, 67] [0, 1, 10, 33] A B ∧ Kp 49 73 JA JB ∧ RX B ∧ B 49 10 = 0 ∧ (A 49 10 = 0 → y = -6 ∧ B 49 33 = A 49 33 ∧ B 67 = A 67) ∧ (¬ A 49 10 = 0 → y = min (A 49 10) 30 ∧ B 49 33 = min (A 49 10) 30 ∧ (∀ j : Nat, (j : Int) < min (A 49 10) 30 → B 67 j = i_and (A 55 j) 255))) ∧ RGQ9 y A B JA JB) : CPI B JB R S (v + 1) := by
  obtain ⟨hPH, ⟨-, hQF⟩, hOK, hST, hIM, hDR⟩ := id hP
  obtain ⟨h0, fr⟩ := h0
  obtain ⟨hh, qk⟩ := hh
  have g0 : Kp 0 49 I A ∧ Kp 0 49 J JA ∧ CX A ∧ Fw [46, 48] [(0, 12), (0, 16), (8, 1)] I A ∧ (I 8 1 = 0 → x = -6 ∧ RFc I A (-6)) ∧ (¬ I 8 1 = 0 → x = min (I 8 1) 30 ∧ Fw [46] [(0, 12), (0, 16), (8, 1)] I A ∧ A 0 16 = 0 ∧ A 0 12 = min (I 8 1) 30 ∧ A 8 1 = 0 ∧ (∀ j : Nat, (j : Int) < min (I 8 1) 30 → A 46 j = I 9 j)) := h0
  have h1 : Ch [50, 67] [0, 1, 10, 33] A B ∧ Kp 49 73 JA JB ∧ RX B ∧ B 49 10 = 0 ∧ (A 49 10 = 0 → y = -6 ∧ B 49 33 = A 49 33 ∧ B 67 = A 67) ∧ (¬ A 49 10 = 0 → y = min (A 49 10) 30 ∧ B 49 33 = min (A 49 10) 30 ∧ (∀ j : Nat, (j : Int) < min (A 49 10) 30 → B 67 j = i_and (A 55 j) 255)) := hh
  have cp := CF_trail hPH.1.1 hC g0 h1
  have cg := CG_trail hPH.1.2 hC hQ g0 h1
  have ch := CH_trail hPH.1 hPH.2 hC g0 h1
  have hph : CPH B R S := ⟨⟨cp.1, cg⟩, ch⟩
  clear cp cg ch g0 h1
  have zz : ∀ k, 49 ≤ k → k < 73 → A k = I k := fun k h1 _ => h0.1 k (by omega)
  have zj : ∀ k, 49 ≤ k → k < 73 → JA k = J k := fun k h1 _ => h0.2.1 k (by omega)
  have z49 := zz 49 (by decide) (by decide)
  have z50 := zz 50 (by decide) (by decide)
  have z51 := zz 51 (by decide) (by decide)
  have z52 := zz 52 (by decide) (by decide)
  have z53 := zz 53 (by decide) (by decide)
  have z61 := zz 61 (by decide) (by decide)
  have z72 := zz 72 (by decide) (by decide)
  have qa : QF A JA v := QF_kp hQF (congrFun z49 1) (congrFun z49 25) z51 z61 (zj 62 (by decide) (by decide)) (Int.le_refl _)
  have yc : ∀ k, k < 49 ∨ 73 ≤ k → B k = A k := Ch_kp hh.1 (by decide)
  have frB : FRk B JB := FRk_kp (a := 49) (b := 73) fr yc hh.2.1 (by decide)
  obtain ⟨⟨⟨q8, q15, q12, q5, q6, q7, q11⟩, tb, -⟩, ⟨⟨q9, q0⟩, -⟩⟩ := id hPH.1
  have x5 := XI_o hC.2.1.1
  have hfu := (RX_o hQ).2.2.2.2.2.2.2.2.2
  have ef : FU (A 51 304) = FU (I 1 5) := by rw [z51, ← q5]
  have e304 : A 51 304 = I 1 5 := by rw [z51, ← q5]
  have e305 : A 51 305 = I 1 6 := by rw [z51, ← q6]
  have e309 : A 51 309 = I 1 11 := by rw [z51, ← q11]
  have e310 : A 51 310 = I 1 9 := by rw [z51, ← q9]
  have e10 : A 49 10 = I 8 1 := (congrFun z49 10).trans q8.symm
  have hd := hh.2.2.2
  rw [e10] at hd
  by_cases hv : ¬ I 8 1 = 0
  · obtain ⟨g1, gw, g16, -, -, -⟩ := h0.2.2.2.2.2 hv
    obtain ⟨d1, -, -⟩ := hd.2.2 hv
    have q := qk.2 (by omega)
    exact ⟨hph, ⟨frB, (QF_tu qa q.2.2.1 q.2.2.2 (Int.le_refl _))⟩, (OK8_k hOK (fun j _ => congrFun ((hh.1.1 51 (by decide) (by decide)).trans z51) j) ((hh.1.1 52 (by decide) (by decide)).trans z52) ((hh.1.1 53 (by decide) (by decide)).trans z53) (RX_o hQ).2.2.2.2.2.2.2.2.2.2), ⟨(SA8_a hST.1 g16 (Fw_row gw 48 (by decide) (by decide) (by decide)) q yc z50), (TL8_k hST.2 ((congrFun (yc 1 (by decide)) 8).trans (h0.2.2.2.1 1 8 (by decide) (by decide) (by decide))) ((congrFun (yc 1 (by decide)) 10).trans (h0.2.2.2.1 1 10 (by decide) (by decide) (by decide))) ((yc 5 (by decide)).trans (Fw_row h0.2.2.2.1 5 (by decide) (by decide) (by decide))) (fun j _ => congrFun ((hh.1.1 51 (by decide) (by decide)).trans z51) j))⟩, (IM8_k hIM hC rfl ((hh.1.1 52 (by decide) (by decide)).trans z52) (fun k h1 _ => (yc k (Or.inr h1)).trans (h0.1 k (by omega)))), (DR8_k hDR ((congrFun (yc 0 (by decide)) 13).trans (h0.2.2.2.1 0 13 (by decide) (by decide) (by decide))) ((congrFun (yc 0 (by decide)) 14).trans (h0.2.2.2.1 0 14 (by decide) (by decide) (by decide))) ((yc 47 (by decide)).trans (Fw_row h0.2.2.2.1 47 (by decide) (by decide) (by decide))) ((hh.1.2 39 (by decide)).trans (congrFun z49 39)) ((hh.1.2 40 (by decide)).trans (congrFun z49 40)) ((hh.1.1 72 (by decide) (by decide)).trans z72))⟩
  · have hv0 : I 8 1 = 0 := by omega
    have g := h0.2.2.2.2.1 hv0
    have d := hd.2.1 hv0
    have b51 : B 51 = A 51 := hh.1.1 51 (by decide) (by decide)
    have rf := g.2
    have q := qk.1 (by have := d.1; omega)
    exact ⟨hph, ⟨frB, (QF_tk qa q.2.2.1 q.2.2.2 b51 (by omega))⟩, (OK8_k hOK (fun j _ => congrFun (b51.trans z51) j) ((hh.1.1 52 (by decide) (by decide)).trans z52) ((hh.1.1 53 (by decide) (by decide)).trans z53) (RX_o hQ).2.2.2.2.2.2.2.2.2.2), ⟨(SA8_r hST.1 rf.2.1 rf.2.2 q d.1 yc z50), (TL8_k hST.2 ((congrFun (yc 1 (by decide)) 8).trans (rf.1 1 8 (by decide) (by decide) (by decide))) ((congrFun (yc 1 (by decide)) 10).trans (rf.1 1 10 (by decide) (by decide) (by decide))) ((yc 5 (by decide)).trans (Fw_row rf.1 5 (by decide) (by decide) (by decide))) (fun j _ => congrFun (b51.trans z51) j))⟩, (IM8_k hIM hC rfl ((hh.1.1 52 (by decide) (by decide)).trans z52) (fun k h1 _ => (yc k (Or.inr h1)).trans (h0.1 k (by omega)))), (DR8_k hDR ((congrFun (yc 0 (by decide)) 13).trans (h0.2.2.2.1 0 13 (by decide) (by decide) (by decide))) ((congrFun (yc 0 (by decide)) 14).trans (h0.2.2.2.1 0 14 (by decide) (by decide) (by decide))) ((yc 47 (by decide)).trans (Fw_row h0.2.2.2.1 47 (by decide) (by decide) (by decide))) ((hh.1.2 39 (by decide)).trans (congrFun z49 39)) ((hh.1.2 40 (by decide)).trans (congrFun z49 40)) ((hh.1.1 72 (by decide) (by decide)).trans z72))⟩
set_option maxHeartbeats 1000000 in
theorem CI8_want {I A B J JA JB : aI1} {R : aR1} {S : aS1} {a x y v : Int} (hP : CPI I J R S v) (hC : CI I R S) (hQ : RX I) (h0 : (Kp 0 49 I A ∧ Kp 0 49 J JA ∧ CX A ∧ Fw [6, 33, 48] [(0, 16), (1, 11)] I A ∧ (¬ (0 ≤ a ∧ a < I 1 6) → x = -1 ∧ RFc I A (-1)) ∧ ((0 ≤ a ∧ a < I 1 6) → (16 ≤ I 1 11 → x = -5 ∧ RFc I A (-5)) ∧ (I 1 11 < 16 → x = I 1 11 + 1 ∧ Fw [6, 33] [(0, 16), (1, 11)] I A ∧ A 0 16 = 0 ∧ A 1 11 = I 1 11 + 1 ∧ A 6 = up1 (I 6) (I 1 11).toNat a))) ∧ FRk A JA) (hh : (Ch [50, 51] [0, 1] A B ∧ Kp 49 73 JA JB ∧ RX B ∧ (¬ (0 ≤ a ∧ a < A 51 305) → y = -1 ∧ B 51 = A 51) ∧ ((0 ≤ a ∧ a < A 51 305) → (16 ≤ A 51 309 → y = -5 ∧ B 51 = A 51) ∧ (A 51 309 < 16 → y = A 51 309 + 1 ∧ B 51 = up1 (up1 (A 51) (288 + (A 51 309).toNat) a) 309 (A 51 309 + 1)))) ∧ RGQ9 y A B JA JB) : CPI B JB R S (v + 1) := by
  obtain ⟨hPH, ⟨-, hQF⟩, hOK, hST, hIM, hDR⟩ := id hP
  obtain ⟨h0, fr⟩ := h0
  obtain ⟨hh, qk⟩ := hh
  have g0 : Kp 0 49 I A ∧ Kp 0 49 J JA ∧ CX A ∧ Fw [6, 33, 48] [(0, 16), (1, 11)] I A ∧ (¬ (0 ≤ a ∧ a < I 1 6) → x = -1 ∧ RFc I A (-1)) ∧ ((0 ≤ a ∧ a < I 1 6) → (16 ≤ I 1 11 → x = -5 ∧ RFc I A (-5)) ∧ (I 1 11 < 16 → x = I 1 11 + 1 ∧ Fw [6, 33] [(0, 16), (1, 11)] I A ∧ A 0 16 = 0 ∧ A 1 11 = I 1 11 + 1 ∧ A 6 = up1 (I 6) (I 1 11).toNat a)) := h0
  have h1 : Ch [50, 51] [0, 1] A B ∧ Kp 49 73 JA JB ∧ RX B ∧ (¬ (0 ≤ a ∧ a < A 51 305) → y = -1 ∧ B 51 = A 51) ∧ ((0 ≤ a ∧ a < A 51 305) → (16 ≤ A 51 309 → y = -5 ∧ B 51 = A 51) ∧ (A 51 309 < 16 → y = A 51 309 + 1 ∧ B 51 = up1 (up1 (A 51) (288 + (A 51 309).toNat) a) 309 (A 51 309 + 1))) := hh
  have cp := CF_want hPH.1.1 hC g0 h1
  have cg := CG_want hPH.1.2 hC hQ g0 h1
  have ch := CH_want hPH.1 hPH.2 hC g0 h1
  have hph : CPH B R S := ⟨⟨cp.1, cg⟩, ch⟩
  clear cp cg ch g0 h1
  have zz : ∀ k, 49 ≤ k → k < 73 → A k = I k := fun k h1 _ => h0.1 k (by omega)
  have zj : ∀ k, 49 ≤ k → k < 73 → JA k = J k := fun k h1 _ => h0.2.1 k (by omega)
  have z49 := zz 49 (by decide) (by decide)
  have z50 := zz 50 (by decide) (by decide)
  have z51 := zz 51 (by decide) (by decide)
  have z52 := zz 52 (by decide) (by decide)
  have z53 := zz 53 (by decide) (by decide)
  have z61 := zz 61 (by decide) (by decide)
  have z72 := zz 72 (by decide) (by decide)
  have qa : QF A JA v := QF_kp hQF (congrFun z49 1) (congrFun z49 25) z51 z61 (zj 62 (by decide) (by decide)) (Int.le_refl _)
  have yc : ∀ k, k < 49 ∨ 73 ≤ k → B k = A k := Ch_kp hh.1 (by decide)
  have frB : FRk B JB := FRk_kp (a := 49) (b := 73) fr yc hh.2.1 (by decide)
  obtain ⟨⟨⟨q8, q15, q12, q5, q6, q7, q11⟩, tb, -⟩, ⟨⟨q9, q0⟩, -⟩⟩ := id hPH.1
  have x5 := XI_o hC.2.1.1
  have hfu := (RX_o hQ).2.2.2.2.2.2.2.2.2
  have ef : FU (A 51 304) = FU (I 1 5) := by rw [z51, ← q5]
  have e304 : A 51 304 = I 1 5 := by rw [z51, ← q5]
  have e305 : A 51 305 = I 1 6 := by rw [z51, ← q6]
  have e309 : A 51 309 = I 1 11 := by rw [z51, ← q11]
  have e310 : A 51 310 = I 1 9 := by rw [z51, ← q9]
  have e10 : A 49 10 = I 8 1 := (congrFun z49 10).trans q8.symm
  have hd := hh.2.2.2
  rw [e305, e309] at hd
  by_cases hv : 0 ≤ a ∧ a < I 1 6
  · have g := h0.2.2.2.2.2 hv
    have d := hd.2 hv
    by_cases hw : 16 ≤ I 1 11
    · have d := d.1 hw
      have b51 := d.2
      have rf := (g.1 hw).2
      have q := qk.1 (by have := d.1; omega)
      exact ⟨hph, ⟨frB, (QF_tk qa q.2.2.1 q.2.2.2 b51 (by omega))⟩, (OK8_k hOK (fun j _ => congrFun (b51.trans z51) j) ((hh.1.1 52 (by decide) (by decide)).trans z52) ((hh.1.1 53 (by decide) (by decide)).trans z53) (RX_o hQ).2.2.2.2.2.2.2.2.2.2), ⟨(SA8_r hST.1 rf.2.1 rf.2.2 q d.1 yc z50), (TL8_k hST.2 ((congrFun (yc 1 (by decide)) 8).trans (rf.1 1 8 (by decide) (by decide) (by decide))) ((congrFun (yc 1 (by decide)) 10).trans (rf.1 1 10 (by decide) (by decide) (by decide))) ((yc 5 (by decide)).trans (Fw_row rf.1 5 (by decide) (by decide) (by decide))) (fun j _ => congrFun (b51.trans z51) j))⟩, (IM8_k hIM hC rfl ((hh.1.1 52 (by decide) (by decide)).trans z52) (fun k h1 _ => (yc k (Or.inr h1)).trans (h0.1 k (by omega)))), (DR8_k hDR ((congrFun (yc 0 (by decide)) 13).trans (h0.2.2.2.1 0 13 (by decide) (by decide) (by decide))) ((congrFun (yc 0 (by decide)) 14).trans (h0.2.2.2.1 0 14 (by decide) (by decide) (by decide))) ((yc 47 (by decide)).trans (Fw_row h0.2.2.2.1 47 (by decide) (by decide) (by decide))) ((hh.1.2 39 (by decide)).trans (congrFun z49 39)) ((hh.1.2 40 (by decide)).trans (congrFun z49 40)) ((hh.1.1 72 (by decide) (by decide)).trans z72))⟩
    · obtain ⟨d1, db⟩ := d.2 (by omega)
      obtain ⟨g1, gw, g16, -, -⟩ := g.2 (by omega)
      have q := qk.2 (by omega)
      have bo : ∀ j, j < 288 ∨ 304 ≤ j → j ≠ 309 → B 51 j = I 51 j := fun j hj h9 => by rw [db, up1_n _ _ h9, up1_n _ _ (by omega), z51]
      exact ⟨hph, ⟨frB, (QF_tu qa q.2.2.1 q.2.2.2 (Int.le_refl _))⟩, (OK8_k hOK (fun j hj => bo j (by omega) (by omega)) ((hh.1.1 52 (by decide) (by decide)).trans z52) ((hh.1.1 53 (by decide) (by decide)).trans z53) (RX_o hQ).2.2.2.2.2.2.2.2.2.2), ⟨(SA8_a hST.1 g16 (Fw_row gw 48 (by decide) (by decide) (by decide)) q yc z50), (TL8_k hST.2 ((congrFun (yc 1 (by decide)) 8).trans (h0.2.2.2.1 1 8 (by decide) (by decide) (by decide))) ((congrFun (yc 1 (by decide)) 10).trans (h0.2.2.2.1 1 10 (by decide) (by decide) (by decide))) ((yc 5 (by decide)).trans (Fw_row h0.2.2.2.1 5 (by decide) (by decide) (by decide))) (fun j hj => bo j (by omega) (by omega)))⟩, (IM8_k hIM hC rfl ((hh.1.1 52 (by decide) (by decide)).trans z52) (fun k h1 _ => (yc k (Or.inr h1)).trans (h0.1 k (by omega)))), (DR8_k hDR ((congrFun (yc 0 (by decide)) 13).trans (h0.2.2.2.1 0 13 (by decide) (by decide) (by decide))) ((congrFun (yc 0 (by decide)) 14).trans (h0.2.2.2.1 0 14 (by decide) (by decide) (by decide))) ((yc 47 (by decide)).trans (Fw_row h0.2.2.2.1 47 (by decide) (by decide) (by decide))) ((hh.1.2 39 (by decide)).trans (congrFun z49 39)) ((hh.1.2 40 (by decide)).trans (congrFun z49 40)) ((hh.1.1 72 (by decide) (by decide)).trans z72))⟩
  · have g := h0.2.2.2.2.1 hv
    have d := hd.1 hv
    have b51 := d.2
    have rf := g.2
    have q := qk.1 (by have := d.1; omega)
    exact ⟨hph, ⟨frB, (QF_tk qa q.2.2.1 q.2.2.2 b51 (by omega))⟩, (OK8_k hOK (fun j _ => congrFun (b51.trans z51) j) ((hh.1.1 52 (by decide) (by decide)).trans z52) ((hh.1.1 53 (by decide) (by decide)).trans z53) (RX_o hQ).2.2.2.2.2.2.2.2.2.2), ⟨(SA8_r hST.1 rf.2.1 rf.2.2 q d.1 yc z50), (TL8_k hST.2 ((congrFun (yc 1 (by decide)) 8).trans (rf.1 1 8 (by decide) (by decide) (by decide))) ((congrFun (yc 1 (by decide)) 10).trans (rf.1 1 10 (by decide) (by decide) (by decide))) ((yc 5 (by decide)).trans (Fw_row rf.1 5 (by decide) (by decide) (by decide))) (fun j _ => congrFun (b51.trans z51) j))⟩, (IM8_k hIM hC rfl ((hh.1.1 52 (by decide) (by decide)).trans z52) (fun k h1 _ => (yc k (Or.inr h1)).trans (h0.1 k (by omega)))), (DR8_k hDR ((congrFun (yc 0 (by decide)) 13).trans (h0.2.2.2.1 0 13 (by decide) (by decide) (by decide))) ((congrFun (yc 0 (by decide)) 14).trans (h0.2.2.2.1 0 14 (by decide) (by decide) (by decide))) ((yc 47 (by decide)).trans (Fw_row h0.2.2.2.1 47 (by decide) (by decide) (by decide))) ((hh.1.2 39 (by decide)).trans (congrFun z49 39)) ((hh.1.2 40 (by decide)).trans (congrFun z49 40)) ((hh.1.1 72 (by decide) (by decide)).trans z72))⟩
set_option maxHeartbeats 1000000 in
theorem CI8_make {I A B J JA JB : aI1} {R : aR1} {S : aS1} {a b c x y v : Int} (hP : CPI I J R S v) (hC : CI I R S) (hQ : RX I) (h0 : (Kp 0 49 I A ∧ Kp 0 49 J JA ∧ CX A ∧ Fw [3, 18, 19, 20, 21, 22, 23, 24, 25, 26, 27, 28, 29, 30, 33, 37, 38, 39, 40, 41, 42, 43, 44, 45, 48] [(0, 16)] I A ∧ SR A ∧ SRF A ∧ (¬ (1 ≤ a ∧ a ≤ 3 ∧ 2 ≤ b ∧ b ≤ 4 ∧ 0 ≤ c ∧ c ≤ 8) → x = -1 ∧ A 3 = I 3) ∧ ((1 ≤ a ∧ a ≤ 3 ∧ 2 ≤ b ∧ b ≤ 4 ∧ 0 ≤ c ∧ c ≤ 8) → ¬ (a = I 1 5 ∧ b = I 1 6 ∧ ¬ TBX a b c = 0) → x = -3 ∧ A 3 = I 3) ∧ ((1 ≤ a ∧ a ≤ 3 ∧ 2 ≤ b ∧ b ≤ 4 ∧ 0 ≤ c ∧ c ≤ 8) → (a = I 1 5 ∧ b = I 1 6 ∧ ¬ TBX a b c = 0) → x = 0 ∧ ∀ j : Nat, A 3 j = if j < 2 ^ a.toNat then ((gd (S0 b.toNat (2 ^ a.toNat) c.toNat) j : Nat) : Int) else I 3 j) ∧ LSt x I A) ∧ FRk A JA) (hh : (Ch [50, 51, 61, 65, 66] [0, 1, 25, 31] A B ∧ Kp 49 73 JA JB ∧ RX B ∧ (¬ (1 ≤ a ∧ a ≤ 3 ∧ 2 ≤ b ∧ b ≤ 4 ∧ 0 ≤ c ∧ c ≤ 8) → y = -1 ∧ B 51 = A 51) ∧ ((1 ≤ a ∧ a ≤ 3 ∧ 2 ≤ b ∧ b ≤ 4 ∧ 0 ≤ c ∧ c ≤ 8) → ¬ (a = A 51 304 ∧ b = A 51 305 ∧ ¬ TBX a b c = 0) → y = -3 ∧ B 51 = A 51) ∧ ((1 ≤ a ∧ a ≤ 3 ∧ 2 ≤ b ∧ b ≤ 4 ∧ 0 ≤ c ∧ c ≤ 8) → (a = A 51 304 ∧ b = A 51 305 ∧ ¬ TBX a b c = 0) → y = 0 ∧ ∃ c0, cN b.toNat (FU a + 1).toNat c.toNat c0 = 0 ∧ c.toNat ≤ DL b.toNat (dgs b.toNat (FU a + 1).toNat c0) ∧ ∀ j : Nat, B 51 j = if (j : Int) < FU a + 1 then ((gd (dgs b.toNat (FU a + 1).toNat c0) j : Nat) : Int) else A 51 j)) ∧ RGQ9 y A B JA JB) : CPI B JB R S (v + 1) := by
  obtain ⟨hPH, ⟨-, hQF⟩, hOK, hST, hIM, hDR⟩ := id hP
  obtain ⟨h0, fr⟩ := h0
  obtain ⟨hh, qk⟩ := hh
  have g0 : Kp 0 49 I A ∧ Kp 0 49 J JA ∧ CX A ∧ Fw [3, 18, 19, 20, 21, 22, 23, 24, 25, 26, 27, 28, 29, 30, 31, 32, 33, 34, 35, 36, 37, 38, 39, 40, 41, 42, 43, 44, 45, 48] [(0, 16)] I A ∧ SR A ∧ SRF A ∧ (¬ (1 ≤ a ∧ a ≤ 3 ∧ 2 ≤ b ∧ b ≤ 4 ∧ 0 ≤ c ∧ c ≤ 8) → x = -1 ∧ A 3 = I 3) ∧ ((1 ≤ a ∧ a ≤ 3 ∧ 2 ≤ b ∧ b ≤ 4 ∧ 0 ≤ c ∧ c ≤ 8) → ¬ (a = I 1 5 ∧ b = I 1 6 ∧ ¬ TBX a b c = 0) → x = -3 ∧ A 3 = I 3) ∧ ((1 ≤ a ∧ a ≤ 3 ∧ 2 ≤ b ∧ b ≤ 4 ∧ 0 ≤ c ∧ c ≤ 8) → (a = I 1 5 ∧ b = I 1 6 ∧ ¬ TBX a b c = 0) → x = 0 ∧ ∀ j : Nat, A 3 j = if j < 2 ^ a.toNat then ((gd (S0 b.toNat (2 ^ a.toNat) c.toNat) j : Nat) : Int) else I 3 j) := ⟨h0.1, h0.2.1, h0.2.2.1, (Fw_wd h0.2.2.2.1 (by decide) (by decide)), h0.2.2.2.2.1, h0.2.2.2.2.2.1, h0.2.2.2.2.2.2.1, h0.2.2.2.2.2.2.2.1, h0.2.2.2.2.2.2.2.2.1⟩
  have h1 : Ch [50, 51, 61, 65, 66] [0, 1, 25, 31] A B ∧ Kp 49 73 JA JB ∧ RX B ∧ (¬ (1 ≤ a ∧ a ≤ 3 ∧ 2 ≤ b ∧ b ≤ 4 ∧ 0 ≤ c ∧ c ≤ 8) → y = -1 ∧ B 51 = A 51) ∧ ((1 ≤ a ∧ a ≤ 3 ∧ 2 ≤ b ∧ b ≤ 4 ∧ 0 ≤ c ∧ c ≤ 8) → ¬ (a = A 51 304 ∧ b = A 51 305 ∧ ¬ TBX a b c = 0) → y = -3 ∧ B 51 = A 51) ∧ ((1 ≤ a ∧ a ≤ 3 ∧ 2 ≤ b ∧ b ≤ 4 ∧ 0 ≤ c ∧ c ≤ 8) → (a = A 51 304 ∧ b = A 51 305 ∧ ¬ TBX a b c = 0) → y = 0 ∧ ∃ c0, cN b.toNat (FU a + 1).toNat c.toNat c0 = 0 ∧ c.toNat ≤ DL b.toNat (dgs b.toNat (FU a + 1).toNat c0) ∧ ∀ j : Nat, B 51 j = if (j : Int) < FU a + 1 then ((gd (dgs b.toNat (FU a + 1).toNat c0) j : Nat) : Int) else A 51 j) := hh
  have cp := CF_make hPH.1.1 hC (C65_make g0) (R65_make (RX_low hQ h0.1) h1)
  have cg := CG_make hPH.1.2 hC hQ (C65_make g0) (R65_make (RX_low hQ h0.1) h1)
  have ch := CH_make hPH.1 hPH.2 hC g0 h1
  have hph : CPH B R S := ⟨⟨cp.1, cg⟩, ch.1⟩
  clear cp cg ch g0 h1
  have zz : ∀ k, 49 ≤ k → k < 73 → A k = I k := fun k h1 _ => h0.1 k (by omega)
  have zj : ∀ k, 49 ≤ k → k < 73 → JA k = J k := fun k h1 _ => h0.2.1 k (by omega)
  have z49 := zz 49 (by decide) (by decide)
  have z50 := zz 50 (by decide) (by decide)
  have z51 := zz 51 (by decide) (by decide)
  have z52 := zz 52 (by decide) (by decide)
  have z53 := zz 53 (by decide) (by decide)
  have z61 := zz 61 (by decide) (by decide)
  have z72 := zz 72 (by decide) (by decide)
  have qa : QF A JA v := QF_kp hQF (congrFun z49 1) (congrFun z49 25) z51 z61 (zj 62 (by decide) (by decide)) (Int.le_refl _)
  have yc : ∀ k, k < 49 ∨ 73 ≤ k → B k = A k := Ch_kp hh.1 (by decide)
  have frB : FRk B JB := FRk_kp (a := 49) (b := 73) fr yc hh.2.1 (by decide)
  obtain ⟨⟨⟨q8, q15, q12, q5, q6, q7, q11⟩, tb, -⟩, ⟨⟨q9, q0⟩, -⟩⟩ := id hPH.1
  have x5 := XI_o hC.2.1.1
  have hfu := (RX_o hQ).2.2.2.2.2.2.2.2.2
  have ef : FU (A 51 304) = FU (I 1 5) := by rw [z51, ← q5]
  have e304 : A 51 304 = I 1 5 := by rw [z51, ← q5]
  have e305 : A 51 305 = I 1 6 := by rw [z51, ← q6]
  have e309 : A 51 309 = I 1 11 := by rw [z51, ← q11]
  have e310 : A 51 310 = I 1 9 := by rw [z51, ← q9]
  have e10 : A 49 10 = I 8 1 := (congrFun z49 10).trans q8.symm
  have ls := h0.2.2.2.2.2.2.2.2.2
  have hd := hh.2.2.2
  rw [e304, e305] at hd
  by_cases hv : 1 ≤ a ∧ a ≤ 3 ∧ 2 ≤ b ∧ b ≤ 4 ∧ 0 ≤ c ∧ c ≤ 8
  · by_cases hw : a = I 1 5 ∧ b = I 1 6 ∧ ¬ TBX a b c = 0
    · have g := (h0.2.2.2.2.2.2.2.2.1 hv hw).1
      obtain ⟨d1, c0, -, -, d4⟩ := hd.2.2 hv hw
      have l := ls.2 (by omega)
      have q := qk.2 (by omega)
      have hfr := FU_r (n := a) (by omega) (by omega)
      have bo : ∀ j : Nat, 256 ≤ j → B 51 j = I 51 j := fun j hj => by rw [d4 j, if_neg (by omega), z51]
      have ok : OKr (B 51) := ⟨fun l hl => by rw [bo _ (by omega)]; exact hOK.1.1 l hl, fun s hs => by
          rw [bo 304 (by omega), ← q5, ← hw.1] at hs
          rw [bo 305 (by omega), ← q6, ← hw.2.1, d4 s, if_pos (by omega)]
          have h9 := gd_k (k := b.toNat) (N := (FU a + 1).toNat) (c := c0) (s := s) (by omega) (by omega)
          omega, by rw [bo 307 (by omega), bo 304 (by omega)]; exact hOK.1.2.2⟩
      exact ⟨hph, ⟨frB, (QF_tu qa q.2.2.1 q.2.2.2 (Int.le_refl _))⟩, (OK8_n hOK ok ((hh.1.1 52 (by decide) (by decide)).trans z52) ((hh.1.1 53 (by decide) (by decide)).trans z53)), ⟨(SA8_a hST.1 l.1 l.2 q yc z50), (TL8_k hST.2 ((congrFun (yc 1 (by decide)) 8).trans (h0.2.2.2.1 1 8 (by decide) (by decide) (by decide))) ((congrFun (yc 1 (by decide)) 10).trans (h0.2.2.2.1 1 10 (by decide) (by decide) (by decide))) ((yc 5 (by decide)).trans (Fw_row h0.2.2.2.1 5 (by decide) (by decide) (by decide))) (fun j hj => bo j (by omega)))⟩, (IM8_k hIM hC rfl ((hh.1.1 52 (by decide) (by decide)).trans z52) (fun k h1 _ => (yc k (Or.inr h1)).trans (h0.1 k (by omega)))), (DR8_k hDR ((congrFun (yc 0 (by decide)) 13).trans (h0.2.2.2.1 0 13 (by decide) (by decide) (by decide))) ((congrFun (yc 0 (by decide)) 14).trans (h0.2.2.2.1 0 14 (by decide) (by decide) (by decide))) ((yc 47 (by decide)).trans (Fw_row h0.2.2.2.1 47 (by decide) (by decide) (by decide))) ((hh.1.2 39 (by decide)).trans (congrFun z49 39)) ((hh.1.2 40 (by decide)).trans (congrFun z49 40)) ((hh.1.1 72 (by decide) (by decide)).trans z72))⟩
    · have d := hd.2.1 hv hw
      have g := h0.2.2.2.2.2.2.2.1 hv hw
      have b51 := d.2
      have hxy : x = y := by have := d.1; have := g.1; omega
      have l := ls.1 (by have := g.1; omega)
      have q := qk.1 (by have := d.1; omega)
      exact ⟨hph, ⟨frB, (QF_tk qa q.2.2.1 q.2.2.2 b51 (by omega))⟩, (OK8_k hOK (fun j _ => congrFun (b51.trans z51) j) ((hh.1.1 52 (by decide) (by decide)).trans z52) ((hh.1.1 53 (by decide) (by decide)).trans z53) (RX_o hQ).2.2.2.2.2.2.2.2.2.2), ⟨(SA8_r hST.1 l.1 l.2 q hxy.symm yc z50), (TL8_k hST.2 ((congrFun (yc 1 (by decide)) 8).trans (h0.2.2.2.1 1 8 (by decide) (by decide) (by decide))) ((congrFun (yc 1 (by decide)) 10).trans (h0.2.2.2.1 1 10 (by decide) (by decide) (by decide))) ((yc 5 (by decide)).trans (Fw_row h0.2.2.2.1 5 (by decide) (by decide) (by decide))) (fun j _ => congrFun (b51.trans z51) j))⟩, (IM8_k hIM hC rfl ((hh.1.1 52 (by decide) (by decide)).trans z52) (fun k h1 _ => (yc k (Or.inr h1)).trans (h0.1 k (by omega)))), (DR8_k hDR ((congrFun (yc 0 (by decide)) 13).trans (h0.2.2.2.1 0 13 (by decide) (by decide) (by decide))) ((congrFun (yc 0 (by decide)) 14).trans (h0.2.2.2.1 0 14 (by decide) (by decide) (by decide))) ((yc 47 (by decide)).trans (Fw_row h0.2.2.2.1 47 (by decide) (by decide) (by decide))) ((hh.1.2 39 (by decide)).trans (congrFun z49 39)) ((hh.1.2 40 (by decide)).trans (congrFun z49 40)) ((hh.1.1 72 (by decide) (by decide)).trans z72))⟩
  · have d := hd.1 hv
    have g := h0.2.2.2.2.2.2.1 hv
    have b51 := d.2
    have hxy : x = y := by have := d.1; have := g.1; omega
    have l := ls.1 (by have := g.1; omega)
    have q := qk.1 (by have := d.1; omega)
    exact ⟨hph, ⟨frB, (QF_tk qa q.2.2.1 q.2.2.2 b51 (by omega))⟩, (OK8_k hOK (fun j _ => congrFun (b51.trans z51) j) ((hh.1.1 52 (by decide) (by decide)).trans z52) ((hh.1.1 53 (by decide) (by decide)).trans z53) (RX_o hQ).2.2.2.2.2.2.2.2.2.2), ⟨(SA8_r hST.1 l.1 l.2 q hxy.symm yc z50), (TL8_k hST.2 ((congrFun (yc 1 (by decide)) 8).trans (h0.2.2.2.1 1 8 (by decide) (by decide) (by decide))) ((congrFun (yc 1 (by decide)) 10).trans (h0.2.2.2.1 1 10 (by decide) (by decide) (by decide))) ((yc 5 (by decide)).trans (Fw_row h0.2.2.2.1 5 (by decide) (by decide) (by decide))) (fun j _ => congrFun (b51.trans z51) j))⟩, (IM8_k hIM hC rfl ((hh.1.1 52 (by decide) (by decide)).trans z52) (fun k h1 _ => (yc k (Or.inr h1)).trans (h0.1 k (by omega)))), (DR8_k hDR ((congrFun (yc 0 (by decide)) 13).trans (h0.2.2.2.1 0 13 (by decide) (by decide) (by decide))) ((congrFun (yc 0 (by decide)) 14).trans (h0.2.2.2.1 0 14 (by decide) (by decide) (by decide))) ((yc 47 (by decide)).trans (Fw_row h0.2.2.2.1 47 (by decide) (by decide) (by decide))) ((hh.1.2 39 (by decide)).trans (congrFun z49 39)) ((hh.1.2 40 (by decide)).trans (congrFun z49 40)) ((hh.1.1 72 (by decide) (by decide)).trans z72))⟩
set_option maxHeartbeats 1000000 in
theorem CI8_law {I A B J JA JB : aI1} {R R' : aR1} {S S' : aS1} {f : Nat → Int} {N : Nat} {x y v : Int} (hP : CPI I J R S v) (hC : CI I R S) (hQ : RX I) (hN : I 8 1 = N) (h0 : (CI A R' S' ∧ (∀ k, 49 ≤ k → k < 73 → A k = I k ∧ JA k = J k ∧ R' k = R k) ∧ Fw [10, 11, 12, 13, 14, 48] [(0, 16), (1, 9), (8, 1)] I A ∧ R' 7 = R 7 ∧ (∀ k, 73 ≤ k → k < S.length → A k = I k ∧ R' k = R k) ∧ A 8 1 = 0 ∧ SX S S' ∧ (6 ≤ I 1 9 → x = -5 ∧ R' 4 = R 4 ∧ A 1 9 = I 1 9 ∧ A 10 0 = I 10 0) ∧ (I 1 9 < 6 → zCW f N x I A R R' S S')) ∧ LSt x I A ∧ FRk A JA) (hh : (Ch [50, 51, 57, 58, 59] [0, 1, 10, 11, 15, 16, 17, 18] A B ∧ Kp 49 73 JA JB ∧ RX B ∧ B 49 10 = 0 ∧ (A 51 310 = 6 → y = -5 ∧ B 51 = A 51 ∧ B 49 11 = A 49 11) ∧ (¬ A 51 310 = 6 → zRW f N y A B)) ∧ RGQ9 y A B JA JB) : CPI B JB R' S' (v + 1) := by
  obtain ⟨hPH, ⟨-, hQF⟩, hOK, hST, hIM, hDR⟩ := id hP
  obtain ⟨h0, ls, fr⟩ := h0
  obtain ⟨hh, qk⟩ := hh
  have g0 : CI A R' S' ∧ (∀ k, 49 ≤ k → k < 73 → A k = I k ∧ JA k = J k ∧ R' k = R k) ∧ Fw [10, 11, 12, 13, 14, 48] [(0, 16), (1, 9), (8, 1)] I A ∧ R' 7 = R 7 ∧ (∀ k, 73 ≤ k → k < S.length → A k = I k ∧ R' k = R k) ∧ A 8 1 = 0 ∧ SX S S' ∧ (6 ≤ I 1 9 → x = -5 ∧ R' 4 = R 4 ∧ A 1 9 = I 1 9 ∧ A 10 0 = I 10 0) ∧ (I 1 9 < 6 → zCW f N x I A R R' S S') := h0
  have h1 : Ch [50, 51, 57, 58, 59] [0, 1, 10, 11, 15, 16, 17, 18] A B ∧ Kp 49 73 JA JB ∧ RX B ∧ B 49 10 = 0 ∧ (A 51 310 = 6 → y = -5 ∧ B 51 = A 51 ∧ B 49 11 = A 49 11) ∧ (¬ A 51 310 = 6 → zRW f N y A B) := hh
  have cp := CF_law hPH.1.1 hC (C65_law g0) (R65_law (RX_mid hQ (fun k h1 h2 => (h0.2.1 k h1 h2).1)) h1)
  have cg := CG_law hPH.1.2 hC (by have q9 := (XI_o hC.2.1.1).2.2.2.2.2.2.1; have q8 := hN; omega) g0 h1
  have ch := CH_law hPH.1 hPH.2 hC (C65_law g0) (R65_law (RX_mid hQ (fun k h1 h2 => (h0.2.1 k h1 h2).1)) h1)
  have hph : CPH B R' S' := ⟨⟨cp, cg.1⟩, ch⟩
  clear cp cg ch g0 h1
  have zz : ∀ k, 49 ≤ k → k < 73 → A k = I k := fun k h1 h2 => (h0.2.1 k h1 h2).1
  have zj : ∀ k, 49 ≤ k → k < 73 → JA k = J k := fun k h1 h2 => (h0.2.1 k h1 h2).2.1
  have z49 := zz 49 (by decide) (by decide)
  have z50 := zz 50 (by decide) (by decide)
  have z51 := zz 51 (by decide) (by decide)
  have z52 := zz 52 (by decide) (by decide)
  have z53 := zz 53 (by decide) (by decide)
  have z61 := zz 61 (by decide) (by decide)
  have z72 := zz 72 (by decide) (by decide)
  have qa : QF A JA v := QF_kp hQF (congrFun z49 1) (congrFun z49 25) z51 z61 (zj 62 (by decide) (by decide)) (Int.le_refl _)
  have yc : ∀ k, k < 49 ∨ 73 ≤ k → B k = A k := Ch_kp hh.1 (by decide)
  have frB : FRk B JB := FRk_kp (a := 49) (b := 73) fr yc hh.2.1 (by decide)
  obtain ⟨⟨⟨q8, q15, q12, q5, q6, q7, q11⟩, tb, -⟩, ⟨⟨q9, q0⟩, -⟩⟩ := id hPH.1
  have x5 := XI_o hC.2.1.1
  have hfu := (RX_o hQ).2.2.2.2.2.2.2.2.2
  have ef : FU (A 51 304) = FU (I 1 5) := by rw [z51, ← q5]
  have e304 : A 51 304 = I 1 5 := by rw [z51, ← q5]
  have e305 : A 51 305 = I 1 6 := by rw [z51, ← q6]
  have e309 : A 51 309 = I 1 11 := by rw [z51, ← q11]
  have e310 : A 51 310 = I 1 9 := by rw [z51, ← q9]
  have e10 : A 49 10 = I 8 1 := (congrFun z49 10).trans q8.symm
  have g5 := h0.2.2.2.2.2.2.2.1
  have g6 := h0.2.2.2.2.2.2.2.2
  have hd := hh.2.2.2.2
  rw [e310] at hd
  by_cases hv : I 1 9 = 6
  · have g := g5 (by omega)
    have d := hd.1 hv
    have b51 := d.2.1
    have hxy : x = y := by have := d.1; have := g.1; omega
    have l := ls.1 (by have := g.1; omega)
    have q := qk.1 (by have := d.1; omega)
    exact ⟨hph, ⟨frB, (QF_tk qa q.2.2.1 q.2.2.2 b51 (by omega))⟩, (OK8_k hOK (fun j _ => congrFun (b51.trans z51) j) ((hh.1.1 52 (by decide) (by decide)).trans z52) ((hh.1.1 53 (by decide) (by decide)).trans z53) (RX_o hQ).2.2.2.2.2.2.2.2.2.2), ⟨(SA8_r hST.1 l.1 l.2 q hxy.symm yc z50), (TL8_k hST.2 ((congrFun (yc 1 (by decide)) 8).trans (h0.2.2.1 1 8 (by decide) (by decide) (by decide))) ((congrFun (yc 1 (by decide)) 10).trans (h0.2.2.1 1 10 (by decide) (by decide) (by decide))) ((yc 5 (by decide)).trans (Fw_row h0.2.2.1 5 (by decide) (by decide) (by decide))) (fun j _ => congrFun (b51.trans z51) j))⟩, (IM8_k hIM hC h0.2.2.2.1 ((hh.1.1 52 (by decide) (by decide)).trans z52) (fun k h1 h2 => (yc k (Or.inr h1)).trans (h0.2.2.2.2.1 k h1 h2).1)), (DR8_k hDR ((congrFun (yc 0 (by decide)) 13).trans (h0.2.2.1 0 13 (by decide) (by decide) (by decide))) ((congrFun (yc 0 (by decide)) 14).trans (h0.2.2.1 0 14 (by decide) (by decide) (by decide))) ((yc 47 (by decide)).trans (Fw_row h0.2.2.1 47 (by decide) (by decide) (by decide))) ((hh.1.2 39 (by decide)).trans (congrFun z49 39)) ((hh.1.2 40 (by decide)).trans (congrFun z49 40)) ((hh.1.1 72 (by decide) (by decide)).trans z72))⟩
  · have g := g6 (by omega)
    have d := hd.2 hv
    cases ht : zTx f N with
    | inl fp =>
      have g := g.1 fp ht
      have d := d.1 fp ht
      have b51 := d.2.1
      have hxy : x = y := by have := d.1; have := g.1; omega
      have l := ls.1 (by have := g.1; omega)
      have q := qk.1 (by have := d.1; omega)
      exact ⟨hph, ⟨frB, (QF_tk qa q.2.2.1 q.2.2.2 b51 (by omega))⟩, (OK8_k hOK (fun j _ => congrFun (b51.trans z51) j) ((hh.1.1 52 (by decide) (by decide)).trans z52) ((hh.1.1 53 (by decide) (by decide)).trans z53) (RX_o hQ).2.2.2.2.2.2.2.2.2.2), ⟨(SA8_r hST.1 l.1 l.2 q hxy.symm yc z50), (TL8_k hST.2 ((congrFun (yc 1 (by decide)) 8).trans (h0.2.2.1 1 8 (by decide) (by decide) (by decide))) ((congrFun (yc 1 (by decide)) 10).trans (h0.2.2.1 1 10 (by decide) (by decide) (by decide))) ((yc 5 (by decide)).trans (Fw_row h0.2.2.1 5 (by decide) (by decide) (by decide))) (fun j _ => congrFun (b51.trans z51) j))⟩, (IM8_k hIM hC h0.2.2.2.1 ((hh.1.1 52 (by decide) (by decide)).trans z52) (fun k h1 h2 => (yc k (Or.inr h1)).trans (h0.2.2.2.2.1 k h1 h2).1)), (DR8_k hDR ((congrFun (yc 0 (by decide)) 13).trans (h0.2.2.1 0 13 (by decide) (by decide) (by decide))) ((congrFun (yc 0 (by decide)) 14).trans (h0.2.2.1 0 14 (by decide) (by decide) (by decide))) ((yc 47 (by decide)).trans (Fw_row h0.2.2.1 47 (by decide) (by decide) (by decide))) ((hh.1.2 39 (by decide)).trans (congrFun z49 39)) ((hh.1.2 40 (by decide)).trans (congrFun z49 40)) ((hh.1.1 72 (by decide) (by decide)).trans z72))⟩
    | inr qs =>
      have g := g.2 qs ht
      have d := d.2 qs ht
      have l := ls.2 (by have := g.1; omega)
      have q := qk.2 (by have := d.1; omega)
      have bo : ∀ j : Nat, j < 310 → B 51 j = I 51 j := fun j hj => ((R65_law (RX_mid hQ zz) hh).2.2.2.2 j hj).trans (congrFun z51 j)
      exact ⟨hph, ⟨frB, (QF_tu qa q.2.2.1 q.2.2.2 (Int.le_refl _))⟩, (OK8_k hOK (fun j hj => bo j (by omega)) ((hh.1.1 52 (by decide) (by decide)).trans z52) ((hh.1.1 53 (by decide) (by decide)).trans z53) (RX_o hQ).2.2.2.2.2.2.2.2.2.2), ⟨(SA8_a hST.1 l.1 l.2 q yc z50), (TL8_k hST.2 ((congrFun (yc 1 (by decide)) 8).trans (h0.2.2.1 1 8 (by decide) (by decide) (by decide))) ((congrFun (yc 1 (by decide)) 10).trans (h0.2.2.1 1 10 (by decide) (by decide) (by decide))) ((yc 5 (by decide)).trans (Fw_row h0.2.2.1 5 (by decide) (by decide) (by decide))) (fun j hj => bo j (by omega)))⟩, (IM8_k hIM hC h0.2.2.2.1 ((hh.1.1 52 (by decide) (by decide)).trans z52) (fun k h1 h2 => (yc k (Or.inr h1)).trans (h0.2.2.2.2.1 k h1 h2).1)), (DR8_k hDR ((congrFun (yc 0 (by decide)) 13).trans (h0.2.2.1 0 13 (by decide) (by decide) (by decide))) ((congrFun (yc 0 (by decide)) 14).trans (h0.2.2.1 0 14 (by decide) (by decide) (by decide))) ((yc 47 (by decide)).trans (Fw_row h0.2.2.1 47 (by decide) (by decide) (by decide))) ((hh.1.2 39 (by decide)).trans (congrFun z49 39)) ((hh.1.2 40 (by decide)).trans (congrFun z49 40)) ((hh.1.1 72 (by decide) (by decide)).trans z72))⟩
set_option maxHeartbeats 1000000 in
theorem CI8_image {I A B J JA JB : aI1} {R R' : aR1} {S S' : aS1} {a x y v : Int} (hP : CPI I J R S v) (hC : CI I R S) (hQ : RX I) (h0 : (CI A R' S' ∧ (∀ k, 49 ≤ k → k < 73 → A k = I k ∧ JA k = J k ∧ R' k = R k) ∧ Fw [48] [(0, 16)] I A ∧ (¬ (0 ≤ a ∧ a < 2) → x = -1 ∧ RFc I A (-1)) ∧ (¬ (0 ≤ a ∧ a < 2) → R' 7 = R 7 ∧ R' 4 = R 4 ∧ (∀ k, 73 ≤ k → A k = I k ∧ R' k = R k)) ∧ ((0 ≤ a ∧ a < 2) → x = 0 ∧ Fw [] [(0, 16)] I A ∧ A 0 16 = 0 ∧ ∃ c, R' 7 a.toNat = some c ∧ ImC I A R R' c ∧ (∀ j, j ≠ a.toNat → R' 7 j = R 7 j) ∧ (∀ j, j < 2 → j ≠ a.toNat → ∀ c', R 7 j = some c' → (∀ k, k < 6 → A (c' + k) = I (c' + k)) ∧ R' (c' + 3) = R (c' + 3)) ∧ ((R 7 a.toNat = some c ∧ R' 7 = R 7) ∨ c = S.length) ∧ R' 4 = R 4 ∧ (∀ k, 73 ≤ k → k < S.length → (k < c ∨ c + 6 ≤ k) → A k = I k ∧ R' k = R k)) ∧ SX S S') ∧ FRk A JA) (hh : (Ch [50, 52, 53] [0, 1] A B ∧ Kp 49 73 JA JB ∧ RX B ∧ (¬ (0 ≤ a ∧ a < 2) → y = -1 ∧ B 53 = A 53 ∧ B 52 = A 52) ∧ ((0 ≤ a ∧ a < 2) → y = 0 ∧ B 53 = up1 (A 53) a.toNat 1 ∧ (∀ j : Nat, j < 5117 → B 52 (5117 * a.toNat + j) = A 51 j) ∧ (∀ b : Nat, (b < 5117 * a.toNat ∨ 5117 * a.toNat + 5117 ≤ b) → B 52 b = A 52 b))) ∧ RGQ9 y A B JA JB) : CPI B JB R' S' (v + 1) := by
  obtain ⟨hPH, ⟨-, hQF⟩, hOK, hST, hIM, hDR⟩ := id hP
  obtain ⟨h0, fr⟩ := h0
  obtain ⟨hh, qk⟩ := hh
  have g0 : CI A R' S' ∧ (∀ k, 49 ≤ k → k < 73 → A k = I k ∧ JA k = J k ∧ R' k = R k) ∧ Fw [48] [(0, 16)] I A ∧ (¬ (0 ≤ a ∧ a < 2) → x = -1 ∧ RFc I A (-1)) ∧ (¬ (0 ≤ a ∧ a < 2) → R' 7 = R 7 ∧ R' 4 = R 4 ∧ (∀ k, 73 ≤ k → A k = I k ∧ R' k = R k)) ∧ ((0 ≤ a ∧ a < 2) → x = 0 ∧ Fw [] [(0, 16)] I A ∧ A 0 16 = 0 ∧ ∃ c, R' 7 a.toNat = some c ∧ ImC I A R R' c ∧ (∀ j, j ≠ a.toNat → R' 7 j = R 7 j) ∧ (∀ j, j < 2 → j ≠ a.toNat → ∀ c', R 7 j = some c' → (∀ k, k < 6 → A (c' + k) = I (c' + k)) ∧ R' (c' + 3) = R (c' + 3)) ∧ ((R 7 a.toNat = some c ∧ R' 7 = R 7) ∨ c = S.length) ∧ R' 4 = R 4 ∧ (∀ k, 73 ≤ k → k < S.length → (k < c ∨ c + 6 ≤ k) → A k = I k ∧ R' k = R k)) ∧ SX S S' := h0
  have h1 : Ch [50, 52, 53] [0, 1] A B ∧ Kp 49 73 JA JB ∧ RX B ∧ (¬ (0 ≤ a ∧ a < 2) → y = -1 ∧ B 53 = A 53 ∧ B 52 = A 52) ∧ ((0 ≤ a ∧ a < 2) → y = 0 ∧ B 53 = up1 (A 53) a.toNat 1 ∧ (∀ j : Nat, j < 5117 → B 52 (5117 * a.toNat + j) = A 51 j) ∧ (∀ b : Nat, (b < 5117 * a.toNat ∨ 5117 * a.toNat + 5117 ≤ b) → B 52 b = A 52 b)) := hh
  have cp := CF_image hPH.1.1 hC (C65_image g0) h1
  have cg := CG_image hPH.1.2 hC g0 h1
  have ch := CH_image hPH.1 hPH.2 hC g0 h1
  have hph : CPH B R' S' := ⟨⟨cp.1, cg⟩, ch⟩
  clear cp cg ch g0 h1
  have zz : ∀ k, 49 ≤ k → k < 73 → A k = I k := fun k h1 h2 => (h0.2.1 k h1 h2).1
  have zj : ∀ k, 49 ≤ k → k < 73 → JA k = J k := fun k h1 h2 => (h0.2.1 k h1 h2).2.1
  have z49 := zz 49 (by decide) (by decide)
  have z50 := zz 50 (by decide) (by decide)
  have z51 := zz 51 (by decide) (by decide)
  have z52 := zz 52 (by decide) (by decide)
  have z53 := zz 53 (by decide) (by decide)
  have z61 := zz 61 (by decide) (by decide)
  have z72 := zz 72 (by decide) (by decide)
  have qa : QF A JA v := QF_kp hQF (congrFun z49 1) (congrFun z49 25) z51 z61 (zj 62 (by decide) (by decide)) (Int.le_refl _)
  have yc : ∀ k, k < 49 ∨ 73 ≤ k → B k = A k := Ch_kp hh.1 (by decide)
  have frB : FRk B JB := FRk_kp (a := 49) (b := 73) fr yc hh.2.1 (by decide)
  obtain ⟨⟨⟨q8, q15, q12, q5, q6, q7, q11⟩, tb, -⟩, ⟨⟨q9, q0⟩, -⟩⟩ := id hPH.1
  have x5 := XI_o hC.2.1.1
  have hfu := (RX_o hQ).2.2.2.2.2.2.2.2.2
  have b51 : B 51 = A 51 := hh.1.1 51 (by decide) (by decide)
  by_cases hv : 0 ≤ a ∧ a < 2
  · obtain ⟨-, gw, g16, c0, r1, ic, r2, r3, r4, e4, hk⟩ := h0.2.2.2.2.2.1 hv
    obtain ⟨d1, d2, d3, d4⟩ := hh.2.2.2.2 hv
    have q := qk.2 (by omega)
    have hfa : FU (A 51 304) ≤ 255 := by rw [z51]; exact (RX_o hQ).2.2.2.2.2.2.2.2.2.2
    have ok : OK8 B := ⟨OKr_k hOK.1 (fun j _ => congrFun (b51.trans z51) j) (by rw [b51, z51]; exact hOK.1.2.2) (by rw [b51, z51]; omega), fun i hi h9 => by
      by_cases e9 : i = a.toNat
      · rw [e9]
        exact OKr_e (f := A 51) (by rw [z51]; exact hOK.1) d3 hfa
      · have h8 : I 53 i ≠ 0 := by
          rw [d2, up1_n _ _ e9, z53] at h9
          exact h9
        exact OKr_e (hOK.2 i hi h8) (fun j hj => by rw [d4 _ (by omega), z52]) (RX_i hQ hi h8)⟩
    have im : IM8 B R' := fun i hi c hc => by
      have h73 := (h0.1.2.2.2 i hi c hc).1
      rw [yc c (by omega), yc (c + 4) (by omega)]
      by_cases e9 : i = a.toNat
      · subst e9
        rw [r1] at hc
        cases hc
        rw [d3 307 (by decide), d3 308 (by decide), ic.1 8 (by decide) (by decide), ic.1 10 (by decide) (by decide), z51]
        exact ⟨hST.2.1, hST.2.2.1, fun j hj h9 => by rw [d3 _ (by omega), ic.2.2.2.1 j hj, z51]; exact hST.2.2.2 j hj h9⟩
      · rw [r2 i e9] at hc
        obtain ⟨o1, -⟩ := r3 i hi e9 c hc
        have o0 : A c = I c := o1 0 (by decide)
        rw [o0, o1 4 (by decide), d4 _ (by omega), d4 _ (by omega), z52]
        obtain ⟨m1, m2, m3⟩ := hIM i hi c hc
        exact ⟨m1, m2, fun j hj h9 => by rw [d4 _ (by omega), z52]; exact m3 j hj h9⟩
    exact ⟨hph, ⟨frB, (QF_tu qa q.2.2.1 q.2.2.2 (Int.le_refl _))⟩, ok, ⟨(SA8_a hST.1 g16 (Fw_row gw 48 (by decide) (by decide) (by decide)) q yc z50), (TL8_k hST.2 ((congrFun (yc 1 (by decide)) 8).trans (h0.2.2.1 1 8 (by decide) (by decide) (by decide))) ((congrFun (yc 1 (by decide)) 10).trans (h0.2.2.1 1 10 (by decide) (by decide) (by decide))) ((yc 5 (by decide)).trans (Fw_row h0.2.2.1 5 (by decide) (by decide) (by decide))) (fun j _ => congrFun (b51.trans z51) j))⟩, im, (DR8_k hDR ((congrFun (yc 0 (by decide)) 13).trans (h0.2.2.1 0 13 (by decide) (by decide) (by decide))) ((congrFun (yc 0 (by decide)) 14).trans (h0.2.2.1 0 14 (by decide) (by decide) (by decide))) ((yc 47 (by decide)).trans (Fw_row h0.2.2.1 47 (by decide) (by decide) (by decide))) ((hh.1.2 39 (by decide)).trans (congrFun z49 39)) ((hh.1.2 40 (by decide)).trans (congrFun z49 40)) ((hh.1.1 72 (by decide) (by decide)).trans z72))⟩
  · have g := h0.2.2.2.1 hv
    have sm := h0.2.2.2.2.1 hv
    have d := (hh.2.2.2.1 hv)
    have q := qk.1 (by have := d.1; omega)
    have rf := g.2
    exact ⟨hph, ⟨frB, (QF_tk qa q.2.2.1 q.2.2.2 b51 (by omega))⟩, (OK8_k hOK (fun j _ => congrFun (b51.trans z51) j) (d.2.2.trans z52) (d.2.1.trans z53) (RX_o hQ).2.2.2.2.2.2.2.2.2.2), ⟨(SA8_r hST.1 rf.2.1 rf.2.2 q d.1 yc z50), (TL8_k hST.2 ((congrFun (yc 1 (by decide)) 8).trans (h0.2.2.1 1 8 (by decide) (by decide) (by decide))) ((congrFun (yc 1 (by decide)) 10).trans (h0.2.2.1 1 10 (by decide) (by decide) (by decide))) ((yc 5 (by decide)).trans (Fw_row h0.2.2.1 5 (by decide) (by decide) (by decide))) (fun j _ => congrFun (b51.trans z51) j))⟩, (IM8_k hIM hC sm.1 (d.2.2.trans z52) (fun k h1 _ => (yc k (Or.inr h1)).trans (sm.2.2 k h1).1)), (DR8_k hDR ((congrFun (yc 0 (by decide)) 13).trans (h0.2.2.1 0 13 (by decide) (by decide) (by decide))) ((congrFun (yc 0 (by decide)) 14).trans (h0.2.2.1 0 14 (by decide) (by decide) (by decide))) ((yc 47 (by decide)).trans (Fw_row h0.2.2.1 47 (by decide) (by decide) (by decide))) ((hh.1.2 39 (by decide)).trans (congrFun z49 39)) ((hh.1.2 40 (by decide)).trans (congrFun z49 40)) ((hh.1.1 72 (by decide) (by decide)).trans z72))⟩
set_option maxHeartbeats 1000000 in
theorem CI8_back {I A B J JA JB : aI1} {R R' : aR1} {S S' : aS1} {a x y v : Int} (hP : CPI I J R S v) (hC : CI I R S) (hQ : RX I) (h0 : (CI A R' S' ∧ (∀ k, 49 ≤ k → k < 73 → A k = I k ∧ JA k = J k ∧ R' k = R k) ∧ Fw [1, 2, 3, 5, 6, 18, 19, 20, 21, 22, 23, 24, 25, 26, 27, 28, 29, 30, 31, 32, 33, 34, 35, 36, 48] [(0, 16)] I A ∧ (¬ (0 ≤ a ∧ a < 2) → x = -1 ∧ RFc I A (-1)) ∧ (¬ (0 ≤ a ∧ a < 2) → R' 7 = R 7 ∧ R' 4 = R 4 ∧ (∀ k, 73 ≤ k → A k = I k ∧ R' k = R k)) ∧ ((0 ≤ a ∧ a < 2) → R 7 a.toNat = none → x = -2 ∧ RFc I A (-2) ∧ R' 7 = R 7 ∧ R' 4 = R 4 ∧ (∀ k, 73 ≤ k → A k = I k ∧ R' k = R k)) ∧ ((0 ≤ a ∧ a < 2) → ∀ c, R 7 a.toNat = some c → x = 0 ∧ Fw [1, 2, 3, 5, 6, 18, 19, 20, 21, 22, 23, 24, 25, 26, 27, 28, 29, 30, 31, 32, 33, 34, 35, 36] [(0, 16)] I A ∧ A 0 16 = 0 ∧ BkC I A R R' c ∧ R' 7 = R 7 ∧ (∀ k, 73 ≤ k → A k = I k ∧ R' k = R k)) ∧ S = S') ∧ FRk A JA) (hh : (Ch [50, 51] [0, 1] A B ∧ Kp 49 73 JA JB ∧ RX B ∧ (¬ (0 ≤ a ∧ a < 2) → y = -1 ∧ B 51 = A 51) ∧ ((0 ≤ a ∧ a < 2) → (A 53 a.toNat = 0 → y = -2 ∧ B 51 = A 51) ∧ (¬ A 53 a.toNat = 0 → y = 0 ∧ ∀ j : Nat, j < 5117 → B 51 j = A 52 (5117 * a.toNat + j)))) ∧ RGQ9 y A B JA JB) : CPI B JB R' S' (v + 1) := by
  obtain ⟨hPH, ⟨-, hQF⟩, hOK, hST, hIM, hDR⟩ := id hP
  obtain ⟨h0, fr⟩ := h0
  obtain ⟨hh, qk⟩ := hh
  have g0 : CI A R' S' ∧ (∀ k, 49 ≤ k → k < 73 → A k = I k ∧ JA k = J k ∧ R' k = R k) ∧ Fw [1, 2, 3, 5, 6, 18, 19, 20, 21, 22, 23, 24, 25, 26, 27, 28, 29, 30, 31, 32, 33, 34, 35, 36, 48] [(0, 16)] I A ∧ (¬ (0 ≤ a ∧ a < 2) → x = -1 ∧ RFc I A (-1)) ∧ (¬ (0 ≤ a ∧ a < 2) → R' 7 = R 7 ∧ R' 4 = R 4 ∧ (∀ k, 73 ≤ k → A k = I k ∧ R' k = R k)) ∧ ((0 ≤ a ∧ a < 2) → R 7 a.toNat = none → x = -2 ∧ RFc I A (-2) ∧ R' 7 = R 7 ∧ R' 4 = R 4 ∧ (∀ k, 73 ≤ k → A k = I k ∧ R' k = R k)) ∧ ((0 ≤ a ∧ a < 2) → ∀ c, R 7 a.toNat = some c → x = 0 ∧ Fw [1, 2, 3, 5, 6, 18, 19, 20, 21, 22, 23, 24, 25, 26, 27, 28, 29, 30, 31, 32, 33, 34, 35, 36] [(0, 16)] I A ∧ A 0 16 = 0 ∧ BkC I A R R' c ∧ R' 7 = R 7 ∧ (∀ k, 73 ≤ k → A k = I k ∧ R' k = R k)) ∧ S = S' := h0
  have h1 : Ch [50, 51] [0, 1] A B ∧ Kp 49 73 JA JB ∧ RX B ∧ (¬ (0 ≤ a ∧ a < 2) → y = -1 ∧ B 51 = A 51) ∧ ((0 ≤ a ∧ a < 2) → (A 53 a.toNat = 0 → y = -2 ∧ B 51 = A 51) ∧ (¬ A 53 a.toNat = 0 → y = 0 ∧ ∀ j : Nat, j < 5117 → B 51 j = A 52 (5117 * a.toNat + j))) := hh
  have cp := CF_back hPH.1.1 hC (C65_back g0) h1
  have cg := CG_back hPH.1.2 hC hPH.1.1.2.2.2.2.2.2.1 g0 h1
  have ch := CH_back hPH.1 hPH.2 hC g0 h1
  have hph : CPH B R' S' := ⟨⟨cp.1, cg⟩, ch⟩
  clear cp cg ch g0 h1
  have zz : ∀ k, 49 ≤ k → k < 73 → A k = I k := fun k h1 h2 => (h0.2.1 k h1 h2).1
  have zj : ∀ k, 49 ≤ k → k < 73 → JA k = J k := fun k h1 h2 => (h0.2.1 k h1 h2).2.1
  have z49 := zz 49 (by decide) (by decide)
  have z50 := zz 50 (by decide) (by decide)
  have z51 := zz 51 (by decide) (by decide)
  have z52 := zz 52 (by decide) (by decide)
  have z53 := zz 53 (by decide) (by decide)
  have z61 := zz 61 (by decide) (by decide)
  have z72 := zz 72 (by decide) (by decide)
  have qa : QF A JA v := QF_kp hQF (congrFun z49 1) (congrFun z49 25) z51 z61 (zj 62 (by decide) (by decide)) (Int.le_refl _)
  have yc : ∀ k, k < 49 ∨ 73 ≤ k → B k = A k := Ch_kp hh.1 (by decide)
  have frB : FRk B JB := FRk_kp (a := 49) (b := 73) fr yc hh.2.1 (by decide)
  obtain ⟨⟨⟨q8, q15, q12, q5, q6, q7, q11⟩, tb, -⟩, ⟨⟨q9, q0⟩, -⟩⟩ := id hPH.1
  have x5 := XI_o hC.2.1.1
  have hfu := (RX_o hQ).2.2.2.2.2.2.2.2.2
  have hHI : HI5 I R := hPH.1.1.2.2.2.2.2.2.1
  by_cases hv : 0 ≤ a ∧ a < 2
  · have d0 := hh.2.2.2.2 hv
    rw [z53] at d0
    have h4 := hHI a.toNat (by omega)
    cases hn : R 7 a.toNat with
    | none =>
      obtain ⟨g1, rf, u3, u4, u5⟩ := h0.2.2.2.2.2.1 hv hn
      have d := d0.1 (h4.mp hn)
      have b51 := d.2
      have q := qk.1 (by have := d.1; omega)
      exact ⟨hph, ⟨frB, (QF_tk qa q.2.2.1 q.2.2.2 b51 (by omega))⟩, (OK8_k hOK (fun j _ => congrFun (b51.trans z51) j) ((hh.1.1 52 (by decide) (by decide)).trans z52) ((hh.1.1 53 (by decide) (by decide)).trans z53) (RX_o hQ).2.2.2.2.2.2.2.2.2.2), ⟨(SA8_r hST.1 rf.2.1 rf.2.2 q d.1 yc z50), (TL8_k hST.2 ((congrFun (yc 1 (by decide)) 8).trans (rf.1 1 8 (by decide) (by decide) (by decide))) ((congrFun (yc 1 (by decide)) 10).trans (rf.1 1 10 (by decide) (by decide) (by decide))) ((yc 5 (by decide)).trans (Fw_row rf.1 5 (by decide) (by decide) (by decide))) (fun j _ => congrFun (b51.trans z51) j))⟩, (IM8_k hIM hC u3 ((hh.1.1 52 (by decide) (by decide)).trans z52) (fun k h1 _ => (yc k (Or.inr h1)).trans (u5 k h1).1)), (DR8_k hDR ((congrFun (yc 0 (by decide)) 13).trans (h0.2.2.1 0 13 (by decide) (by decide) (by decide))) ((congrFun (yc 0 (by decide)) 14).trans (h0.2.2.1 0 14 (by decide) (by decide) (by decide))) ((yc 47 (by decide)).trans (Fw_row h0.2.2.1 47 (by decide) (by decide) (by decide))) ((hh.1.2 39 (by decide)).trans (congrFun z49 39)) ((hh.1.2 40 (by decide)).trans (congrFun z49 40)) ((hh.1.1 72 (by decide) (by decide)).trans z72))⟩
    | some c0 =>
      obtain ⟨g1, gw, g16, bk, u5, u6⟩ := h0.2.2.2.2.2.2.1 hv c0 hn
      have h53 : I 53 a.toNat ≠ 0 := fun q9 => by rw [h4.mpr q9] at hn; cases hn
      obtain ⟨d1, d2⟩ := d0.2 h53
      have q := qk.2 (by omega)
      rw [z52] at d2
      have ok : OKr (B 51) := OKr_e (hOK.2 a.toNat (by omega) h53) d2 (RX_i hQ (by omega) h53)
      obtain ⟨m1, m2, m3⟩ := hIM a.toNat (by omega) c0 hn
      have y1 := yc 1 (by decide)
      have e10 : A 1 10 = I c0 10 := bk.1 10 (by decide) (by decide)
      have tl : TL8 B := ⟨by rw [y1, bk.1 8 (by decide) (by decide), d2 307 (by decide)]; exact m1, by rw [y1, e10, d2 308 (by decide)]; exact m2, fun j hj h9 => by rw [y1, e10] at h9; rw [yc 5 (by decide), bk.2.2.2.1 j hj, d2 _ (by omega)]; exact m3 j hj h9⟩
      exact ⟨hph, ⟨frB, (QF_tu qa q.2.2.1 q.2.2.2 (Int.le_refl _))⟩, (OK8_n hOK ok ((hh.1.1 52 (by decide) (by decide)).trans z52) ((hh.1.1 53 (by decide) (by decide)).trans z53)), ⟨(SA8_a hST.1 g16 (Fw_row gw 48 (by decide) (by decide) (by decide)) q yc z50), tl⟩, (IM8_k hIM hC u5 ((hh.1.1 52 (by decide) (by decide)).trans z52) (fun k h1 _ => (yc k (Or.inr h1)).trans (u6 k h1).1)), (DR8_k hDR ((congrFun (yc 0 (by decide)) 13).trans (h0.2.2.1 0 13 (by decide) (by decide) (by decide))) ((congrFun (yc 0 (by decide)) 14).trans (h0.2.2.1 0 14 (by decide) (by decide) (by decide))) ((yc 47 (by decide)).trans (Fw_row h0.2.2.1 47 (by decide) (by decide) (by decide))) ((hh.1.2 39 (by decide)).trans (congrFun z49 39)) ((hh.1.2 40 (by decide)).trans (congrFun z49 40)) ((hh.1.1 72 (by decide) (by decide)).trans z72))⟩
  · obtain ⟨g1, rf⟩ := h0.2.2.2.1 hv
    obtain ⟨e7, e4, ek⟩ := h0.2.2.2.2.1 hv
    have d := hh.2.2.2.1 hv
    have b51 := d.2
    have q := qk.1 (by have := d.1; omega)
    exact ⟨hph, ⟨frB, (QF_tk qa q.2.2.1 q.2.2.2 b51 (by omega))⟩, (OK8_k hOK (fun j _ => congrFun (b51.trans z51) j) ((hh.1.1 52 (by decide) (by decide)).trans z52) ((hh.1.1 53 (by decide) (by decide)).trans z53) (RX_o hQ).2.2.2.2.2.2.2.2.2.2), ⟨(SA8_r hST.1 rf.2.1 rf.2.2 q d.1 yc z50), (TL8_k hST.2 ((congrFun (yc 1 (by decide)) 8).trans (rf.1 1 8 (by decide) (by decide) (by decide))) ((congrFun (yc 1 (by decide)) 10).trans (rf.1 1 10 (by decide) (by decide) (by decide))) ((yc 5 (by decide)).trans (Fw_row rf.1 5 (by decide) (by decide) (by decide))) (fun j _ => congrFun (b51.trans z51) j))⟩, (IM8_k hIM hC e7 ((hh.1.1 52 (by decide) (by decide)).trans z52) (fun k h1 _ => (yc k (Or.inr h1)).trans (ek k h1).1)), (DR8_k hDR ((congrFun (yc 0 (by decide)) 13).trans (h0.2.2.1 0 13 (by decide) (by decide) (by decide))) ((congrFun (yc 0 (by decide)) 14).trans (h0.2.2.1 0 14 (by decide) (by decide) (by decide))) ((yc 47 (by decide)).trans (Fw_row h0.2.2.1 47 (by decide) (by decide) (by decide))) ((hh.1.2 39 (by decide)).trans (congrFun z49 39)) ((hh.1.2 40 (by decide)).trans (congrFun z49 40)) ((hh.1.1 72 (by decide) (by decide)).trans z72))⟩
set_option maxHeartbeats 1000000 in
theorem CI8_send {I A B J JA JB : aI1} {R : aR1} {S : aS1} {a b x y v : Int} (hP : CPI I J R S v) (hC : CI I R S) (hQ : RX I) (h0 : (Kp 0 49 I A ∧ Kp 0 49 J JA ∧ CX A ∧ Fw [5, 18, 19, 20, 21, 22, 23, 24, 25, 26, 27, 28, 29, 30, 48] [(0, 16), (1, 8), (1, 10)] I A ∧ (¬ (0 ≤ a ∧ a < I 1 6 ∧ 0 ≤ b ∧ b ≤ 3) → x = -1 ∧ RFc I A (-1)) ∧ ((0 ≤ a ∧ a < I 1 6 ∧ 0 ≤ b ∧ b ≤ 3) → ∃ o L T, KT b I o L T ∧ SNd (NX (bC b o L T) (I 3) (I 1 7) (I 1 8) (FU (I 1 5) + 1) a) I A x)) ∧ FRk A JA) (hh : Ch [50, 51, 61] [0, 1, 25] A B ∧ Kp 49 73 JA JB ∧ RX B ∧ QF B JB (v + 1) ∧ (¬ (0 ≤ a ∧ a < A 51 305 ∧ 0 ≤ b ∧ b ≤ 3) → y = -1 ∧ B 49 0 = -1 ∧ B 50 = up1 (A 50) 1 (A 50 1 + 1) ∧ B 51 = A 51) ∧ ((0 ≤ a ∧ a < A 51 305 ∧ 0 ≤ b ∧ b ≤ 3) → ∃ L M, zLV (A 51) (A 51 306) (FU (A 51 304) + 1) (A 51 305) (-1) L ∧ MRc (A 51) (A 51 306) (A 51 304) (A 51 305) M ∧ SNr (NX (bR b (A 51 307) (A 51 304) (A 51 305) (A 51) L M) (A 51) (A 51 306) (A 51 307) (FU (A 51 304) + 1) a) A B y)) : CPI B JB R S (v + 1) ∧ x = y := by
  obtain ⟨hPH, ⟨-, hQF⟩, hOK, hST, hIM, hDR⟩ := id hP
  obtain ⟨h0, fr⟩ := h0
  have h308 : 0 ≤ A 51 308 ∧ A 51 308 ≤ 24 := by rw [show A 51 = I 51 from h0.1 51 (by decide)]; exact (RX_o hQ).2.2.2.1
  have hsnd : ∀ j : Nat, (j < 264 ∨ 288 ≤ j) → j ≠ 307 → j ≠ 308 → B 51 j = A 51 j := fun j hj h7 h8 => by
    by_cases hv : 0 ≤ a ∧ a < A 51 305 ∧ 0 ≤ b ∧ b ≤ 3
    · obtain ⟨L, M, -, -, sn⟩ := hh.2.2.2.2.2 hv
      exact SNr_k sn h308 hj h7 h8
    · rw [(hh.2.2.2.2.1 hv).2.2.2]
  have g0 : Kp 0 49 I A ∧ Kp 0 49 J JA ∧ CX A ∧ Fw [5, 18, 19, 20, 21, 22, 23, 24, 25, 26, 27, 28, 29, 30, 31, 32, 33, 34, 35, 36, 48] [(0, 16), (1, 8), (1, 10)] I A ∧ True := ⟨h0.1, h0.2.1, h0.2.2.1, (Fw_wd h0.2.2.2.1 (by decide) (by decide)), trivial⟩
  have h1 : Ch [50, 51, 61] [0, 1, 25] A B ∧ Kp 49 73 JA JB ∧ RX B ∧ (∀ j : Nat, (j < 264 ∨ 288 ≤ j) → j ≠ 307 → j ≠ 308 → B 51 j = A 51 j) := ⟨hh.1, hh.2.1, hh.2.2.1, hsnd⟩
  have cp := CF_send hPH.1.1 hC g0 h1
  have cg := CG_send hPH.1.2 hC hQ g0 h1
  have ch := CH_send hPH.1 hPH.2 hC g0 h1
  have hph : CPH B R S := ⟨⟨cp, cg⟩, ch⟩
  clear cp cg ch g0 h1
  have zz : ∀ k, 49 ≤ k → k < 73 → A k = I k := fun k h1 _ => h0.1 k (by omega)
  have zj : ∀ k, 49 ≤ k → k < 73 → JA k = J k := fun k h1 _ => h0.2.1 k (by omega)
  have z49 := zz 49 (by decide) (by decide)
  have z50 := zz 50 (by decide) (by decide)
  have z51 := zz 51 (by decide) (by decide)
  have z52 := zz 52 (by decide) (by decide)
  have z53 := zz 53 (by decide) (by decide)
  have z61 := zz 61 (by decide) (by decide)
  have z72 := zz 72 (by decide) (by decide)
  have qa : QF A JA v := QF_kp hQF (congrFun z49 1) (congrFun z49 25) z51 z61 (zj 62 (by decide) (by decide)) (Int.le_refl _)
  have yc : ∀ k, k < 49 ∨ 73 ≤ k → B k = A k := Ch_kp hh.1 (by decide)
  have frB : FRk B JB := FRk_kp (a := 49) (b := 73) fr yc hh.2.1 (by decide)
  obtain ⟨⟨⟨q8, q15, q12, q5, q6, q7, q11⟩, tb, -⟩, ⟨⟨q9, q0⟩, -⟩⟩ := id hPH.1
  have x5 := XI_o hC.2.1.1
  have hfu := (RX_o hQ).2.2.2.2.2.2.2.2.2
  have t8 : I 1 8 = I 51 307 := hST.2.1
  have u0 := h0.2.2.2.2
  have u1 := hh.2.2.2.2
  have qf1 := hh.2.2.2.1
  have e305 : A 51 305 = I 1 6 := by rw [z51, ← q6]
  have bo := hsnd
  have b3 : ∀ j, (j < 264 ∨ j = 304 ∨ j = 305) → B 51 j = I 51 j := fun j hj => by rw [hsnd j (by omega) (by omega) (by omega), z51]
  have fin : ∀ (sa : SA8 B) (tl : TL8 B) (e : x = y) (h7 : B 51 307 ≤ FU (I 51 304)), CPI B JB R S (v + 1) ∧ x = y := fun sa tl e h7 => ⟨⟨hph, ⟨frB, qf1⟩, (OK8_n hOK (OKr_k hOK.1 b3 (by rw [b3 304 (by omega)]; exact h7) (by rw [b3 304 (by omega)]; omega)) ((hh.1.1 52 (by decide) (by decide)).trans z52) ((hh.1.1 53 (by decide) (by decide)).trans z53)), ⟨sa, tl⟩, (IM8_k hIM hC rfl ((hh.1.1 52 (by decide) (by decide)).trans z52) (fun k h1 _ => (yc k (Or.inr h1)).trans (h0.1 k (by omega)))), (DR8_k hDR ((congrFun (yc 0 (by decide)) 13).trans (h0.2.2.2.1 0 13 (by decide) (by decide) (by decide))) ((congrFun (yc 0 (by decide)) 14).trans (h0.2.2.2.1 0 14 (by decide) (by decide) (by decide))) ((yc 47 (by decide)).trans (Fw_row h0.2.2.2.1 47 (by decide) (by decide) (by decide))) ((hh.1.2 39 (by decide)).trans (congrFun z49 39)) ((hh.1.2 40 (by decide)).trans (congrFun z49 40)) ((hh.1.1 72 (by decide) (by decide)).trans z72))⟩, e⟩
  by_cases hv : 0 ≤ a ∧ a < I 1 6 ∧ 0 ≤ b ∧ b ≤ 3
  · obtain ⟨o, L, T, kt, sd⟩ := u0.2 hv
    obtain ⟨L', M, zl, mr, sr⟩ := u1.2 (by rw [e305]; exact hv)
    rw [z51, ← q5, ← q6, ← q7] at zl mr
    have sr2 := sr
    rw [z51, ← q5, ← q6, ← q7, ← t8] at sr2
    have hx := NX_p (CP_L hP hC hv.2.2 kt zl mr) (I 1 8) a x5.2.2.1.1 x5.2.2.1.2 hv.1 hv.2.1
    rw [← hx.1] at sr2
    have hnr := NX_r (bt := bC b o L T) (code := I 3) (g := I 1 7) (s := I 1 8) (N := FU (I 1 5) + 1) (x := a) x5.2.2.1.1
    obtain ⟨-, hx0, hx1⟩ := hx
    generalize NX (bC b o L T) (I 3) (I 1 7) (I 1 8) (FU (I 1 5) + 1) a = z at sd sr2 hnr hx0 hx1
    have hfr := FU_r x5.1.1 x5.1.2
    have hz : ¬ z = -1 → bc (i_xor z (I 1 8)) = pcn z.toNat - pcn (I 1 8).toNat := fun hz => by
      rcases hnr with h9 | ⟨n1, n2, -, n3, -⟩
      · exact absurd h9 hz
      · have hs8 := x5.2.2.1
        rw [bcx_pcn (by omega) (by omega) (by omega) (by omega), ← df_sub n3, pcn_df n3]
    obtain ⟨s1, s2, s3, s4⟩ := SN_pr hST.1 hST.2 sd sr2 yc z50 z51 x5.2.2.2.2.1 hz
    refine fin s1 s2 s3 ?_
    rcases s4 with s4 | ⟨-, s4⟩
    · rw [s4, z51]; exact hOK.1.2.2
    · rw [s4, ← q5]; exact hx1
  · obtain ⟨g1, rf⟩ := u0.1 hv
    obtain ⟨d1, d2, d3, d4⟩ := u1.1 (by rw [e305]; exact hv)
    exact fin (SA8_n hST.1 rf.2.1 rf.2.2 d2 d3 (by decide) yc z50) (TL8_k hST.2 ((congrFun (yc 1 (by decide)) 8).trans (rf.1 1 8 (by decide) (by decide) (by decide))) ((congrFun (yc 1 (by decide)) 10).trans (rf.1 1 10 (by decide) (by decide) (by decide))) ((yc 5 (by decide)).trans (Fw_row rf.1 5 (by decide) (by decide) (by decide))) (fun j _ => congrFun (d4.trans z51) j)) (by omega) (by rw [d4, z51]; exact hOK.1.2.2)
set_option maxHeartbeats 1000000 in
theorem CI8_night {I A B J JA JB : aI1} {R : aR1} {S : aS1} {a b c x y v : Int} (hP : CPI I J R S v) (hC : CI I R S) (hQ : RX I) (h0 : (Kp 0 49 I A ∧ Kp 0 49 J JA ∧ CX A ∧ Fw [18, 19, 20, 21, 22, 23, 24, 25, 26, 27, 28, 29, 30, 47, 48] [(0, 13), (0, 14), (0, 16)] I A ∧ (¬ (0 ≤ a ∧ a ≤ 1000000 ∧ 0 ≤ b ∧ b ≤ 24 ∧ 0 ≤ c ∧ c ≤ 3) → x = -1 ∧ RFc I A (-1)) ∧ ((0 ≤ a ∧ a ≤ 1000000 ∧ 0 ≤ b ∧ b ≤ 24 ∧ 0 ≤ c ∧ c ≤ 3) → x = A 0 13 ∧ A 48 = I 48 ∧ A 0 16 = 0 ∧ ∃ o L T, KT c I o L T ∧ NGc (fun s x => NX (bC c o L T) (I 3) (I 1 7) s (FU (I 1 5) + 1) x) a (I 1 6) b (A 47) (A 0 13) (A 0 14))) ∧ FRk A JA) (hh : Ch [50, 61, 72] [0, 1, 25, 39, 40, 41] A B ∧ Kp 49 73 JA JB ∧ RX B ∧ B 51 = A 51 ∧ QF B JB (v + 1) ∧ (¬ (0 ≤ a ∧ a ≤ 1000000 ∧ 0 ≤ b ∧ b ≤ 24 ∧ 0 ≤ c ∧ c ≤ 3) → y = -1 ∧ B 49 0 = -1 ∧ B 50 = up1 (A 50) 1 (A 50 1 + 1) ∧ B 49 39 = A 49 39 ∧ B 49 40 = A 49 40 ∧ B 72 = A 72) ∧ ((0 ≤ a ∧ a ≤ 1000000 ∧ 0 ≤ b ∧ b ≤ 24 ∧ 0 ≤ c ∧ c ≤ 3) → y = B 49 39 ∧ B 49 0 = 0 ∧ B 50 = A 50 ∧ ∃ L M, zLV (A 51) (A 51 306) (FU (A 51 304) + 1) (A 51 305) (-1) L ∧ MRc (A 51) (A 51 306) (A 51 304) (A 51 305) M ∧ NGc (fun s y => NX (bR c s (A 51 304) (A 51 305) (A 51) L M) (A 51) (A 51 306) s (FU (A 51 304) + 1) y) a (A 51 305) b (B 72) (B 49 39) (B 49 40))) : CPI B JB R S (v + 1) ∧ x = y := by
  obtain ⟨hPH, ⟨-, hQF⟩, hOK, hST, hIM, hDR⟩ := id hP
  obtain ⟨h0, fr⟩ := h0
  have g0 : Kp 0 49 I A ∧ Kp 0 49 J JA ∧ CX A ∧ Fw [18, 19, 20, 21, 22, 23, 24, 25, 26, 27, 28, 29, 30, 31, 32, 33, 34, 35, 36, 47, 48] [(0, 13), (0, 14), (0, 16)] I A ∧ True := ⟨h0.1, h0.2.1, h0.2.2.1, (Fw_wd h0.2.2.2.1 (by decide) (by decide)), trivial⟩
  have h1 : Ch [50, 61, 72] [0, 1, 25, 39, 40, 41] A B ∧ Kp 49 73 JA JB ∧ RX B ∧ True := ⟨hh.1, hh.2.1, hh.2.2.1, trivial⟩
  have cp := CF_night hPH.1.1 hC g0 h1
  have cg := CG_night hPH.1.2 hC hQ g0 h1
  have ch := CH_night hPH.1 hPH.2 hC g0 h1
  have hph : CPH B R S := ⟨⟨cp, cg⟩, ch⟩
  clear cp cg ch g0 h1
  have zz : ∀ k, 49 ≤ k → k < 73 → A k = I k := fun k h1 _ => h0.1 k (by omega)
  have zj : ∀ k, 49 ≤ k → k < 73 → JA k = J k := fun k h1 _ => h0.2.1 k (by omega)
  have z49 := zz 49 (by decide) (by decide)
  have z50 := zz 50 (by decide) (by decide)
  have z51 := zz 51 (by decide) (by decide)
  have z52 := zz 52 (by decide) (by decide)
  have z53 := zz 53 (by decide) (by decide)
  have z61 := zz 61 (by decide) (by decide)
  have z72 := zz 72 (by decide) (by decide)
  have qa : QF A JA v := QF_kp hQF (congrFun z49 1) (congrFun z49 25) z51 z61 (zj 62 (by decide) (by decide)) (Int.le_refl _)
  have yc : ∀ k, k < 49 ∨ 73 ≤ k → B k = A k := Ch_kp hh.1 (by decide)
  have frB : FRk B JB := FRk_kp (a := 49) (b := 73) fr yc hh.2.1 (by decide)
  obtain ⟨⟨⟨q8, q15, q12, q5, q6, q7, q11⟩, tb, -⟩, ⟨⟨q9, q0⟩, -⟩⟩ := id hPH.1
  have x5 := XI_o hC.2.1.1
  have hfu := (RX_o hQ).2.2.2.2.2.2.2.2.2
  have u0 := h0.2.2.2.2
  have b51 := hh.2.2.2.1
  have qf1 := hh.2.2.2.2.1
  have u1 := hh.2.2.2.2.2
  have y51 : B 51 = I 51 := b51.trans z51
  have e51 : ∀ j : Nat, B 51 j = I 51 j := fun j => congrFun y51 j
  have fin : ∀ (sa : SA8 B) (dr : DR8 B) (e : x = y), CPI B JB R S (v + 1) ∧ x = y := fun sa dr e => ⟨⟨hph, ⟨frB, qf1⟩, (OK8_k hOK (fun j _ => e51 j) ((hh.1.1 52 (by decide) (by decide)).trans z52) ((hh.1.1 53 (by decide) (by decide)).trans z53) (RX_o hQ).2.2.2.2.2.2.2.2.2.2), ⟨sa, (TL8_k hST.2 ((congrFun (yc 1 (by decide)) 8).trans (h0.2.2.2.1 1 8 (by decide) (by decide) (by decide))) ((congrFun (yc 1 (by decide)) 10).trans (h0.2.2.2.1 1 10 (by decide) (by decide) (by decide))) ((yc 5 (by decide)).trans (Fw_row h0.2.2.2.1 5 (by decide) (by decide) (by decide))) (fun j _ => e51 j))⟩, (IM8_k hIM hC rfl ((hh.1.1 52 (by decide) (by decide)).trans z52) (fun k h1 _ => (yc k (Or.inr h1)).trans (h0.1 k (by omega)))), dr⟩, e⟩
  by_cases hv : 0 ≤ a ∧ a ≤ 1000000 ∧ 0 ≤ b ∧ b ≤ 24 ∧ 0 ≤ c ∧ c ≤ 3
  · obtain ⟨g1, g48, g16, o, L, T, kt, ng⟩ := u0.2 hv
    obtain ⟨d1, d2, d3, L', M, zl, mr, nr⟩ := u1.2 hv
    rw [z51, ← q5, ← q6, ← q7] at zl mr nr
    have np := NX_p (CP_L hP hC hv.2.2.2.2 kt zl mr)
    have hfr := FU_r x5.1.1 x5.1.2
    have ng2 := NGc_cg (by have := x5.2.1.1; omega) (by omega) (fun s x h0 h1 h2 h3 => ⟨(np s x h0 h1 h2 h3).1, (np s x h0 h1 h2 h3).2.2⟩) ng
    obtain ⟨n1, n2, n3⟩ := NGc_un ng2 nr
    have y0 := yc 0 (by decide)
    have y47 := yc 47 (by decide)
    refine fin ⟨by rw [y0, g16, d2], fun j hj => by rw [yc 48 (by decide), g48, d3, z50]; exact hST.1.2 j hj⟩ (Or.inr ⟨by rw [y0]; exact n1.symm, by rw [y0]; exact n2.symm, fun j hj => ?_⟩) (by omega)
    rw [y0] at hj
    rw [y47]
    exact n3 j hj
  · obtain ⟨g1, rf⟩ := u0.1 hv
    obtain ⟨d1, d2, d3, d4, d5, d6⟩ := u1.1 hv
    exact fin (SA8_n hST.1 rf.2.1 rf.2.2 d2 d3 (by decide) yc z50) (DR8_k hDR ((congrFun (yc 0 (by decide)) 13).trans (rf.1 0 13 (by decide) (by decide) (by decide))) ((congrFun (yc 0 (by decide)) 14).trans (rf.1 0 14 (by decide) (by decide) (by decide))) ((yc 47 (by decide)).trans (Fw_row rf.1 47 (by decide) (by decide) (by decide))) (d4.trans (congrFun z49 39)) (d5.trans (congrFun z49 40)) (d6.trans z72)) (by omega)
