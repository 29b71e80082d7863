/-! the coupling of all that is told, kept and drawn -/
/-- OIL and CODE are in range, what is LIT too -/
def OKr (k : Nat → Int) : Prop := (∀ l, l < 8 → 0 ≤ k (256 + l) ∧ k (256 + l) ≤ 99) ∧ (∀ s : Nat, (s : Int) ≤ FU (k 304) → -1 ≤ k s ∧ k s < k 305) ∧ k 307 ≤ FU (k 304)
def OK8 (I : aI1) : Prop := OKr (I 51) ∧ ∀ i, i < 2 → I 53 i ≠ 0 → OKr (fun j => I 52 (5117 * i + j))
/-- status and refusals are the same -/
def SA8 (I : aI1) : Prop := I 0 16 = I 49 0 ∧ ∀ j, j < 7 → I 48 j = I 50 j
/-- what is LIT, the LOG -/
def TL8 (I : aI1) : Prop := I 1 8 = I 51 307 ∧ I 1 10 = I 51 308 ∧ ∀ j : Nat, j < 24 → (j : Int) < I 1 10 → I 5 j = I 51 (264 + j)
def IM8 (I : aI1) (R : aR1) : Prop := ∀ i, i < 2 → ∀ c, R 7 i = some c → I c 8 = I 52 (5117 * i + 307) ∧ I c 10 = I 52 (5117 * i + 308) ∧ ∀ j : Nat, j < 24 → (j : Int) < I c 10 → I (c + 4) j = I 52 (5117 * i + (264 + j))
/-- the DRAWN NIGHT -/
def DR8 (I : aI1) : Prop := (I 49 39 = -1 ∧ I 0 13 = 0 ∧ I 0 14 = -1) ∨ (I 49 39 = I 0 13 ∧ I 49 40 = I 0 14 ∧ ∀ j : Nat, (j : Int) < I 0 13 → I 47 j = I 72 j)
def CPI (I J : aI1) (R : aR1) (S : aS1) (v : Int) : Prop := CPH I R S ∧ (FRk I J ∧ QF I J v) ∧ OK8 I ∧ (SA8 I ∧ TL8 I) ∧ IM8 I R ∧ DR8 I
theorem QF_mn {I J : aI1} {v w : Int} (h : QF I J v) (hv : v ≤ w) : QF I J w := QF_kp h rfl rfl rfl rfl rfl hv
theorem CPI_mn {I J : aI1} {R : aR1} {S : aS1} {v w : Int} (h : CPI I J R S v) (hv : v ≤ w) : CPI I J R S w := ⟨h.1, ⟨h.2.1.1, QF_mn h.2.1.2 hv⟩, h.2.2⟩
theorem OKr_k {f g : Nat → Int} (h : OKr f) (e : ∀ j, (j < 264 ∨ j = 304 ∨ j = 305) → g j = f j) (e7 : g 307 ≤ FU (g 304)) (hn : 0 ≤ FU (g 304) ∧ FU (g 304) ≤ 255) : OKr g :=
  ⟨fun l hl => by rw [e _ (by omega)]; exact h.1 l hl, fun s hs => by rw [e s (by omega), e 305 (by omega)]; exact h.2.1 s (by rw [← e 304 (by omega)]; exact hs), e7⟩
theorem OK8_n {I B : aI1} (h : OK8 I) (n : OKr (B 51)) (e52 : B 52 = I 52) (e53 : B 53 = I 53) : OK8 B :=
  ⟨n, fun i hi h9 => by rw [e53] at h9; rw [e52]; exact h.2 i hi h9⟩
theorem OK8_k {I B : aI1} (h : OK8 I) (e : ∀ j, (j < 264 ∨ j = 304 ∨ j = 305 ∨ j = 307) → B 51 j = I 51 j) (e52 : B 52 = I 52) (e53 : B 53 = I 53) (hn : FU (I 51 304) ≤ 255) : OK8 B :=
  OK8_n h ⟨fun l hl => by rw [e _ (by omega)]; exact h.1.1 l hl, fun s hs => by
    rw [e 304 (by omega)] at hs
    rw [e s (by omega), e 305 (by omega)]
    exact h.1.2.1 s hs, by rw [e 307 (by omega), e 304 (by omega)]; exact h.1.2.2⟩ e52 e53
theorem SA8_k {I B : aI1} (h : SA8 I) (e0 : B 0 16 = I 0 16) (e48 : B 48 = I 48) (f0 : B 49 0 = I 49 0) (e50 : B 50 = I 50) : SA8 B :=
  ⟨by rw [e0, f0]; exact h.1, fun j hj => by rw [e48, e50]; exact h.2 j hj⟩
theorem SA8_r {I A B JA JB : aI1} {k y : Int} (h : SA8 I) (a0 : A 0 16 = k) (a48 : A 48 = up1 (I 48) (-k).toNat (I 48 (-k).toNat + 1)) (q : RQ9 y A B JA JB) (e : y = k) (lo : ∀ j, j < 49 ∨ 73 ≤ j → B j = A j) (z50 : A 50 = I 50) : SA8 B := by
  subst e
  refine ⟨by rw [lo 0 (by decide), a0, q.1], fun j hj => ?_⟩
  rw [lo 48 (by decide), a48, q.2.1, z50]
  by_cases e9 : j = (-y).toNat
  · rw [e9, up1_s, up1_s, h.2 _ (by omega)]
  · rw [up1_n _ _ e9, up1_n _ _ e9]
    exact h.2 j hj
theorem SA8_a {I A B : aI1} (h : SA8 I) (a0 : A 0 16 = 0) (a48 : A 48 = I 48) (q : GQ9 A B) (lo : ∀ j, j < 49 ∨ 73 ≤ j → B j = A j) (z50 : A 50 = I 50) : SA8 B :=
  ⟨by rw [lo 0 (by decide), a0, q.1], fun j hj => by rw [lo 48 (by decide), a48, q.2.1, z50]; exact h.2 j hj⟩
theorem TL8_k {I B : aI1} (h : TL8 I) (e8 : B 1 8 = I 1 8) (e10 : B 1 10 = I 1 10) (e5 : B 5 = I 5) (e : ∀ j, ((264 ≤ j ∧ j < 288) ∨ j = 307 ∨ j = 308) → B 51 j = I 51 j) : TL8 B :=
  ⟨by rw [e8, e 307 (by omega)]; exact h.1, by rw [e10, e 308 (by omega)]; exact h.2.1, fun j hj h9 => by rw [e5, e _ (by omega)]; exact h.2.2 j hj (by omega)⟩
theorem TL8_0 {B : aI1} (e8 : B 1 8 = 0) (e10 : B 1 10 = 0) (b7 : B 51 307 = 0) (b8 : B 51 308 = 0) : TL8 B := ⟨by rw [e8, b7], by rw [e10, b8], fun j _ h9 => absurd h9 (by omega)⟩
theorem IM8_k {I B : aI1} {R R' : aR1} {S : aS1} (h : IM8 I R) (hC : CI I R S) (r7 : R' 7 = R 7) (e52 : B 52 = I 52) (hk : ∀ k, 73 ≤ k → k < S.length → B k = I k) : IM8 B R' := fun i hi c hc => by
  rw [r7] at hc
  obtain ⟨k1, k2, k3⟩ := coast_lt (hC.2.2.2 i hi c hc)
  rw [hk c (by omega) (by omega), hk (c + 4) (by omega) (by omega), e52]
  exact h i hi c hc
theorem DR8_k {I B : aI1} (h : DR8 I) (d13 : B 0 13 = I 0 13) (d14 : B 0 14 = I 0 14) (e47 : B 47 = I 47) (f39 : B 49 39 = I 49 39) (f40 : B 49 40 = I 49 40) (e72 : B 72 = I 72) : DR8 B := by
  unfold DR8
  rw [d13, d14, e47, f39, f40, e72]
  exact h
theorem cnR_0 (F : Nat → Int) : ∀ n, 0 ≤ cnR F n
  | 0 => Int.le_refl 0
  | n + 1 => by
    have h := cnR_0 F n
    have e := cnR_s F (i := (n : Int)) (by omega)
    rw [show ((n : Int) + 1).toNat = n + 1 by omega, show ((n : Int)).toNat = n by omega] at e
    rw [e]
    split <;> omega
theorem zGv_k {K : Int} {r : Option Int} (h0 : 0 ≤ K) : -1 ≤ zGv K r ∧ zGv K r < K := by
  cases r with
  | none => exact ⟨Int.le_refl _, by show (-1 : Int) < K; omega⟩
  | some x =>
    show -1 ≤ (if 0 ≤ x ∧ x < K then x else -1) ∧ (if 0 ≤ x ∧ x < K then x else -1) < K
    split <;> omega
theorem gd_k {k N c s : Nat} (hk : 0 < k) (hs : s < N) : gd (dgs k N c) s < k := by
  unfold dgs
  rw [(mkL_v (dg k N c) N []).2.1 s hs]
  exact Nat.mod_lt _ hk
/-! what the calls want -/
theorem CP_O {I J : aI1} {R : aR1} {S : aS1} {v : Int} (h : CPI I J R S v) : ∀ j, j < 8 → 0 ≤ I 2 j ∧ I 2 j ≤ 99 := fun j hj => by
  have h1 : OL5 I := h.1.1.1.2.2.1
  rw [h1 j hj]
  exact h.2.2.1.1.1 j hj
theorem CP_K {I J : aI1} {R : aR1} {S : aS1} {v : Int} (h : CPI I J R S v) (hC : CI I R S) : ∀ s : Nat, (s : Int) ≤ FU (I 1 5) → I 3 s < I 1 6 := fun s hs => by
  obtain ⟨⟨⟨⟨-, -, -, q5, q6, -, -⟩, -⟩, -⟩, hc, -⟩ := id h.1
  have x5 := XI_o hC.2.1.1
  have hf := FU_r x5.1.1 x5.1.2
  rw [hc s (by omega), q6]
  exact (h.2.2.1.1.2.1 s (by rw [← q5]; exact hs)).2
theorem CR_O {I J A : aI1} {R : aR1} {S : aS1} {v : Int} (h : CPI I J R S v) (e : A 51 = I 51) : ∀ l, l < 8 → 0 ≤ A 51 (256 + l) ∧ A 51 (256 + l) ≤ 99 := by
  rw [e]
  exact h.2.2.1.1.1
theorem CR_K {I J A : aI1} {R : aR1} {S : aS1} {v : Int} (h : CPI I J R S v) (e : A 51 = I 51) : ∀ s : Nat, (s : Int) ≤ FU (A 51 304) → A 51 s < A 51 305 := by
  rw [e]
  exact fun s hs => (h.2.2.1.1.2.1 s hs).2
theorem CR_c {I J A : aI1} {R : aR1} {S : aS1} {v : Int} (h : CPI I J R S v) (hQ : RX I) (e : A 51 = I 51) : ∀ t : Nat, (t : Int) ≤ FU (A 51 304) → -1 ≤ A 51 t ∧ A 51 t ≤ 7 := by
  rw [e]
  have q := (RX_o hQ).2.1
  exact fun t ht => ⟨(h.2.2.1.1.2.1 t ht).1, by have := (h.2.2.1.1.2.1 t ht).2; omega⟩
theorem CR_7 {I J A : aI1} {R : aR1} {S : aS1} {v : Int} (h : CPI I J R S v) (e : A 51 = I 51) : A 51 307 ≤ FU (A 51 304) := by
  rw [e]
  exact h.2.2.1.1.2.2
theorem CR_q {I J A JA : aI1} {R : aR1} {S : aS1} {v : Int} (h : CPI I J R S v) (zz : ∀ k, 49 ≤ k → A k = I k) (zj : JA 62 = J 62) : QF A JA v :=
  QF_kp h.2.1.2 (congrFun (zz 49 (by decide)) 1) (congrFun (zz 49 (by decide)) 25) (zz 51 (by decide)) (zz 61 (by decide)) zj (Int.le_refl _)
theorem CP_L {I J : aI1} {R : aR1} {S : aS1} {v m : Int} {o L T L' M : Nat → Int} (h : CPI I J R S v) (hC : CI I R S) (hm : 0 ≤ m ∧ m ≤ 3) (kt : KT m I o L T) (zl : zLV (I 51) (I 1 7) (FU (I 1 5) + 1) (I 1 6) (-1) L') (mr : MRc (I 51) (I 1 7) (I 1 5) (I 1 6) M) : LK9 m (I 1 5) (I 1 6) (I 1 7) (I 3) (I 51) o (I 2) L T L' M := by
  obtain ⟨⟨⟨-, -, ol, -⟩, -⟩, hc, -⟩ := id h.1
  have x5 := XI_o hC.2.1.1
  have hf := FU_r x5.1.1 x5.1.2
  exact ⟨hm, x5.1, x5.2.1.1, fun t ht => hc t (by omega), kt.1, ol, kt.2.1, kt.2.2, zl, mr⟩
theorem NX_p {m n K g : Int} {code k o o2 L T L' M : Nat → Int} (h : LK9 m n K g code k o o2 L T L' M) : ∀ s x : Int, 0 ≤ s → s ≤ FU n → 0 ≤ x → x < K → NX (bC m o L T) code g s (FU n + 1) x = NX (bR m s n K k L' M) k g s (FU n + 1) x ∧ -1 ≤ NX (bC m o L T) code g s (FU n + 1) x ∧ NX (bC m o L T) code g s (FU n + 1) x ≤ FU n := fun s x h0 h1 h2 _ => by
  have hf := FU_r h.2.1.1 h.2.1.2
  exact ⟨NX_l9 h ⟨h0, h1⟩ (by omega), NX_r9 h0 (by omega) rfl⟩
/-! SENT -/
theorem SNr_k {z y : Int} {A B : aI1} (h : SNr z A B y) (h0 : 0 ≤ A 51 308 ∧ A 51 308 ≤ 24) {j : Nat} (hj : j < 264 ∨ 288 ≤ j) (h7 : j ≠ 307) (h8 : j ≠ 308) : B 51 j = A 51 j := by
  obtain ⟨s1, s2, s3⟩ := h
  by_cases e : z = -1
  · rw [(s1 e).2.2.2]
  · by_cases e2 : A 51 308 = 24
    · rw [(s2 e e2).2.2.2]
    · rw [(s3 e e2).2.2.2, up1_n _ _ h8, up1_n _ _ (by omega), up1_n _ _ h7]
theorem SA8_n {I A B : aI1} {k : Nat} {x : Int} (hs : SA8 I) (a0 : A 0 16 = x) (a48 : A 48 = up1 (I 48) k (I 48 k + 1)) (b0 : B 49 0 = x) (b50 : B 50 = up1 (A 50) k (A 50 k + 1)) (hk : k < 7) (lo : ∀ j, j < 49 ∨ 73 ≤ j → B j = A j) (z50 : A 50 = I 50) : SA8 B := by
  refine ⟨by rw [lo 0 (by decide), a0, b0], fun j hj => ?_⟩
  rw [lo 48 (by decide), a48, b50, z50]
  by_cases e9 : j = k
  · rw [e9, up1_s, up1_s, hs.2 k hk]
  · rw [up1_n _ _ e9, up1_n _ _ e9]
    exact hs.2 j hj
theorem SN_pr {z x y : Int} {I A B : aI1} (hs : SA8 I) (ht : TL8 I) (c : SNd z I A x) (r : SNr z A B y) (lo : ∀ j, j < 49 ∨ 73 ≤ j → B j = A j) (z50 : A 50 = I 50) (z51 : A 51 = I 51) (h10 : 0 ≤ I 1 10 ∧ I 1 10 ≤ 24) (hz : ¬ z = -1 → bc (i_xor z (I 1 8)) = pcn z.toNat - pcn (I 1 8).toNat) : SA8 B ∧ TL8 B ∧ x = y ∧ (B 51 = A 51 ∨ (¬ z = -1 ∧ B 51 307 = z)) := by
  obtain ⟨c1, c2, c3⟩ := c
  obtain ⟨r1, r2, r3⟩ := r
  obtain ⟨t8, t10, tl⟩ := id ht
  have b1 := lo 1 (by decide)
  have b5 := lo 5 (by decide)
  by_cases e : z = -1
  · obtain ⟨d1, d2, d3, d4, d5, d6⟩ := c1 e
    obtain ⟨s1, s2, s3, s4⟩ := r1 e
    exact ⟨SA8_n hs d2 d3 s2 s3 (by decide) lo z50, TL8_k ht (by rw [b1]; exact d4) (by rw [b1]; exact d5) (b5.trans d6) (fun j _ => by rw [s4, z51]), by omega, Or.inl s4⟩
  · by_cases e2 : I 1 10 = 24
    · obtain ⟨d1, d2, d3, d4, d5, d6⟩ := c2 e (by omega)
      obtain ⟨s1, s2, s3, s4⟩ := r2 e (by rw [z51, ← t10]; exact e2)
      exact ⟨SA8_n hs d2 d3 s2 s3 (by decide) lo z50, TL8_k ht (by rw [b1]; exact d4) (by rw [b1]; exact d5) (b5.trans d6) (fun j _ => by rw [s4, z51]), by omega, Or.inl s4⟩
    · obtain ⟨d1, d2, d3, d4, d5, d6⟩ := c3 e (by omega)
      obtain ⟨s1, s2, s3, s4⟩ := r3 e (by rw [z51, ← t10]; exact e2)
      rw [z51, ← t10] at s4
      rw [z51, ← t8] at s1
      have h9 := hz e
      have b7 : B 51 307 = z := by rw [s4, up1_n _ _ (by decide), up1_n _ _ (by omega), up1_s]
      refine ⟨⟨by rw [lo 0 (by decide), d2, s2], fun j hj => by rw [lo 48 (by decide), d3, s3, z50]; exact hs.2 j hj⟩, ⟨by rw [b1, d4, b7], by rw [b1, d5, s4, up1_s], fun j hj hj2 => ?_⟩, by omega, Or.inr ⟨e, b7⟩⟩
      rw [b1, d5] at hj2
      rw [b5, d6, s4, up1_n (j := 308) (b := 264 + j) _ _ (by omega)]
      by_cases e3 : j = (I 1 10).toNat
      · rw [e3, up1_s, show 264 + (I 1 10).toNat = (264 + I 1 10).toNat by omega, up1_s]
      · rw [up1_n _ _ e3, up1_n _ _ (by omega), up1_n _ _ (by omega)]
        exact tl j hj (by omega)
theorem OKr_e {f g : Nat → Int} (h : OKr f) (e : ∀ j, j < 5117 → g j = f j) (hn : FU (f 304) ≤ 255) : OKr g := by
  refine ⟨fun l hl => by rw [e _ (by omega)]; exact h.1 l hl, fun s hs => ?_, by rw [e 307 (by decide), e 304 (by decide)]; exact h.2.2⟩
  rw [e 304 (by decide)] at hs
  rw [e s (by omega), e 305 (by decide)]
  exact h.2.1 s hs
theorem RX_i {I : aI1} (hQ : RX I) {i : Nat} (hi : i < 2) (h : I 53 i ≠ 0) : FU (I 52 (5117 * i + 304)) ≤ 255 := by
  rcases hQ.2.1 i hi with h1 | ⟨-, h2⟩
  · exact absurd h1 h
  · exact (FU_r h2.1.1 h2.1.2).2.1
set_option maxHeartbeats 1000000 in
theorem CI8_of {I A B J JA JB : aI1} {R : aR1} {S : aS1} {a x y v : Int} (hP : CPI I J R S v) (hC : CI I R S) (hQ : RX I) (h0 : (Kp 0 49 I A ∧ Kp 0 49 J JA ∧ CX A ∧ Fw [] [] I A ∧ ((0 ≤ a ∧ a ≤ FU (I 1 5)) → x = I 3 a.toNat) ∧ (¬ (0 ≤ a ∧ a ≤ FU (I 1 5)) → x = -1)) ∧ FRk A JA) (hh : A = B ∧ JA = JB ∧ ((0 ≤ a ∧ a ≤ FU (A 51 304)) → y = A 51 a.toNat) ∧ (¬ (0 ≤ a ∧ a ≤ FU (A 51 304)) → y = -1)) : CPI B JB R S (v + 1) := by
  obtain ⟨hPH, ⟨-, hQF⟩, hOK, hST, hIM, hDR⟩ := id hP
  obtain ⟨h0, fr⟩ := h0
  obtain ⟨rfl, rfl, hh⟩ := hh
  have g0 : Kp 0 49 I A ∧ Kp 0 49 J JA ∧ CX A ∧ Fw [] [] I A ∧ True := ⟨h0.1, h0.2.1, h0.2.2.1, h0.2.2.2.1, trivial⟩
  have h1 : A = A ∧ JA = JA ∧ True := ⟨rfl, rfl, trivial⟩
  have cp := CF_of hPH.1.1 hC g0 h1
  have cg := CG_of hPH.1.2 hC hQ g0 h1
  have ch := CH_of hPH.1 hPH.2 hC g0 h1
  have hph : CPH A R S := ⟨⟨cp, cg⟩, ch⟩
  clear cp cg ch g0 h1
  have zz : ∀ k, 49 ≤ k → k < 73 → A k = I k := fun k h1 _ => h0.1 k (by omega)
  have zj : ∀ k, 49 ≤ k → k < 73 → JA k = J k := fun k h1 _ => h0.2.1 k (by omega)
  have z49 := zz 49 (by decide) (by decide)
  have z50 := zz 50 (by decide) (by decide)
  have z51 := zz 51 (by decide) (by decide)
  have z52 := zz 52 (by decide) (by decide)
  have z53 := zz 53 (by decide) (by decide)
  have z61 := zz 61 (by decide) (by decide)
  have z72 := zz 72 (by decide) (by decide)
  have qa : QF A JA v := QF_kp hQF (congrFun z49 1) (congrFun z49 25) z51 z61 (zj 62 (by decide) (by decide)) (Int.le_refl _)
  exact ⟨hph, ⟨fr, (QF_mn qa (by omega))⟩, (OK8_k hOK (fun j _ => congrFun z51 j) z52 z53 (RX_o hQ).2.2.2.2.2.2.2.2.2.2), ⟨(SA8_k hST.1 (h0.2.2.2.1 0 16 (by decide) (by decide) (by decide)) (Fw_row h0.2.2.2.1 48 (by decide) (by decide) (by decide)) (congrFun z49 0) z50), (TL8_k hST.2 (h0.2.2.2.1 1 8 (by decide) (by decide) (by decide)) (h0.2.2.2.1 1 10 (by decide) (by decide) (by decide)) (Fw_row h0.2.2.2.1 5 (by decide) (by decide) (by decide)) (fun j _ => congrFun z51 j))⟩, (IM8_k hIM hC rfl z52 (fun k h1 _ => h0.1 k (by omega))), (DR8_k hDR (h0.2.2.2.1 0 13 (by decide) (by decide) (by decide)) (h0.2.2.2.1 0 14 (by decide) (by decide) (by decide)) (Fw_row h0.2.2.2.1 47 (by decide) (by decide) (by decide)) (congrFun z49 39) (congrFun z49 40) z72)⟩
set_option maxHeartbeats 1000000 in
theorem CI8_feed {I A B J JA JB : aI1} {R : aR1} {S : aS1} {a b c e f x y v : Int} (hP : CPI I J R S v) (hC : CI I R S) (hQ : RX I) (h0 : (Kp 0 49 I A ∧ Kp 0 49 J JA ∧ CX A ∧ Fw [8, 9] [] I A ∧ (I 8 1 ≤ 380 → x = I 8 1 + 20 ∧ A 8 1 = I 8 1 + 20 ∧ FDc (I 9) (A 9) (I 8 1) a b c e f) ∧ (¬ I 8 1 ≤ 380 → x = -1 ∧ A 8 1 = I 8 1 ∧ A 9 = I 9)) ∧ FRk A JA) (hh : (Ch [55, 56] [10] A B ∧ Kp 49 73 JA JB ∧ RX B ∧ (A 49 10 ≤ 380 → y = A 49 10 + 20 ∧ B 49 10 = A 49 10 + 20 ∧ FDr (A 55) (B 55) (A 49 10) a b c e f) ∧ (¬ A 49 10 ≤ 380 → y = -1 ∧ B 49 10 = A 49 10 ∧ B 55 = A 55)) ∧ QK9 A B JA JB) : CPI B JB R S (v + 1) := by
  obtain ⟨hPH, ⟨-, hQF⟩, hOK, hST, hIM, hDR⟩ := id hP
  obtain ⟨h0, fr⟩ := h0
  obtain ⟨hh, qk⟩ := hh
  have g0 : Kp 0 49 I A ∧ Kp 0 49 J JA ∧ CX A ∧ Fw [8, 9] [] I A ∧ (I 8 1 ≤ 380 → x = I 8 1 + 20 ∧ A 8 1 = I 8 1 + 20 ∧ FDc (I 9) (A 9) (I 8 1) a b c e f) ∧ (¬ I 8 1 ≤ 380 → x = -1 ∧ A 8 1 = I 8 1 ∧ A 9 = I 9) := h0
  have h1 : Ch [55, 56] [10] A B ∧ Kp 49 73 JA JB ∧ RX B ∧ (A 49 10 ≤ 380 → y = A 49 10 + 20 ∧ B 49 10 = A 49 10 + 20 ∧ FDr (A 55) (B 55) (A 49 10) a b c e f) ∧ (¬ A 49 10 ≤ 380 → y = -1 ∧ B 49 10 = A 49 10 ∧ B 55 = A 55) := hh
  have cp := CF_feed hPH.1.1 hC g0 h1
  have cg := CG_feed hPH.1.2 hC hQ g0 h1
  have ch := CH_feed hPH.1 hPH.2 hC g0 h1
  have hph : CPH B R S := ⟨⟨cp.1, cg⟩, ch⟩
  clear cp cg ch g0 h1
  have zz : ∀ k, 49 ≤ k → k < 73 → A k = I k := fun k h1 _ => h0.1 k (by omega)
  have zj : ∀ k, 49 ≤ k → k < 73 → JA k = J k := fun k h1 _ => h0.2.1 k (by omega)
  have z49 := zz 49 (by decide) (by decide)
  have z50 := zz 50 (by decide) (by decide)
  have z51 := zz 51 (by decide) (by decide)
  have z52 := zz 52 (by decide) (by decide)
  have z53 := zz 53 (by decide) (by decide)
  have z61 := zz 61 (by decide) (by decide)
  have z72 := zz 72 (by decide) (by decide)
  have qa : QF A JA v := QF_kp hQF (congrFun z49 1) (congrFun z49 25) z51 z61 (zj 62 (by decide) (by decide)) (Int.le_refl _)
  have yc : ∀ k, k < 49 ∨ 73 ≤ k → B k = A k := Ch_kp hh.1 (by decide)
  have frB : FRk B JB := FRk_kp (a := 49) (b := 73) fr yc hh.2.1 (by decide)
  have b51 : B 51 = A 51 := (hh.1.1 51 (by decide) (by decide))
  have y51 : B 51 = I 51 := b51.trans z51
  exact ⟨hph, ⟨frB, (QF_tk qa qk.1.2.2.1 qk.2 b51 (by omega))⟩, (OK8_k hOK (fun j _ => congrFun y51 j) ((hh.1.1 52 (by decide) (by decide)).trans z52) ((hh.1.1 53 (by decide) (by decide)).trans z53) (RX_o hQ).2.2.2.2.2.2.2.2.2.2), ⟨(SA8_k hST.1 ((congrFun (yc 0 (by decide)) 16).trans (h0.2.2.2.1 0 16 (by decide) (by decide) (by decide))) ((yc 48 (by decide)).trans (Fw_row h0.2.2.2.1 48 (by decide) (by decide) (by decide))) ((hh.1.2 0 (by decide)).trans (congrFun z49 0)) ((hh.1.1 50 (by decide) (by decide)).trans z50)), (TL8_k hST.2 ((congrFun (yc 1 (by decide)) 8).trans (h0.2.2.2.1 1 8 (by decide) (by decide) (by decide))) ((congrFun (yc 1 (by decide)) 10).trans (h0.2.2.2.1 1 10 (by decide) (by decide) (by decide))) ((yc 5 (by decide)).trans (Fw_row h0.2.2.2.1 5 (by decide) (by decide) (by decide))) (fun j _ => congrFun y51 j))⟩, (IM8_k hIM hC rfl ((hh.1.1 52 (by decide) (by decide)).trans z52) (fun k h1 _ => (yc k (Or.inr h1)).trans (h0.1 k (by omega)))), (DR8_k hDR ((congrFun (yc 0 (by decide)) 13).trans (h0.2.2.2.1 0 13 (by decide) (by decide) (by decide))) ((congrFun (yc 0 (by decide)) 14).trans (h0.2.2.2.1 0 14 (by decide) (by decide) (by decide))) ((yc 47 (by decide)).trans (Fw_row h0.2.2.2.1 47 (by decide) (by decide) (by decide))) ((hh.1.2 39 (by decide)).trans (congrFun z49 39)) ((hh.1.2 40 (by decide)).trans (congrFun z49 40)) ((hh.1.1 72 (by decide) (by decide)).trans z72))⟩
set_option maxHeartbeats 1000000 in
theorem CI8_end {I A B J JA JB : aI1} {R : aR1} {S : aS1} {a x y v : Int} (hP : CPI I J R S v) (hC : CI I R S) (hQ : RX I) (h0 : (Kp 0 49 I A ∧ Kp 0 49 J JA ∧ CX A ∧ Fw [] [(8, 1)] I A ∧ ((0 ≤ a ∧ a ≤ I 8 1) → x = a ∧ A 8 1 = a) ∧ (¬ (0 ≤ a ∧ a ≤ I 8 1) → x = -1 ∧ A 8 1 = I 8 1)) ∧ FRk A JA) (hh : (Ch [] [10] A B ∧ Kp 49 73 JA JB ∧ RX B ∧ ((0 ≤ a ∧ a ≤ A 49 10) → y = a ∧ B 49 10 = a) ∧ (¬ (0 ≤ a ∧ a ≤ A 49 10) → y = -1 ∧ B 49 10 = A 49 10)) ∧ QK9 A B JA JB) : CPI B JB R S (v + 1) := by
  obtain ⟨hPH, ⟨-, hQF⟩, hOK, hST, hIM, hDR⟩ := id hP
  obtain ⟨h0, fr⟩ := h0
  obtain ⟨hh, qk⟩ := hh
  have g0 : Kp 0 49 I A ∧ Kp 0 49 J JA ∧ CX A ∧ Fw [] [(8, 1)] I A ∧ ((0 ≤ a ∧ a ≤ I 8 1) → x = a ∧ A 8 1 = a) ∧ (¬ (0 ≤ a ∧ a ≤ I 8 1) → x = -1 ∧ A 8 1 = I 8 1) := h0
  have h1 : Ch [] [10] A B ∧ Kp 49 73 JA JB ∧ RX B ∧ ((0 ≤ a ∧ a ≤ A 49 10) → y = a ∧ B 49 10 = a) ∧ (¬ (0 ≤ a ∧ a ≤ A 49 10) → y = -1 ∧ B 49 10 = A 49 10) := hh
  have cp := CF_end hPH.1.1 hC g0 h1
  have cg := CG_end hPH.1.2 hC hQ g0 h1
  have ch := CH_end hPH.1 hPH.2 hC g0 h1
  have hph : CPH B R S := ⟨⟨cp.1, cg⟩, ch⟩
  clear cp cg ch g0 h1
  have zz : ∀ k, 49 ≤ k → k < 73 → A k = I k := fun k h1 _ => h0.1 k (by omega)
  have zj : ∀ k, 49 ≤ k → k < 73 → JA k = J k := fun k h1 _ => h0.2.1 k (by omega)
  have z49 := zz 49 (by decide) (by decide)
  have z50 := zz 50 (by decide) (by decide)
  have z51 := zz 51 (by decide) (by decide)
  have z52 := zz 52 (by decide) (by decide)
  have z53 := zz 53 (by decide) (by decide)
  have z61 := zz 61 (by decide) (by decide)
  have z72 := zz 72 (by decide) (by decide)
  have qa : QF A JA v := QF_kp hQF (congrFun z49 1) (congrFun z49 25) z51 z61 (zj 62 (by decide) (by decide)) (Int.le_refl _)
  have yc : ∀ k, k < 49 ∨ 73 ≤ k → B k = A k := Ch_kp hh.1 (by decide)
  have frB : FRk B JB := FRk_kp (a := 49) (b := 73) fr yc hh.2.1 (by decide)
  have b51 : B 51 = A 51 := (hh.1.1 51 (by decide) (by decide))
  have y51 : B 51 = I 51 := b51.trans z51
  exact ⟨hph, ⟨frB, (QF_tk qa qk.1.2.2.1 qk.2 b51 (by omega))⟩, (OK8_k hOK (fun j _ => congrFun y51 j) ((hh.1.1 52 (by decide) (by decide)).trans z52) ((hh.1.1 53 (by decide) (by decide)).trans z53) (RX_o hQ).2.2.2.2.2.2.2.2.2.2), ⟨(SA8_k hST.1 ((congrFun (yc 0 (by decide)) 16).trans (h0.2.2.2.1 0 16 (by decide) (by decide) (by decide))) ((yc 48 (by decide)).trans (Fw_row h0.2.2.2.1 48 (by decide) (by decide) (by decide))) ((hh.1.2 0 (by decide)).trans (congrFun z49 0)) ((hh.1.1 50 (by decide) (by decide)).trans z50)), (TL8_k hST.2 ((congrFun (yc 1 (by decide)) 8).trans (h0.2.2.2.1 1 8 (by decide) (by decide) (by decide))) ((congrFun (yc 1 (by decide)) 10).trans (h0.2.2.2.1 1 10 (by decide) (by decide) (by decide))) ((yc 5 (by decide)).trans (Fw_row h0.2.2.2.1 5 (by decide) (by decide) (by decide))) (fun j _ => congrFun y51 j))⟩, (IM8_k hIM hC rfl ((hh.1.1 52 (by decide) (by decide)).trans z52) (fun k h1 _ => (yc k (Or.inr h1)).trans (h0.1 k (by omega)))), (DR8_k hDR ((congrFun (yc 0 (by decide)) 13).trans (h0.2.2.2.1 0 13 (by decide) (by decide) (by decide))) ((congrFun (yc 0 (by decide)) 14).trans (h0.2.2.2.1 0 14 (by decide) (by decide) (by decide))) ((yc 47 (by decide)).trans (Fw_row h0.2.2.2.1 47 (by decide) (by decide) (by decide))) ((hh.1.2 39 (by decide)).trans (congrFun z49 39)) ((hh.1.2 40 (by decide)).trans (congrFun z49 40)) ((hh.1.1 72 (by decide) (by decide)).trans z72))⟩
set_option maxHeartbeats 1000000 in
theorem CI8_torn {I A B J JA JB : aI1} {R : aR1} {S : aS1} {x y v : Int} (hP : CPI I J R S v) (hC : CI I R S) (hQ : RX I) (h0 : (Kp 0 49 I A ∧ Kp 0 49 J JA ∧ CX A ∧ Fw [] [] I A ∧ x = I 0 15) ∧ FRk A JA) (hh : A = B ∧ JA = JB ∧ y = A 49 6) : CPI B JB R S (v + 1) := by
  obtain ⟨hPH, ⟨-, hQF⟩, hOK, hST, hIM, hDR⟩ := id hP
  obtain ⟨h0, fr⟩ := h0
  obtain ⟨rfl, rfl, hh⟩ := hh
  have g0 : Kp 0 49 I A ∧ Kp 0 49 J JA ∧ CX A ∧ Fw [] [] I A ∧ x = I 0 15 := h0
  have h1 : A = A ∧ JA = JA ∧ y = A 49 6 := ⟨rfl, rfl, hh⟩
  have cp := CF_torn hPH.1.1 hC g0 h1
  have cg := CG_torn hPH.1.2 hC hQ g0 h1
  have ch := CH_torn hPH.1 hPH.2 hC g0 h1
  have hph : CPH A R S := ⟨⟨cp.1, cg⟩, ch⟩
  clear cp cg ch g0 h1
  have zz : ∀ k, 49 ≤ k → k < 73 → A k = I k := fun k h1 _ => h0.1 k (by omega)
  have zj : ∀ k, 49 ≤ k → k < 73 → JA k = J k := fun k h1 _ => h0.2.1 k (by omega)
  have z49 := zz 49 (by decide) (by decide)
  have z50 := zz 50 (by decide) (by decide)
  have z51 := zz 51 (by decide) (by decide)
  have z52 := zz 52 (by decide) (by decide)
  have z53 := zz 53 (by decide) (by decide)
  have z61 := zz 61 (by decide) (by decide)
  have z72 := zz 72 (by decide) (by decide)
  have qa : QF A JA v := QF_kp hQF (congrFun z49 1) (congrFun z49 25) z51 z61 (zj 62 (by decide) (by decide)) (Int.le_refl _)
  exact ⟨hph, ⟨fr, (QF_mn qa (by omega))⟩, (OK8_k hOK (fun j _ => congrFun z51 j) z52 z53 (RX_o hQ).2.2.2.2.2.2.2.2.2.2), ⟨(SA8_k hST.1 (h0.2.2.2.1 0 16 (by decide) (by decide) (by decide)) (Fw_row h0.2.2.2.1 48 (by decide) (by decide) (by decide)) (congrFun z49 0) z50), (TL8_k hST.2 (h0.2.2.2.1 1 8 (by decide) (by decide) (by decide)) (h0.2.2.2.1 1 10 (by decide) (by decide) (by decide)) (Fw_row h0.2.2.2.1 5 (by decide) (by decide) (by decide)) (fun j _ => congrFun z51 j))⟩, (IM8_k hIM hC rfl z52 (fun k h1 _ => h0.1 k (by omega))), (DR8_k hDR (h0.2.2.2.1 0 13 (by decide) (by decide) (by decide)) (h0.2.2.2.1 0 14 (by decide) (by decide) (by decide)) (Fw_row h0.2.2.2.1 47 (by decide) (by decide) (by decide)) (congrFun z49 39) (congrFun z49 40) z72)⟩
set_option maxHeartbeats 1000000 in
theorem CI8_fault {I A B J JA JB : aI1} {R : aR1} {S : aS1} {x y v : Int} (hP : CPI I J R S v) (hC : CI I R S) (hQ : RX I) (h0 : (Kp 0 49 I A ∧ Kp 0 49 J JA ∧ CX A ∧ Fw [] [] I A ∧ x = I 10 0) ∧ FRk A JA) (hh : A = B ∧ JA = JB ∧ y = A 49 11) : CPI B JB R S (v + 1) := by
  obtain ⟨hPH, ⟨-, hQF⟩, hOK, hST, hIM, hDR⟩ := id hP
  obtain ⟨h0, fr⟩ := h0
  obtain ⟨rfl, rfl, hh⟩ := hh
  have g0 : Kp 0 49 I A ∧ Kp 0 49 J JA ∧ CX A ∧ Fw [] [] I A ∧ x = I 10 0 := h0
  have h1 : A = A ∧ JA = JA ∧ y = A 49 11 := ⟨rfl, rfl, hh⟩
  have cp := CF_fault hPH.1.1 hC ⟨g0.1, g0.2.1, g0.2.2.1, g0.2.2.2.1, trivial⟩ ⟨rfl, rfl, trivial⟩
  have cg := CG_fault hPH.1.2 hC hQ g0 h1
  have ch := CH_fault hPH.1 hPH.2 hC ⟨g0.1, g0.2.1, g0.2.2.1, g0.2.2.2.1, trivial⟩ ⟨rfl, rfl, trivial⟩
  have hph : CPH A R S := ⟨⟨cp, cg.1⟩, ch⟩
  clear cp cg ch g0 h1
  have zz : ∀ k, 49 ≤ k → k < 73 → A k = I k := fun k h1 _ => h0.1 k (by omega)
  have zj : ∀ k, 49 ≤ k → k < 73 → JA k = J k := fun k h1 _ => h0.2.1 k (by omega)
  have z49 := zz 49 (by decide) (by decide)
  have z50 := zz 50 (by decide) (by decide)
  have z51 := zz 51 (by decide) (by decide)
  have z52 := zz 52 (by decide) (by decide)
  have z53 := zz 53 (by decide) (by decide)
  have z61 := zz 61 (by decide) (by decide)
  have z72 := zz 72 (by decide) (by decide)
  have qa : QF A JA v := QF_kp hQF (congrFun z49 1) (congrFun z49 25) z51 z61 (zj 62 (by decide) (by decide)) (Int.le_refl _)
  exact ⟨hph, ⟨fr, (QF_mn qa (by omega))⟩, (OK8_k hOK (fun j _ => congrFun z51 j) z52 z53 (RX_o hQ).2.2.2.2.2.2.2.2.2.2), ⟨(SA8_k hST.1 (h0.2.2.2.1 0 16 (by decide) (by decide) (by decide)) (Fw_row h0.2.2.2.1 48 (by decide) (by decide) (by decide)) (congrFun z49 0) z50), (TL8_k hST.2 (h0.2.2.2.1 1 8 (by decide) (by decide) (by decide)) (h0.2.2.2.1 1 10 (by decide) (by decide) (by decide)) (Fw_row h0.2.2.2.1 5 (by decide) (by decide) (by decide)) (fun j _ => congrFun z51 j))⟩, (IM8_k hIM hC rfl z52 (fun k h1 _ => h0.1 k (by omega))), (DR8_k hDR (h0.2.2.2.1 0 13 (by decide) (by decide) (by decide)) (h0.2.2.2.1 0 14 (by decide) (by decide) (by decide)) (Fw_row h0.2.2.2.1 47 (by decide) (by decide) (by decide)) (congrFun z49 39) (congrFun z49 40) z72)⟩
set_option maxHeartbeats 1000000 in
theorem CI8_next {I A B J JA JB : aI1} {R : aR1} {S : aS1} {a b c x y v : Int} (hP : CPI I J R S v) (hC : CI I R S) (hQ : RX I) (h0 : (Kp 0 49 I A ∧ Kp 0 49 J JA ∧ CX A ∧ Fw [18, 19, 20, 21, 22, 23, 24, 25, 26, 27, 28, 29, 30] [] I A ∧ ((0 ≤ a ∧ a ≤ FU (I 1 5) ∧ 0 ≤ b ∧ b < I 1 6 ∧ 0 ≤ c ∧ c ≤ 3) → ∃ o L T, KT c I o L T ∧ x = NX (bC c o L T) (I 3) (I 1 7) a (FU (I 1 5) + 1) b) ∧ (¬ (0 ≤ a ∧ a ≤ FU (I 1 5) ∧ 0 ≤ b ∧ b < I 1 6 ∧ 0 ≤ c ∧ c ≤ 3) → x = -1)) ∧ FRk A JA) (hh : Ch [61] [25] A B ∧ Kp 49 73 JA JB ∧ RX B ∧ B 51 = A 51 ∧ QF B JB v ∧ ((0 ≤ a ∧ a ≤ FU (A 51 304) ∧ 0 ≤ b ∧ b < A 51 305 ∧ 0 ≤ c ∧ c ≤ 3) → ∃ L M, zLV (A 51) (A 51 306) (FU (A 51 304) + 1) (A 51 305) (-1) L ∧ MRc (A 51) (A 51 306) (A 51 304) (A 51 305) M ∧ y = NX (bR c a (A 51 304) (A 51 305) (A 51) L M) (A 51) (A 51 306) a (FU (A 51 304) + 1) b) ∧ (¬ (0 ≤ a ∧ a ≤ FU (A 51 304) ∧ 0 ≤ b ∧ b < A 51 305 ∧ 0 ≤ c ∧ c ≤ 3) → y = -1)) : CPI B JB R S (v + 1) := by
  obtain ⟨hPH, ⟨-, hQF⟩, hOK, hST, hIM, hDR⟩ := id hP
  obtain ⟨h0, fr⟩ := h0
  have g0 : Kp 0 49 I A ∧ Kp 0 49 J JA ∧ CX A ∧ Fw [18, 19, 20, 21, 22, 23, 24, 25, 26, 27, 28, 29, 30, 31, 32, 33, 34, 35, 36] [] I A ∧ True := ⟨h0.1, h0.2.1, h0.2.2.1, (Fw_wd h0.2.2.2.1 (by decide) (by decide)), trivial⟩
  have h1 : Ch [61] [25] A B ∧ Kp 49 73 JA JB ∧ RX B ∧ True := ⟨hh.1, hh.2.1, hh.2.2.1, trivial⟩
  have cp := CF_next hPH.1.1 hC g0 h1
  have cg := CG_next hPH.1.2 hC hQ g0 h1
  have ch := CH_next hPH.1 hPH.2 hC g0 h1
  have hph : CPH B R S := ⟨⟨cp, cg⟩, ch⟩
  clear cp cg ch g0 h1
  have zz : ∀ k, 49 ≤ k → k < 73 → A k = I k := fun k h1 _ => h0.1 k (by omega)
  have zj : ∀ k, 49 ≤ k → k < 73 → JA k = J k := fun k h1 _ => h0.2.1 k (by omega)
  have z49 := zz 49 (by decide) (by decide)
  have z50 := zz 50 (by decide) (by decide)
  have z51 := zz 51 (by decide) (by decide)
  have z52 := zz 52 (by decide) (by decide)
  have z53 := zz 53 (by decide) (by decide)
  have z61 := zz 61 (by decide) (by decide)
  have z72 := zz 72 (by decide) (by decide)
  have qa : QF A JA v := QF_kp hQF (congrFun z49 1) (congrFun z49 25) z51 z61 (zj 62 (by decide) (by decide)) (Int.le_refl _)
  have yc : ∀ k, k < 49 ∨ 73 ≤ k → B k = A k := Ch_kp hh.1 (by decide)
  have frB : FRk B JB := FRk_kp (a := 49) (b := 73) fr yc hh.2.1 (by decide)
  have b51 : B 51 = A 51 := (hh.1.1 51 (by decide) (by decide))
  have y51 : B 51 = I 51 := b51.trans z51
  have hqB : QF B JB v := hh.2.2.2.2.1
  exact ⟨hph, ⟨frB, (QF_mn hqB (by omega))⟩, (OK8_k hOK (fun j _ => congrFun y51 j) ((hh.1.1 52 (by decide) (by decide)).trans z52) ((hh.1.1 53 (by decide) (by decide)).trans z53) (RX_o hQ).2.2.2.2.2.2.2.2.2.2), ⟨(SA8_k hST.1 ((congrFun (yc 0 (by decide)) 16).trans (h0.2.2.2.1 0 16 (by decide) (by decide) (by decide))) ((yc 48 (by decide)).trans (Fw_row h0.2.2.2.1 48 (by decide) (by decide) (by decide))) ((hh.1.2 0 (by decide)).trans (congrFun z49 0)) ((hh.1.1 50 (by decide) (by decide)).trans z50)), (TL8_k hST.2 ((congrFun (yc 1 (by decide)) 8).trans (h0.2.2.2.1 1 8 (by decide) (by decide) (by decide))) ((congrFun (yc 1 (by decide)) 10).trans (h0.2.2.2.1 1 10 (by decide) (by decide) (by decide))) ((yc 5 (by decide)).trans (Fw_row h0.2.2.2.1 5 (by decide) (by decide) (by decide))) (fun j _ => congrFun y51 j))⟩, (IM8_k hIM hC rfl ((hh.1.1 52 (by decide) (by decide)).trans z52) (fun k h1 _ => (yc k (Or.inr h1)).trans (h0.1 k (by omega)))), (DR8_k hDR ((congrFun (yc 0 (by decide)) 13).trans (h0.2.2.2.1 0 13 (by decide) (by decide) (by decide))) ((congrFun (yc 0 (by decide)) 14).trans (h0.2.2.2.1 0 14 (by decide) (by decide) (by decide))) ((yc 47 (by decide)).trans (Fw_row h0.2.2.2.1 47 (by decide) (by decide) (by decide))) ((hh.1.2 39 (by decide)).trans (congrFun z49 39)) ((hh.1.2 40 (by decide)).trans (congrFun z49 40)) ((hh.1.1 72 (by decide) (by decide)).trans z72))⟩
set_option maxHeartbeats 1000000 in
theorem CI8_ways {I A B J JA JB : aI1} {R : aR1} {S : aS1} {a b x y v : Int} (hP : CPI I J R S v) (hC : CI I R S) (hQ : RX I) (h0 : (Kp 0 49 I A ∧ Kp 0 49 J JA ∧ CX A ∧ Fw [] [] I A ∧ ((0 ≤ a ∧ a ≤ FU (I 1 5) ∧ 0 ≤ b ∧ b < I 1 6) → x = fW (wyF (I 3) (I 1 7) a (FU (I 1 5) + 1) b) 0 (FU (I 1 5) + 1).toNat) ∧ (¬ (0 ≤ a ∧ a ≤ FU (I 1 5) ∧ 0 ≤ b ∧ b < I 1 6) → x = -1)) ∧ FRk A JA) (hh : A = B ∧ JA = JB ∧ ((0 ≤ a ∧ a ≤ FU (A 51 304) ∧ 0 ≤ b ∧ b < A 51 305) → y = fW (wyF (A 51) (A 51 306) a (FU (A 51 304) + 1) b) 0 (FU (A 51 304) + 1).toNat) ∧ (¬ (0 ≤ a ∧ a ≤ FU (A 51 304) ∧ 0 ≤ b ∧ b < A 51 305) → y = -1)) : CPI B JB R S (v + 1) := by
  obtain ⟨hPH, ⟨-, hQF⟩, hOK, hST, hIM, hDR⟩ := id hP
  obtain ⟨h0, fr⟩ := h0
  obtain ⟨rfl, rfl, hh⟩ := hh
  have g0 : Kp 0 49 I A ∧ Kp 0 49 J JA ∧ CX A ∧ Fw [] [] I A ∧ True := ⟨h0.1, h0.2.1, h0.2.2.1, h0.2.2.2.1, trivial⟩
  have h1 : A = A ∧ JA = JA ∧ True := ⟨rfl, rfl, trivial⟩
  have cp := CF_ways hPH.1.1 hC g0 h1
  have cg := CG_ways hPH.1.2 hC hQ g0 h1
  have ch := CH_ways hPH.1 hPH.2 hC g0 h1
  have hph : CPH A R S := ⟨⟨cp, cg⟩, ch⟩
  clear cp cg ch g0 h1
  have zz : ∀ k, 49 ≤ k → k < 73 → A k = I k := fun k h1 _ => h0.1 k (by omega)
  have zj : ∀ k, 49 ≤ k → k < 73 → JA k = J k := fun k h1 _ => h0.2.1 k (by omega)
  have z49 := zz 49 (by decide) (by decide)
  have z50 := zz 50 (by decide) (by decide)
  have z51 := zz 51 (by decide) (by decide)
  have z52 := zz 52 (by decide) (by decide)
  have z53 := zz 53 (by decide) (by decide)
  have z61 := zz 61 (by decide) (by decide)
  have z72 := zz 72 (by decide) (by decide)
  have qa : QF A JA v := QF_kp hQF (congrFun z49 1) (congrFun z49 25) z51 z61 (zj 62 (by decide) (by decide)) (Int.le_refl _)
  exact ⟨hph, ⟨fr, (QF_mn qa (by omega))⟩, (OK8_k hOK (fun j _ => congrFun z51 j) z52 z53 (RX_o hQ).2.2.2.2.2.2.2.2.2.2), ⟨(SA8_k hST.1 (h0.2.2.2.1 0 16 (by decide) (by decide) (by decide)) (Fw_row h0.2.2.2.1 48 (by decide) (by decide) (by decide)) (congrFun z49 0) z50), (TL8_k hST.2 (h0.2.2.2.1 1 8 (by decide) (by decide) (by decide)) (h0.2.2.2.1 1 10 (by decide) (by decide) (by decide)) (Fw_row h0.2.2.2.1 5 (by decide) (by decide) (by decide)) (fun j _ => congrFun z51 j))⟩, (IM8_k hIM hC rfl z52 (fun k h1 _ => h0.1 k (by omega))), (DR8_k hDR (h0.2.2.2.1 0 13 (by decide) (by decide) (by decide)) (h0.2.2.2.1 0 14 (by decide) (by decide) (by decide)) (Fw_row h0.2.2.2.1 47 (by decide) (by decide) (by decide)) (congrFun z49 39) (congrFun z49 40) z72)⟩
set_option maxHeartbeats 1000000 in
theorem CI8_lasts {I A B J JA JB : aI1} {R : aR1} {S : aS1} {a x y v : Int} (hP : CPI I J R S v) (hC : CI I R S) (hQ : RX I) (h0 : (Kp 0 49 I A ∧ Kp 0 49 J JA ∧ CX A ∧ Fw [18, 19, 20, 21, 22, 23, 24, 25, 26, 27, 28, 29, 30] [] I A ∧ ((0 ≤ a ∧ a ≤ FU (I 1 5)) → ∃ L, zLV (I 3) (I 1 7) (FU (I 1 5) + 1) (I 1 6) (-1) L ∧ x = L a.toNat) ∧ (¬ (0 ≤ a ∧ a ≤ FU (I 1 5)) → x = -1)) ∧ FRk A JA) (hh : Ch [61] [25] A B ∧ Kp 49 73 JA JB ∧ RX B ∧ B 51 = A 51 ∧ QF B JB v ∧ ((0 ≤ a ∧ a ≤ FU (A 51 304)) → ∃ L, zLV (A 51) (A 51 306) (FU (A 51 304) + 1) (A 51 305) (-1) L ∧ y = L a.toNat) ∧ (¬ (0 ≤ a ∧ a ≤ FU (A 51 304)) → y = -1)) : CPI B JB R S (v + 1) := by
  obtain ⟨hPH, ⟨-, hQF⟩, hOK, hST, hIM, hDR⟩ := id hP
  obtain ⟨h0, fr⟩ := h0
  have g0 : Kp 0 49 I A ∧ Kp 0 49 J JA ∧ CX A ∧ Fw [18, 19, 20, 21, 22, 23, 24, 25, 26, 27, 28, 29, 30, 31, 32, 33, 34, 35, 36] [] I A ∧ True := ⟨h0.1, h0.2.1, h0.2.2.1, (Fw_wd h0.2.2.2.1 (by decide) (by decide)), trivial⟩
  have h1 : Ch [61] [25] A B ∧ Kp 49 73 JA JB ∧ RX B ∧ True := ⟨hh.1, hh.2.1, hh.2.2.1, trivial⟩
  have cp := CF_lasts hPH.1.1 hC g0 h1
  have cg := CG_lasts hPH.1.2 hC hQ g0 h1
  have ch := CH_lasts hPH.1 hPH.2 hC g0 h1
  have hph : CPH B R S := ⟨⟨cp, cg⟩, ch⟩
  clear cp cg ch g0 h1
  have zz : ∀ k, 49 ≤ k → k < 73 → A k = I k := fun k h1 _ => h0.1 k (by omega)
  have zj : ∀ k, 49 ≤ k → k < 73 → JA k = J k := fun k h1 _ => h0.2.1 k (by omega)
  have z49 := zz 49 (by decide) (by decide)
  have z50 := zz 50 (by decide) (by decide)
  have z51 := zz 51 (by decide) (by decide)
  have z52 := zz 52 (by decide) (by decide)
  have z53 := zz 53 (by decide) (by decide)
  have z61 := zz 61 (by decide) (by decide)
  have z72 := zz 72 (by decide) (by decide)
  have qa : QF A JA v := QF_kp hQF (congrFun z49 1) (congrFun z49 25) z51 z61 (zj 62 (by decide) (by decide)) (Int.le_refl _)
  have yc : ∀ k, k < 49 ∨ 73 ≤ k → B k = A k := Ch_kp hh.1 (by decide)
  have frB : FRk B JB := FRk_kp (a := 49) (b := 73) fr yc hh.2.1 (by decide)
  have b51 : B 51 = A 51 := (hh.1.1 51 (by decide) (by decide))
  have y51 : B 51 = I 51 := b51.trans z51
  have hqB : QF B JB v := hh.2.2.2.2.1
  exact ⟨hph, ⟨frB, (QF_mn hqB (by omega))⟩, (OK8_k hOK (fun j _ => congrFun y51 j) ((hh.1.1 52 (by decide) (by decide)).trans z52) ((hh.1.1 53 (by decide) (by decide)).trans z53) (RX_o hQ).2.2.2.2.2.2.2.2.2.2), ⟨(SA8_k hST.1 ((congrFun (yc 0 (by decide)) 16).trans (h0.2.2.2.1 0 16 (by decide) (by decide) (by decide))) ((yc 48 (by decide)).trans (Fw_row h0.2.2.2.1 48 (by decide) (by decide) (by decide))) ((hh.1.2 0 (by decide)).trans (congrFun z49 0)) ((hh.1.1 50 (by decide) (by decide)).trans z50)), (TL8_k hST.2 ((congrFun (yc 1 (by decide)) 8).trans (h0.2.2.2.1 1 8 (by decide) (by decide) (by decide))) ((congrFun (yc 1 (by decide)) 10).trans (h0.2.2.2.1 1 10 (by decide) (by decide) (by decide))) ((yc 5 (by decide)).trans (Fw_row h0.2.2.2.1 5 (by decide) (by decide) (by decide))) (fun j _ => congrFun y51 j))⟩, (IM8_k hIM hC rfl ((hh.1.1 52 (by decide) (by decide)).trans z52) (fun k h1 _ => (yc k (Or.inr h1)).trans (h0.1 k (by omega)))), (DR8_k hDR ((congrFun (yc 0 (by decide)) 13).trans (h0.2.2.2.1 0 13 (by decide) (by decide) (by decide))) ((congrFun (yc 0 (by decide)) 14).trans (h0.2.2.2.1 0 14 (by decide) (by decide) (by decide))) ((yc 47 (by decide)).trans (Fw_row h0.2.2.2.1 47 (by decide) (by decide) (by decide))) ((hh.1.2 39 (by decide)).trans (congrFun z49 39)) ((hh.1.2 40 (by decide)).trans (congrFun z49 40)) ((hh.1.1 72 (by decide) (by decide)).trans z72))⟩
set_option maxHeartbeats 1000000 in
theorem CI8_mean {I A B J JA JB : aI1} {R : aR1} {S : aS1} {a b x y v : Int} (hP : CPI I J R S v) (hC : CI I R S) (hQ : RX I) (h0 : (Kp 0 49 I A ∧ Kp 0 49 J JA ∧ CX A ∧ Fw [18, 19, 20, 21, 22, 23, 24, 25, 26, 27, 28, 29, 30] [] I A ∧ ((0 ≤ a ∧ a ≤ FU (I 1 5) ∧ 0 ≤ b ∧ b ≤ 1) → ∃ T, MTc (I 3) (I 1 7) (I 1 5) (I 1 6) T ∧ x = mPt (T a.toNat) (blw (I 3) (I 1 6) a.toNat) (if b = 0 then 1 else 0)) ∧ (¬ (0 ≤ a ∧ a ≤ FU (I 1 5) ∧ 0 ≤ b ∧ b ≤ 1) → x = -1)) ∧ FRk A JA) (hh : Ch [61] [25] A B ∧ Kp 49 73 JA JB ∧ RX B ∧ B 51 = A 51 ∧ QF B JB v ∧ ((0 ≤ a ∧ a ≤ FU (A 51 304) ∧ 0 ≤ b ∧ b ≤ 1) → ∃ M, MRc (A 51) (A 51 306) (A 51 304) (A 51 305) M ∧ y = mPt (M a.toNat) (dwn (A 51) (A 51 305) (A 51 304) a.toNat) (if b = 0 then 1 else 0)) ∧ (¬ (0 ≤ a ∧ a ≤ FU (A 51 304) ∧ 0 ≤ b ∧ b ≤ 1) → y = -1)) : CPI B JB R S (v + 1) := by
  obtain ⟨hPH, ⟨-, hQF⟩, hOK, hST, hIM, hDR⟩ := id hP
  obtain ⟨h0, fr⟩ := h0
  have g0 : Kp 0 49 I A ∧ Kp 0 49 J JA ∧ CX A ∧ Fw [18, 19, 20, 21, 22, 23, 24, 25, 26, 27, 28, 29, 30, 31, 32, 33, 34, 35, 36] [] I A ∧ True := ⟨h0.1, h0.2.1, h0.2.2.1, (Fw_wd h0.2.2.2.1 (by decide) (by decide)), trivial⟩
  have h1 : Ch [61] [25] A B ∧ Kp 49 73 JA JB ∧ RX B ∧ True := ⟨hh.1, hh.2.1, hh.2.2.1, trivial⟩
  have cp := CF_mean hPH.1.1 hC g0 h1
  have cg := CG_mean hPH.1.2 hC hQ g0 h1
  have ch := CH_mean hPH.1 hPH.2 hC g0 h1
  have hph : CPH B R S := ⟨⟨cp, cg⟩, ch⟩
  clear cp cg ch g0 h1
  have zz : ∀ k, 49 ≤ k → k < 73 → A k = I k := fun k h1 _ => h0.1 k (by omega)
  have zj : ∀ k, 49 ≤ k → k < 73 → JA k = J k := fun k h1 _ => h0.2.1 k (by omega)
  have z49 := zz 49 (by decide) (by decide)
  have z50 := zz 50 (by decide) (by decide)
  have z51 := zz 51 (by decide) (by decide)
  have z52 := zz 52 (by decide) (by decide)
  have z53 := zz 53 (by decide) (by decide)
  have z61 := zz 61 (by decide) (by decide)
  have z72 := zz 72 (by decide) (by decide)
  have qa : QF A JA v := QF_kp hQF (congrFun z49 1) (congrFun z49 25) z51 z61 (zj 62 (by decide) (by decide)) (Int.le_refl _)
  have yc : ∀ k, k < 49 ∨ 73 ≤ k → B k = A k := Ch_kp hh.1 (by decide)
  have frB : FRk B JB := FRk_kp (a := 49) (b := 73) fr yc hh.2.1 (by decide)
  have b51 : B 51 = A 51 := (hh.1.1 51 (by decide) (by decide))
  have y51 : B 51 = I 51 := b51.trans z51
  have hqB : QF B JB v := hh.2.2.2.2.1
  exact ⟨hph, ⟨frB, (QF_mn hqB (by omega))⟩, (OK8_k hOK (fun j _ => congrFun y51 j) ((hh.1.1 52 (by decide) (by decide)).trans z52) ((hh.1.1 53 (by decide) (by decide)).trans z53) (RX_o hQ).2.2.2.2.2.2.2.2.2.2), ⟨(SA8_k hST.1 ((congrFun (yc 0 (by decide)) 16).trans (h0.2.2.2.1 0 16 (by decide) (by decide) (by decide))) ((yc 48 (by decide)).trans (Fw_row h0.2.2.2.1 48 (by decide) (by decide) (by decide))) ((hh.1.2 0 (by decide)).trans (congrFun z49 0)) ((hh.1.1 50 (by decide) (by decide)).trans z50)), (TL8_k hST.2 ((congrFun (yc 1 (by decide)) 8).trans (h0.2.2.2.1 1 8 (by decide) (by decide) (by decide))) ((congrFun (yc 1 (by decide)) 10).trans (h0.2.2.2.1 1 10 (by decide) (by decide) (by decide))) ((yc 5 (by decide)).trans (Fw_row h0.2.2.2.1 5 (by decide) (by decide) (by decide))) (fun j _ => congrFun y51 j))⟩, (IM8_k hIM hC rfl ((hh.1.1 52 (by decide) (by decide)).trans z52) (fun k h1 _ => (yc k (Or.inr h1)).trans (h0.1 k (by omega)))), (DR8_k hDR ((congrFun (yc 0 (by decide)) 13).trans (h0.2.2.2.1 0 13 (by decide) (by decide) (by decide))) ((congrFun (yc 0 (by decide)) 14).trans (h0.2.2.2.1 0 14 (by decide) (by decide) (by decide))) ((yc 47 (by decide)).trans (Fw_row h0.2.2.2.1 47 (by decide) (by decide) (by decide))) ((hh.1.2 39 (by decide)).trans (congrFun z49 39)) ((hh.1.2 40 (by decide)).trans (congrFun z49 40)) ((hh.1.1 72 (by decide) (by decide)).trans z72))⟩
set_option maxHeartbeats 1000000 in
theorem CI8_reached {I A B J JA JB : aI1} {R : aR1} {S : aS1} {a x y v : Int} (hP : CPI I J R S v) (hC : CI I R S) (hQ : RX I) (h0 : (Kp 0 49 I A ∧ Kp 0 49 J JA ∧ CX A ∧ Fw [] [] I A ∧ (a = -1 → x = fW (rcF (I 3) (I 1 7)) 0 (FU (I 1 5) + 1).toNat) ∧ (¬ a = -1 → 0 ≤ a ∧ a ≤ FU (I 1 5) → (x = 0 ∨ x = 1) ∧ (x = 1 ↔ RC (I 3) (I 1 7) a.toNat)) ∧ (¬ a = -1 → ¬ (0 ≤ a ∧ a ≤ FU (I 1 5)) → x = -1)) ∧ FRk A JA) (hh : (Ch [63] [] A B ∧ Kp 49 73 JA JB ∧ RX B ∧ (a = -1 → y = fW (rcF (A 51) (A 51 306)) 0 (FU (A 51 304) + 1).toNat) ∧ (¬ a = -1 → (0 ≤ a ∧ a ≤ FU (A 51 304)) → (y = 0 ∨ y = 1) ∧ (y = 1 ↔ RC (A 51) (A 51 306) a.toNat)) ∧ (¬ a = -1 → ¬ (0 ≤ a ∧ a ≤ FU (A 51 304)) → y = -1)) ∧ QK9 A B JA JB) : CPI B JB R S (v + 1) := by
  obtain ⟨hPH, ⟨-, hQF⟩, hOK, hST, hIM, hDR⟩ := id hP
  obtain ⟨h0, fr⟩ := h0
  obtain ⟨hh, qk⟩ := hh
  have g0 : Kp 0 49 I A ∧ Kp 0 49 J JA ∧ CX A ∧ Fw [] [] I A ∧ True := ⟨h0.1, h0.2.1, h0.2.2.1, h0.2.2.2.1, trivial⟩
  have h1 : Ch [63] [] A B ∧ Kp 49 73 JA JB ∧ RX B ∧ True := ⟨hh.1, hh.2.1, hh.2.2.1, trivial⟩
  have cp := CF_reached hPH.1.1 hC g0 h1
  have cg := CG_reached hPH.1.2 hC hQ g0 h1
  have ch := CH_reached hPH.1 hPH.2 hC g0 h1
  have hph : CPH B R S := ⟨⟨cp, cg⟩, ch⟩
  clear cp cg ch g0 h1
  have zz : ∀ k, 49 ≤ k → k < 73 → A k = I k := fun k h1 _ => h0.1 k (by omega)
  have zj : ∀ k, 49 ≤ k → k < 73 → JA k = J k := fun k h1 _ => h0.2.1 k (by omega)
  have z49 := zz 49 (by decide) (by decide)
  have z50 := zz 50 (by decide) (by decide)
  have z51 := zz 51 (by decide) (by decide)
  have z52 := zz 52 (by decide) (by decide)
  have z53 := zz 53 (by decide) (by decide)
  have z61 := zz 61 (by decide) (by decide)
  have z72 := zz 72 (by decide) (by decide)
  have qa : QF A JA v := QF_kp hQF (congrFun z49 1) (congrFun z49 25) z51 z61 (zj 62 (by decide) (by decide)) (Int.le_refl _)
  have yc : ∀ k, k < 49 ∨ 73 ≤ k → B k = A k := Ch_kp hh.1 (by decide)
  have frB : FRk B JB := FRk_kp (a := 49) (b := 73) fr yc hh.2.1 (by decide)
  have b51 : B 51 = A 51 := (hh.1.1 51 (by decide) (by decide))
  have y51 : B 51 = I 51 := b51.trans z51
  exact ⟨hph, ⟨frB, (QF_tk qa qk.1.2.2.1 qk.2 b51 (by omega))⟩, (OK8_k hOK (fun j _ => congrFun y51 j) ((hh.1.1 52 (by decide) (by decide)).trans z52) ((hh.1.1 53 (by decide) (by decide)).trans z53) (RX_o hQ).2.2.2.2.2.2.2.2.2.2), ⟨(SA8_k hST.1 ((congrFun (yc 0 (by decide)) 16).trans (h0.2.2.2.1 0 16 (by decide) (by decide) (by decide))) ((yc 48 (by decide)).trans (Fw_row h0.2.2.2.1 48 (by decide) (by decide) (by decide))) ((hh.1.2 0 (by decide)).trans (congrFun z49 0)) ((hh.1.1 50 (by decide) (by decide)).trans z50)), (TL8_k hST.2 ((congrFun (yc 1 (by decide)) 8).trans (h0.2.2.2.1 1 8 (by decide) (by decide) (by decide))) ((congrFun (yc 1 (by decide)) 10).trans (h0.2.2.2.1 1 10 (by decide) (by decide) (by decide))) ((yc 5 (by decide)).trans (Fw_row h0.2.2.2.1 5 (by decide) (by decide) (by decide))) (fun j _ => congrFun y51 j))⟩, (IM8_k hIM hC rfl ((hh.1.1 52 (by decide) (by decide)).trans z52) (fun k h1 _ => (yc k (Or.inr h1)).trans (h0.1 k (by omega)))), (DR8_k hDR ((congrFun (yc 0 (by decide)) 13).trans (h0.2.2.2.1 0 13 (by decide) (by decide) (by decide))) ((congrFun (yc 0 (by decide)) 14).trans (h0.2.2.2.1 0 14 (by decide) (by decide) (by decide))) ((yc 47 (by decide)).trans (Fw_row h0.2.2.2.1 47 (by decide) (by decide) (by decide))) ((hh.1.2 39 (by decide)).trans (congrFun z49 39)) ((hh.1.2 40 (by decide)).trans (congrFun z49 40)) ((hh.1.1 72 (by decide) (by decide)).trans z72))⟩
set_option maxHeartbeats 1000000 in
theorem CI8_failing {I A B J JA JB : aI1} {R : aR1} {S : aS1} {a x y v : Int} (hP : CPI I J R S v) (hC : CI I R S) (hQ : RX I) (h0 : (Kp 0 49 I A ∧ Kp 0 49 J JA ∧ CX A ∧ Fw [18, 19, 20, 21, 22, 23, 24, 25, 26, 27, 28, 29, 30] [] I A ∧ (a < -1 → x = -1) ∧ (-1 ≤ a → ∃ o L T F n, KT 2 I o L T ∧ FLg (fun s x => NX (bC 2 o L T) (I 3) (I 1 7) s (FU (I 1 5) + 1) x) L (I 3) (I 1 6) F n ∧ (a = -1 → x = n) ∧ (0 ≤ a → a < n → x = F a.toNat) ∧ (n ≤ a → x = -1))) ∧ FRk A JA) (hh : Ch [61, 64] [25, 28] A B ∧ Kp 49 73 JA JB ∧ RX B ∧ B 51 = A 51 ∧ QF B JB v ∧ ∃ L M F n, zLV (A 51) (A 51 306) (FU (A 51 304) + 1) (A 51 305) (-1) L ∧ MRc (A 51) (A 51 306) (A 51 304) (A 51 305) M ∧ FLg (fun s y => NX (bR 2 s (A 51 304) (A 51 305) (A 51) L M) (A 51) (A 51 306) s (FU (A 51 304) + 1) y) L (A 51) (A 51 305) F n ∧ (a = -1 → y = n) ∧ (0 ≤ a → a < n → y = F a.toNat) ∧ (a < -1 → y = -1) ∧ (n ≤ a → y = -1)) : CPI B JB R S (v + 1) := by
  obtain ⟨hPH, ⟨-, hQF⟩, hOK, hST, hIM, hDR⟩ := id hP
  obtain ⟨h0, fr⟩ := h0
  have g0 : Kp 0 49 I A ∧ Kp 0 49 J JA ∧ CX A ∧ Fw [18, 19, 20, 21, 22, 23, 24, 25, 26, 27, 28, 29, 30, 31, 32, 33, 34, 35, 36] [] I A ∧ True := ⟨h0.1, h0.2.1, h0.2.2.1, (Fw_wd h0.2.2.2.1 (by decide) (by decide)), trivial⟩
  have h1 : Ch [61, 64] [25, 28] A B ∧ Kp 49 73 JA JB ∧ RX B ∧ True := ⟨hh.1, hh.2.1, hh.2.2.1, trivial⟩
  have cp := CF_failing hPH.1.1 hC g0 h1
  have cg := CG_failing hPH.1.2 hC hQ g0 h1
  have ch := CH_failing hPH.1 hPH.2 hC g0 h1
  have hph : CPH B R S := ⟨⟨cp, cg⟩, ch⟩
  clear cp cg ch g0 h1
  have zz : ∀ k, 49 ≤ k → k < 73 → A k = I k := fun k h1 _ => h0.1 k (by omega)
  have zj : ∀ k, 49 ≤ k → k < 73 → JA k = J k := fun k h1 _ => h0.2.1 k (by omega)
  have z49 := zz 49 (by decide) (by decide)
  have z50 := zz 50 (by decide) (by decide)
  have z51 := zz 51 (by decide) (by decide)
  have z52 := zz 52 (by decide) (by decide)
  have z53 := zz 53 (by decide) (by decide)
  have z61 := zz 61 (by decide) (by decide)
  have z72 := zz 72 (by decide) (by decide)
  have qa : QF A JA v := QF_kp hQF (congrFun z49 1) (congrFun z49 25) z51 z61 (zj 62 (by decide) (by decide)) (Int.le_refl _)
  have yc : ∀ k, k < 49 ∨ 73 ≤ k → B k = A k := Ch_kp hh.1 (by decide)
  have frB : FRk B JB := FRk_kp (a := 49) (b := 73) fr yc hh.2.1 (by decide)
  have b51 : B 51 = A 51 := (hh.1.1 51 (by decide) (by decide))
  have y51 : B 51 = I 51 := b51.trans z51
  have hqB : QF B JB v := hh.2.2.2.2.1
  exact ⟨hph, ⟨frB, (QF_mn hqB (by omega))⟩, (OK8_k hOK (fun j _ => congrFun y51 j) ((hh.1.1 52 (by decide) (by decide)).trans z52) ((hh.1.1 53 (by decide) (by decide)).trans z53) (RX_o hQ).2.2.2.2.2.2.2.2.2.2), ⟨(SA8_k hST.1 ((congrFun (yc 0 (by decide)) 16).trans (h0.2.2.2.1 0 16 (by decide) (by decide) (by decide))) ((yc 48 (by decide)).trans (Fw_row h0.2.2.2.1 48 (by decide) (by decide) (by decide))) ((hh.1.2 0 (by decide)).trans (congrFun z49 0)) ((hh.1.1 50 (by decide) (by decide)).trans z50)), (TL8_k hST.2 ((congrFun (yc 1 (by decide)) 8).trans (h0.2.2.2.1 1 8 (by decide) (by decide) (by decide))) ((congrFun (yc 1 (by decide)) 10).trans (h0.2.2.2.1 1 10 (by decide) (by decide) (by decide))) ((yc 5 (by decide)).trans (Fw_row h0.2.2.2.1 5 (by decide) (by decide) (by decide))) (fun j _ => congrFun y51 j))⟩, (IM8_k hIM hC rfl ((hh.1.1 52 (by decide) (by decide)).trans z52) (fun k h1 _ => (yc k (Or.inr h1)).trans (h0.1 k (by omega)))), (DR8_k hDR ((congrFun (yc 0 (by decide)) 13).trans (h0.2.2.2.1 0 13 (by decide) (by decide) (by decide))) ((congrFun (yc 0 (by decide)) 14).trans (h0.2.2.2.1 0 14 (by decide) (by decide) (by decide))) ((yc 47 (by decide)).trans (Fw_row h0.2.2.2.1 47 (by decide) (by decide) (by decide))) ((hh.1.2 39 (by decide)).trans (congrFun z49 39)) ((hh.1.2 40 (by decide)).trans (congrFun z49 40)) ((hh.1.1 72 (by decide) (by decide)).trans z72))⟩
set_option maxHeartbeats 1000000 in
theorem CI8_hurts {I A B J JA JB : aI1} {R : aR1} {S : aS1} {a x y v : Int} (hP : CPI I J R S v) (hC : CI I R S) (hQ : RX I) (h0 : (Kp 0 49 I A ∧ Kp 0 49 J JA ∧ CX A ∧ Fw [18, 19, 20, 21, 22, 23, 24, 25, 26, 27, 28, 29, 30] [] I A ∧ ((0 ≤ a ∧ a < I 1 5) → ∃ L, zLV (I 3) (i_or (I 1 7) (i_shl 1 a)) (FU (I 1 5) + 1) (I 1 6) (-1) L ∧ x = L 0) ∧ (¬ (0 ≤ a ∧ a < I 1 5) → x = -1)) ∧ FRk A JA) (hh : (Ch [61] [25] A B ∧ Kp 49 73 JA JB ∧ RX B ∧ ((0 ≤ a ∧ a < A 51 304) → ∃ L, zLV (A 51) (i_or (A 51 306) (i_shl 1 a)) (FU (A 51 304) + 1) (A 51 305) (-1) L ∧ y = L 0) ∧ (¬ (0 ≤ a ∧ a < A 51 304) → y = -1)) ∧ QK9 A B JA JB) : CPI B JB R S (v + 1) := by
  obtain ⟨hPH, ⟨-, hQF⟩, hOK, hST, hIM, hDR⟩ := id hP
  obtain ⟨h0, fr⟩ := h0
  obtain ⟨hh, qk⟩ := hh
  have g0 : Kp 0 49 I A ∧ Kp 0 49 J JA ∧ CX A ∧ Fw [18, 19, 20, 21, 22, 23, 24, 25, 26, 27, 28, 29, 30, 31, 32, 33, 34, 35, 36] [] I A ∧ True := ⟨h0.1, h0.2.1, h0.2.2.1, (Fw_wd h0.2.2.2.1 (by decide) (by decide)), trivial⟩
  have h1 : Ch [61] [25] A B ∧ Kp 49 73 JA JB ∧ RX B ∧ True := ⟨hh.1, hh.2.1, hh.2.2.1, trivial⟩
  have cp := CF_hurts hPH.1.1 hC g0 h1
  have cg := CG_hurts hPH.1.2 hC hQ g0 h1
  have ch := CH_hurts hPH.1 hPH.2 hC g0 h1
  have hph : CPH B R S := ⟨⟨cp, cg⟩, ch⟩
  clear cp cg ch g0 h1
  have zz : ∀ k, 49 ≤ k → k < 73 → A k = I k := fun k h1 _ => h0.1 k (by omega)
  have zj : ∀ k, 49 ≤ k → k < 73 → JA k = J k := fun k h1 _ => h0.2.1 k (by omega)
  have z49 := zz 49 (by decide) (by decide)
  have z50 := zz 50 (by decide) (by decide)
  have z51 := zz 51 (by decide) (by decide)
  have z52 := zz 52 (by decide) (by decide)
  have z53 := zz 53 (by decide) (by decide)
  have z61 := zz 61 (by decide) (by decide)
  have z72 := zz 72 (by decide) (by decide)
  have qa : QF A JA v := QF_kp hQF (congrFun z49 1) (congrFun z49 25) z51 z61 (zj 62 (by decide) (by decide)) (Int.le_refl _)
  have yc : ∀ k, k < 49 ∨ 73 ≤ k → B k = A k := Ch_kp hh.1 (by decide)
  have frB : FRk B JB := FRk_kp (a := 49) (b := 73) fr yc hh.2.1 (by decide)
  have b51 : B 51 = A 51 := (hh.1.1 51 (by decide) (by decide))
  have y51 : B 51 = I 51 := b51.trans z51
  exact ⟨hph, ⟨frB, (QF_tk qa qk.1.2.2.1 qk.2 b51 (by omega))⟩, (OK8_k hOK (fun j _ => congrFun y51 j) ((hh.1.1 52 (by decide) (by decide)).trans z52) ((hh.1.1 53 (by decide) (by decide)).trans z53) (RX_o hQ).2.2.2.2.2.2.2.2.2.2), ⟨(SA8_k hST.1 ((congrFun (yc 0 (by decide)) 16).trans (h0.2.2.2.1 0 16 (by decide) (by decide) (by decide))) ((yc 48 (by decide)).trans (Fw_row h0.2.2.2.1 48 (by decide) (by decide) (by decide))) ((hh.1.2 0 (by decide)).trans (congrFun z49 0)) ((hh.1.1 50 (by decide) (by decide)).trans z50)), (TL8_k hST.2 ((congrFun (yc 1 (by decide)) 8).trans (h0.2.2.2.1 1 8 (by decide) (by decide) (by decide))) ((congrFun (yc 1 (by decide)) 10).trans (h0.2.2.2.1 1 10 (by decide) (by decide) (by decide))) ((yc 5 (by decide)).trans (Fw_row h0.2.2.2.1 5 (by decide) (by decide) (by decide))) (fun j _ => congrFun y51 j))⟩, (IM8_k hIM hC rfl ((hh.1.1 52 (by decide) (by decide)).trans z52) (fun k h1 _ => (yc k (Or.inr h1)).trans (h0.1 k (by omega)))), (DR8_k hDR ((congrFun (yc 0 (by decide)) 13).trans (h0.2.2.2.1 0 13 (by decide) (by decide) (by decide))) ((congrFun (yc 0 (by decide)) 14).trans (h0.2.2.2.1 0 14 (by decide) (by decide) (by decide))) ((yc 47 (by decide)).trans (Fw_row h0.2.2.2.1 47 (by decide) (by decide) (by decide))) ((hh.1.2 39 (by decide)).trans (congrFun z49 39)) ((hh.1.2 40 (by decide)).trans (congrFun z49 40)) ((hh.1.1 72 (by decide) (by decide)).trans z72))⟩
set_option maxHeartbeats 1000000 in
theorem CI8_codes {I A B J JA JB : aI1} {R : aR1} {S : aS1} {a b c x y v : Int} (hP : CPI I J R S v) (hC : CI I R S) (hQ : RX I) (h0 : (Kp 0 49 I A ∧ Kp 0 49 J JA ∧ CX A ∧ Fw [37, 38, 39, 40, 41, 42, 43, 44, 45] [] I A ∧ SR A ∧ SRF A ∧ (¬ (1 ≤ a ∧ a ≤ 3 ∧ 2 ≤ b ∧ b ≤ 4 ∧ 0 ≤ c ∧ c ≤ 8) → x = -1) ∧ ((1 ≤ a ∧ a ≤ 3 ∧ 2 ≤ b ∧ b ≤ 4 ∧ 0 ≤ c ∧ c ≤ 8) → x = TBX a b c)) ∧ FRk A JA) (hh : (Ch [51, 61, 65, 66] [25, 31] A B ∧ Kp 49 73 JA JB ∧ RX B ∧ (¬ (1 ≤ a ∧ a ≤ 3 ∧ 2 ≤ b ∧ b ≤ 4 ∧ 0 ≤ c ∧ c ≤ 8) → y = -1) ∧ ((1 ≤ a ∧ a ≤ 3 ∧ 2 ≤ b ∧ b ≤ 4 ∧ 0 ≤ c ∧ c ≤ 8) → y = TBX a b c) ∧ B 51 = A 51) ∧ QK9 A B JA JB) : CPI B JB R S (v + 1) := by
  obtain ⟨hPH, ⟨-, hQF⟩, hOK, hST, hIM, hDR⟩ := id hP
  obtain ⟨h0, fr⟩ := h0
  obtain ⟨hh, qk⟩ := hh
  have g0 : Kp 0 49 I A ∧ Kp 0 49 J JA ∧ CX A ∧ Fw [37, 38, 39, 40, 41, 42, 43, 44, 45] [] I A ∧ SR A ∧ SRF A ∧ (¬ (1 ≤ a ∧ a ≤ 3 ∧ 2 ≤ b ∧ b ≤ 4 ∧ 0 ≤ c ∧ c ≤ 8) → x = -1) ∧ ((1 ≤ a ∧ a ≤ 3 ∧ 2 ≤ b ∧ b ≤ 4 ∧ 0 ≤ c ∧ c ≤ 8) → x = TBX a b c) := h0
  have h1 : Ch [51, 61, 65, 66] [25, 31] A B ∧ Kp 49 73 JA JB ∧ RX B ∧ (¬ (1 ≤ a ∧ a ≤ 3 ∧ 2 ≤ b ∧ b ≤ 4 ∧ 0 ≤ c ∧ c ≤ 8) → y = -1) ∧ ((1 ≤ a ∧ a ≤ 3 ∧ 2 ≤ b ∧ b ≤ 4 ∧ 0 ≤ c ∧ c ≤ 8) → y = TBX a b c) ∧ B 51 = A 51 := hh
  have cp := CF_codes hPH.1.1 hC (C65_codes g0) (R65_codes (RX_low hQ h0.1) h1)
  have cg := CG_codes hPH.1.2 hC hQ (C65_codes g0) (R65_codes (RX_low hQ h0.1) h1)
  have ch := CH_codes hPH.1 hPH.2 hC g0 h1
  have hph : CPH B R S := ⟨⟨cp.1, cg⟩, ch⟩
  clear cp cg ch g0 h1
  have zz : ∀ k, 49 ≤ k → k < 73 → A k = I k := fun k h1 _ => h0.1 k (by omega)
  have zj : ∀ k, 49 ≤ k → k < 73 → JA k = J k := fun k h1 _ => h0.2.1 k (by omega)
  have z49 := zz 49 (by decide) (by decide)
  have z50 := zz 50 (by decide) (by decide)
  have z51 := zz 51 (by decide) (by decide)
  have z52 := zz 52 (by decide) (by decide)
  have z53 := zz 53 (by decide) (by decide)
  have z61 := zz 61 (by decide) (by decide)
  have z72 := zz 72 (by decide) (by decide)
  have qa : QF A JA v := QF_kp hQF (congrFun z49 1) (congrFun z49 25) z51 z61 (zj 62 (by decide) (by decide)) (Int.le_refl _)
  have yc : ∀ k, k < 49 ∨ 73 ≤ k → B k = A k := Ch_kp hh.1 (by decide)
  have frB : FRk B JB := FRk_kp (a := 49) (b := 73) fr yc hh.2.1 (by decide)
  have b51 : B 51 = A 51 := hh.2.2.2.2.2
  have y51 : B 51 = I 51 := b51.trans z51
  exact ⟨hph, ⟨frB, (QF_tk qa qk.1.2.2.1 qk.2 b51 (by omega))⟩, (OK8_k hOK (fun j _ => congrFun y51 j) ((hh.1.1 52 (by decide) (by decide)).trans z52) ((hh.1.1 53 (by decide) (by decide)).trans z53) (RX_o hQ).2.2.2.2.2.2.2.2.2.2), ⟨(SA8_k hST.1 ((congrFun (yc 0 (by decide)) 16).trans (h0.2.2.2.1 0 16 (by decide) (by decide) (by decide))) ((yc 48 (by decide)).trans (Fw_row h0.2.2.2.1 48 (by decide) (by decide) (by decide))) ((hh.1.2 0 (by decide)).trans (congrFun z49 0)) ((hh.1.1 50 (by decide) (by decide)).trans z50)), (TL8_k hST.2 ((congrFun (yc 1 (by decide)) 8).trans (h0.2.2.2.1 1 8 (by decide) (by decide) (by decide))) ((congrFun (yc 1 (by decide)) 10).trans (h0.2.2.2.1 1 10 (by decide) (by decide) (by decide))) ((yc 5 (by decide)).trans (Fw_row h0.2.2.2.1 5 (by decide) (by decide) (by decide))) (fun j _ => congrFun y51 j))⟩, (IM8_k hIM hC rfl ((hh.1.1 52 (by decide) (by decide)).trans z52) (fun k h1 _ => (yc k (Or.inr h1)).trans (h0.1 k (by omega)))), (DR8_k hDR ((congrFun (yc 0 (by decide)) 13).trans (h0.2.2.2.1 0 13 (by decide) (by decide) (by decide))) ((congrFun (yc 0 (by decide)) 14).trans (h0.2.2.2.1 0 14 (by decide) (by decide) (by decide))) ((yc 47 (by decide)).trans (Fw_row h0.2.2.2.1 47 (by decide) (by decide) (by decide))) ((hh.1.2 39 (by decide)).trans (congrFun z49 39)) ((hh.1.2 40 (by decide)).trans (congrFun z49 40)) ((hh.1.1 72 (by decide) (by decide)).trans z72))⟩
