section
theorem zTs_len {f : Nat → Int} {n : Nat} : ∀ m k, (zTs f n m k).length ≤ n - k
  | 0, k => Nat.zero_le _
  | m + 1, k => by
    by_cases hk : k < n
    · by_cases hb : f k = 32
      · have e : zTs f n (m + 1) k = zTs f n m (k + 1) := (if_pos hk).trans (if_pos hb)
        rw [e]
        have := zTs_len (f := f) (n := n) m (k + 1)
        omega
      · have e : zTs f n (m + 1) k = (k, zSt f n k) :: zTs f n m (zSt f n k) := (if_pos hk).trans (if_neg hb)
        rw [e, List.length_cons]
        have h1 := zTs_len (f := f) (n := n) m (zSt f n k)
        have h2 := zSt_r (f := f) hk
        omega
    · rw [zTs_0 _ _ hk]
      exact Nat.zero_le _
theorem zTk_len {f : Nat → Int} {n : Nat} : (zTk f n 0).length ≤ n := zTs_len n 0
/-- a told law in class and reference -/
def LC6 (I : aI1) (S : aS1) (w : Nat) (k : Nat → Int) (t : Nat) : Prop := ∃ (f : Nat → Int) (N : Nat) (qs : List zQ), N ≤ 400 ∧ zTx f N = .inr qs ∧ zLR I S w qs ∧ zKe f N k t
def LS6 (I : aI1) (S : aS1) (row : Nat → Option Nat) (k : Nat → Int) (n : Int) : Prop := ∀ t : Nat, (t : Int) < n → ∃ w, row t = some w ∧ LC6 I S w k t
def LAW6 (I : aI1) (R : aR1) (S : aS1) : Prop := (I 1 9 = I 51 310 ∧ I 10 0 = I 49 11) ∧ WD I ∧ LS6 I S (R 4) (I 51) (I 1 9) ∧ ∀ i, i < 2 → ∀ c, R 7 i = some c → I c 9 = I 52 (5117 * i + 310) ∧ LS6 I S (R (c + 3)) (fun j => I 52 (5117 * i + j)) (I c 9)
def CPG (I : aI1) (R : aR1) (S : aS1) : Prop := CPF I R ∧ LAW6 I R S
theorem LC6_k {I B : aI1} {S S' : aS1} {w t : Nat} {k k' : Nat → Int} (h : LC6 I S w k t) (h0 : B w = I w) (h1 : B (w + 1) = I (w + 1)) (h2 : B (w + 2) = I (w + 2)) (hS : SX S S') (hk : ∀ j, (j = 311 + t ∨ (317 + 400 * t ≤ j ∧ j < 717 + 400 * t) ∨ (2717 + 400 * t ≤ j ∧ j < 3117 + 400 * t)) → k' j = k j) : LC6 B S' w k' t := by
  obtain ⟨f, N, qs, g1, g2, g3, g4, g5⟩ := h
  refine ⟨f, N, qs, g1, g2, zLR_k g3 h0 h1 h2 hS, by rw [hk _ (Or.inl rfl)]; exact g4, fun j hj => ?_⟩
  have h9 := zTk_len (f := f) (n := N)
  rw [hk _ (Or.inr (Or.inl ⟨by omega, by omega⟩)), hk _ (Or.inr (Or.inr ⟨by omega, by omega⟩))]
  exact g5 j hj
theorem LS6_k {I B : aI1} {R : aR1} {S S' : aS1} {row row' : Nat → Option Nat} {k k' : Nat → Int} {n n' : Int} (h : LS6 I S row k n) (hn : n ≤ 6) (hn' : n' = n) (hw : ∀ t w, t < 6 → row t = some w → LawOK I R S w) (hkeep : ∀ w, LawOK I R S w → B w = I w ∧ B (w + 1) = I (w + 1) ∧ B (w + 2) = I (w + 2)) (hS : SX S S') (hrow : ∀ t, t < 6 → row' t = row t) (hk : ∀ j, 311 ≤ j → j < 5117 → k' j = k j) : LS6 B S' row' k' n' := fun t ht => by
  obtain ⟨w, w1, w2⟩ := h t (by omega)
  obtain ⟨e0, e1, e2⟩ := hkeep w (hw t w (by omega) w1)
  exact ⟨w, by rw [hrow t (by omega)]; exact w1, LC6_k w2 e0 e1 e2 hS (fun j hj => hk j (by omega) (by omega))⟩
theorem law_lt {I : aI1} {R : aR1} {S : aS1} {w : Nat} (h : LawOK I R S w) : 73 ≤ w ∧ w + 2 < S.length := by
  obtain ⟨h1, -, -, -, -, -, n, -, h2, -⟩ := h
  exact ⟨h1, (List.getElem?_eq_some_iff.mp h2).1⟩
theorem LawOK_keep {I B : aI1} {R : aR1} {S : aS1} (hc : ∀ k, 73 ≤ k → k < S.length → B k = I k) : ∀ w, LawOK I R S w → B w = I w ∧ B (w + 1) = I (w + 1) ∧ B (w + 2) = I (w + 2) := fun w hw => by
  have h := law_lt hw
  exact ⟨hc _ (by omega) (by omega), hc _ (by omega) (by omega), hc _ (by omega) (by omega)⟩
theorem coast_lt {I : aI1} {R : aR1} {S : aS1} {c : Nat} (h : CoastOK I R S c) : 73 ≤ c ∧ c + 5 < S.length ∧ I c 9 ≤ 6 := by
  obtain ⟨h1, h2, h3, -⟩ := h
  exact ⟨h1, (List.getElem?_eq_some_iff.mp h2.2.2.2.2.2.1).1, h3.2.2.2.1.2⟩
/-- the class's cells and the images stay -/
theorem LAW6_g {I B : aI1} {R R' : aR1} {S S' : aS1} (h : LAW6 I R S) (hC : CI I R S) (e9 : B 1 9 = B 51 310) (e0 : B 10 0 = B 49 11) (wd : WD B) (ls : LS6 B S' (R' 4) (B 51) (B 1 9)) (r7 : R' 7 = R 7) (r52 : B 52 = I 52) (hS : SX S S') (hk : ∀ k, 73 ≤ k → k < S.length → B k = I k ∧ R' k = R k) : LAW6 B R' S' := by
  refine ⟨⟨e9, e0⟩, wd, ls, fun i hi c hc => ?_⟩
  rw [r7] at hc
  have hco := hC.2.2.2 i hi c hc
  obtain ⟨k1, k2, k3⟩ := coast_lt hco
  obtain ⟨m1, m2⟩ := h.2.2.2 i hi c hc
  rw [(hk c k1 (by omega)).1, r52, (hk (c + 3) (by omega) (by omega)).2]
  exact ⟨m1, LS6_k (R := R) m2 k3 rfl (fun t w ht hw => hco.2.2.2 t ht w hw) (LawOK_keep (fun k g1 g2 => (hk k g1 g2).1)) hS (fun _ _ => rfl) (fun _ _ _ => rfl)⟩
theorem LAW6_k {I B : aI1} {R : aR1} {S : aS1} (h : LAW6 I R S) (hC : CI I R S) (e9 : B 1 9 = I 1 9) (e0 : B 10 0 = I 10 0) (r11 : B 49 11 = I 49 11) (r54 : B 54 = I 54) (r51 : ∀ j, 310 ≤ j → B 51 j = I 51 j) (r52 : B 52 = I 52) (hc : ∀ k, 73 ≤ k → B k = I k) : LAW6 B R S := by
  have h9 := (XI_o hC.2.1.1).2.2.2.1.2
  refine LAW6_g h hC (by rw [e9, r51 310 (by decide)]; exact h.1.1) (by rw [e0, r11]; exact h.1.2) (fun i hi => by rw [r54]; exact h.2.1 i hi) ?_ rfl r52 SX_rf (fun k g1 _ => ⟨hc k g1, rfl⟩)
  rw [e9]
  exact LS6_k (R := R) h.2.2.1 h9 rfl (fun t w ht hw => hC.2.2.1 t ht w hw) (LawOK_keep (fun k g1 _ => hc k g1)) SX_rf (fun _ _ => rfl) (fun j g1 _ => r51 j (by omega))
set_option maxHeartbeats 1000000 in
theorem CG_lamps {I A B J JA JB : aI1} {R : aR1} {S : aS1} {a x y : Int} (h : LAW6 I R S) (hC : CI I R S) (hQ : RX I) (h0 : Kp 0 49 I A ∧ Kp 0 49 J JA ∧ CX A ∧ Fw [2, 3, 18, 19, 20, 21, 22, 23, 24, 25, 26, 27, 28, 29, 30, 31, 32, 33, 34, 35, 36, 48] [(0, 16), (1, 5), (1, 7), (1, 8), (1, 10), (1, 11)] I A ∧ (¬ (1 ≤ a ∧ a ≤ 8) → x = -1 ∧ RFc I A (-1)) ∧ ((1 ≤ a ∧ a ≤ 8) → x = I 1 5 ∧ Fw [2, 3, 18, 19, 20, 21, 22, 23, 24, 25, 26, 27, 28, 29, 30, 31, 32, 33, 34, 35, 36] [(0, 16), (1, 5), (1, 7), (1, 8), (1, 10), (1, 11)] I A ∧ A 1 5 = a ∧ A 1 7 = 0 ∧ (∀ j, j < 8 → A 2 j = 1) ∧ A 0 16 = 0 ∧ A 1 8 = 0 ∧ A 1 10 = 0 ∧ A 1 11 = 0 ∧ (∀ s, s < 256 → A 3 s = -1))) (hh : Ch [50, 51] [0, 1] A B ∧ Kp 49 73 JA JB ∧ RX B ∧ (¬ (1 ≤ a ∧ a ≤ 8) → y = -1 ∧ B 51 = A 51) ∧ ((1 ≤ a ∧ a ≤ 8) → y = A 51 304 ∧ B 51 304 = a ∧ B 51 306 = 0 ∧ B 51 307 = 0 ∧ B 51 308 = 0 ∧ B 51 309 = 0 ∧ (∀ j, j < 8 → B 51 (256 + j) = 1) ∧ (∀ s, s < 256 → B 51 s = -1) ∧ (∀ j : Nat, 264 ≤ j → j ≠ 304 → j ≠ 306 → j ≠ 307 → j ≠ 308 → j ≠ 309 → B 51 j = A 51 j))) : LAW6 B R S := by
  have z51 : A 51 = I 51 := h0.1 51 (by decide)
  have f9 : A 1 9 = I 1 9 := h0.2.2.2.1 1 9 (by decide) (by decide) (by decide)
  have f0 : A 10 0 = I 10 0 := h0.2.2.2.1 10 0 (by decide) (by decide) (by decide)
  have yc : ∀ k, k < 49 ∨ 73 ≤ k → B k = A k := Ch_kp hh.1 (by decide)
  have x5 := XI_o hC.2.1.1
  have k51 : ∀ j : Nat, 310 ≤ j → B 51 j = A 51 j := fun j hj => by
    by_cases hv : 1 ≤ a ∧ a ≤ 8
    · exact (hh.2.2.2.2 hv).2.2.2.2.2.2.2.2 j (by omega) (by omega) (by omega) (by omega) (by omega) (by omega)
    · rw [(hh.2.2.2.1 hv).2]
  exact LAW6_k h hC ((congrFun (yc 1 (by decide)) 9).trans f9) ((congrFun (yc 10 (by decide)) 0).trans f0) ((hh.1.2 11 (by decide)).trans (congrFun (h0.1 49 (by decide)) 11)) ((hh.1.1 54 (by decide) (by decide)).trans (h0.1 54 (by decide))) (fun j hj => (k51 j hj).trans (congrFun z51 j)) ((hh.1.1 52 (by decide) (by decide)).trans (h0.1 52 (by decide))) (fun k hk => (yc k (by omega)).trans (h0.1 k (by omega)))
set_option maxHeartbeats 1000000 in
theorem CG_news {I A B J JA JB : aI1} {R : aR1} {S : aS1} {a x y : Int} (h : LAW6 I R S) (hC : CI I R S) (hQ : RX I) (h0 : Kp 0 49 I A ∧ Kp 0 49 J JA ∧ CX A ∧ Fw [3, 18, 19, 20, 21, 22, 23, 24, 25, 26, 27, 28, 29, 30, 31, 32, 33, 34, 35, 36, 48] [(0, 16), (1, 6), (1, 8), (1, 10), (1, 11)] I A ∧ (¬ (2 ≤ a ∧ a ≤ 8) → x = -1 ∧ RFc I A (-1)) ∧ ((2 ≤ a ∧ a ≤ 8) → x = I 1 6 ∧ Fw [3, 18, 19, 20, 21, 22, 23, 24, 25, 26, 27, 28, 29, 30, 31, 32, 33, 34, 35, 36] [(0, 16), (1, 6), (1, 8), (1, 10), (1, 11)] I A ∧ A 1 6 = a ∧ A 0 16 = 0 ∧ A 1 8 = 0 ∧ A 1 10 = 0 ∧ A 1 11 = 0 ∧ (∀ s, s < 256 → A 3 s = -1))) (hh : Ch [50, 51] [0, 1] A B ∧ Kp 49 73 JA JB ∧ RX B ∧ (¬ (2 ≤ a ∧ a ≤ 8) → y = -1 ∧ B 51 = A 51) ∧ ((2 ≤ a ∧ a ≤ 8) → y = A 51 305 ∧ B 51 = EMr (up1 (A 51) 305 a))) : LAW6 B R S := by
  have z51 : A 51 = I 51 := h0.1 51 (by decide)
  have f9 : A 1 9 = I 1 9 := h0.2.2.2.1 1 9 (by decide) (by decide) (by decide)
  have f0 : A 10 0 = I 10 0 := h0.2.2.2.1 10 0 (by decide) (by decide) (by decide)
  have yc : ∀ k, k < 49 ∨ 73 ≤ k → B k = A k := Ch_kp hh.1 (by decide)
  have x5 := XI_o hC.2.1.1
  have k51 : ∀ j : Nat, 310 ≤ j → B 51 j = A 51 j := fun j hj => by
    by_cases hv : 2 ≤ a ∧ a ≤ 8
    · rw [(hh.2.2.2.2 hv).2, EMr_o (by omega) (by omega), up1_n _ _ (by omega)]
    · rw [(hh.2.2.2.1 hv).2]
  exact LAW6_k h hC ((congrFun (yc 1 (by decide)) 9).trans f9) ((congrFun (yc 10 (by decide)) 0).trans f0) ((hh.1.2 11 (by decide)).trans (congrFun (h0.1 49 (by decide)) 11)) ((hh.1.1 54 (by decide) (by decide)).trans (h0.1 54 (by decide))) (fun j hj => (k51 j hj).trans (congrFun z51 j)) ((hh.1.1 52 (by decide) (by decide)).trans (h0.1 52 (by decide))) (fun k hk => (yc k (by omega)).trans (h0.1 k (by omega)))
set_option maxHeartbeats 1000000 in
theorem CG_oil {I A B J JA JB : aI1} {R : aR1} {S : aS1} {a b x y : Int} (h : LAW6 I R S) (hC : CI I R S) (hQ : RX I) (h0 : Kp 0 49 I A ∧ Kp 0 49 J JA ∧ CX A ∧ Fw [2, 18, 33, 48] [(0, 16)] I A ∧ (¬ (0 ≤ a ∧ a < I 1 5 ∧ 0 ≤ b ∧ b ≤ 99) → x = -1 ∧ RFc I A (-1)) ∧ ((0 ≤ a ∧ a < I 1 5 ∧ 0 ≤ b ∧ b ≤ 99) → x = I 2 a.toNat ∧ Fw [2, 18, 33] [(0, 16)] I A ∧ A 0 16 = 0 ∧ A 2 = up1 (I 2) a.toNat b)) (hh : Ch [50, 51] [0, 1] A B ∧ Kp 49 73 JA JB ∧ RX B ∧ (¬ (0 ≤ a ∧ a < A 51 304 ∧ 0 ≤ b ∧ b ≤ 99) → y = -1 ∧ B 51 = A 51) ∧ ((0 ≤ a ∧ a < A 51 304 ∧ 0 ≤ b ∧ b ≤ 99) → y = A 51 (256 + a.toNat) ∧ B 51 = up1 (A 51) (256 + a.toNat) b)) : LAW6 B R S := by
  have z51 : A 51 = I 51 := h0.1 51 (by decide)
  have f9 : A 1 9 = I 1 9 := h0.2.2.2.1 1 9 (by decide) (by decide) (by decide)
  have f0 : A 10 0 = I 10 0 := h0.2.2.2.1 10 0 (by decide) (by decide) (by decide)
  have yc : ∀ k, k < 49 ∨ 73 ≤ k → B k = A k := Ch_kp hh.1 (by decide)
  have x5 := XI_o hC.2.1.1
  have q51 := hh.2.2.1.1.1
  have a304 : A 51 304 ≤ 8 := by rw [z51]; exact hQ.1.1.2
  have k51 : ∀ j : Nat, 310 ≤ j → B 51 j = A 51 j := fun j hj => by
    by_cases hv : 0 ≤ a ∧ a < A 51 304 ∧ 0 ≤ b ∧ b ≤ 99
    · rw [(hh.2.2.2.2 hv).2, up1_n _ _ (by omega)]
    · rw [(hh.2.2.2.1 hv).2]
  exact LAW6_k h hC ((congrFun (yc 1 (by decide)) 9).trans f9) ((congrFun (yc 10 (by decide)) 0).trans f0) ((hh.1.2 11 (by decide)).trans (congrFun (h0.1 49 (by decide)) 11)) ((hh.1.1 54 (by decide) (by decide)).trans (h0.1 54 (by decide))) (fun j hj => (k51 j hj).trans (congrFun z51 j)) ((hh.1.1 52 (by decide) (by decide)).trans (h0.1 52 (by decide))) (fun k hk => (yc k (by omega)).trans (h0.1 k (by omega)))
set_option maxHeartbeats 1000000 in
theorem CG_broken {I A B J JA JB : aI1} {R : aR1} {S : aS1} {a b x y : Int} (h : LAW6 I R S) (hC : CI I R S) (hQ : RX I) (h0 : Kp 0 49 I A ∧ Kp 0 49 J JA ∧ CX A ∧ Fw [18, 19, 20, 21, 22, 23, 24, 25, 26, 27, 28, 29, 30, 31, 32, 33, 34, 35, 36, 48] [(0, 16), (1, 7)] I A ∧ (¬ (0 ≤ a ∧ a < I 1 5 ∧ 0 ≤ b ∧ b ≤ 1) → x = -1 ∧ RFc I A (-1)) ∧ ((0 ≤ a ∧ a < I 1 5 ∧ 0 ≤ b ∧ b ≤ 1) → x = i_and (i_shr (I 1 7) a) 1 ∧ Fw [18, 19, 20, 21, 22, 23, 24, 25, 26, 27, 28, 29, 30, 31, 32, 33, 34, 35, 36] [(0, 16), (1, 7)] I A ∧ A 0 16 = 0 ∧ A 1 7 = i_or (i_and (I 1 7) (i_xor (i_shl 1 a) (-1))) (i_shl b a))) (hh : Ch [50, 51] [0, 1] A B ∧ Kp 49 73 JA JB ∧ RX B ∧ (¬ (0 ≤ a ∧ a < A 51 304 ∧ 0 ≤ b ∧ b ≤ 1) → y = -1 ∧ B 51 = A 51) ∧ ((0 ≤ a ∧ a < A 51 304 ∧ 0 ≤ b ∧ b ≤ 1) → y = i_and (i_shr (A 51 306) a) 1 ∧ B 51 = up1 (A 51) 306 (i_or (i_and (A 51 306) (i_xor (i_shl 1 a) (-1))) (i_shl b a)))) : LAW6 B R S := by
  have z51 : A 51 = I 51 := h0.1 51 (by decide)
  have f9 : A 1 9 = I 1 9 := h0.2.2.2.1 1 9 (by decide) (by decide) (by decide)
  have f0 : A 10 0 = I 10 0 := h0.2.2.2.1 10 0 (by decide) (by decide) (by decide)
  have yc : ∀ k, k < 49 ∨ 73 ≤ k → B k = A k := Ch_kp hh.1 (by decide)
  have x5 := XI_o hC.2.1.1
  have q51 := hh.2.2.1.1.1
  have k51 : ∀ j : Nat, 310 ≤ j → B 51 j = A 51 j := fun j hj => by
    by_cases hv : 0 ≤ a ∧ a < A 51 304 ∧ 0 ≤ b ∧ b ≤ 1
    · rw [(hh.2.2.2.2 hv).2, up1_n _ _ (by omega)]
    · rw [(hh.2.2.2.1 hv).2]
  exact LAW6_k h hC ((congrFun (yc 1 (by decide)) 9).trans f9) ((congrFun (yc 10 (by decide)) 0).trans f0) ((hh.1.2 11 (by decide)).trans (congrFun (h0.1 49 (by decide)) 11)) ((hh.1.1 54 (by decide) (by decide)).trans (h0.1 54 (by decide))) (fun j hj => (k51 j hj).trans (congrFun z51 j)) ((hh.1.1 52 (by decide) (by decide)).trans (h0.1 52 (by decide))) (fun k hk => (yc k (by omega)).trans (h0.1 k (by omega)))
set_option maxHeartbeats 1000000 in
theorem CG_read {I A B J JA JB : aI1} {R : aR1} {S : aS1} {a b x y : Int} (h : LAW6 I R S) (hC : CI I R S) (hQ : RX I) (h0 : Kp 0 49 I A ∧ Kp 0 49 J JA ∧ CX A ∧ Fw [3, 18, 19, 20, 21, 22, 23, 24, 25, 26, 27, 28, 29, 30, 31, 32, 33, 34, 35, 36, 48] [(0, 16)] I A ∧ (¬ (0 ≤ a ∧ a ≤ FU (I 1 5) ∧ (b = -1 ∨ (0 ≤ b ∧ b < I 1 6))) → x = -1 ∧ RFc I A (-1)) ∧ ((0 ≤ a ∧ a ≤ FU (I 1 5) ∧ (b = -1 ∨ (0 ≤ b ∧ b < I 1 6))) → x = I 3 a.toNat ∧ Fw [3, 18, 19, 20, 21, 22, 23, 24, 25, 26, 27, 28, 29, 30, 31, 32, 33, 34, 35, 36] [(0, 16)] I A ∧ A 0 16 = 0 ∧ A 3 = up1 (I 3) a.toNat b)) (hh : Ch [50, 51] [0, 1] A B ∧ Kp 49 73 JA JB ∧ RX B ∧ (¬ (0 ≤ a ∧ a ≤ FU (A 51 304) ∧ (b = -1 ∨ (0 ≤ b ∧ b < A 51 305))) → y = -1 ∧ B 51 = A 51) ∧ ((0 ≤ a ∧ a ≤ FU (A 51 304) ∧ (b = -1 ∨ (0 ≤ b ∧ b < A 51 305))) → y = A 51 a.toNat ∧ B 51 = up1 (A 51) a.toNat b)) : LAW6 B R S := by
  have z51 : A 51 = I 51 := h0.1 51 (by decide)
  have f9 : A 1 9 = I 1 9 := h0.2.2.2.1 1 9 (by decide) (by decide) (by decide)
  have f0 : A 10 0 = I 10 0 := h0.2.2.2.1 10 0 (by decide) (by decide) (by decide)
  have yc : ∀ k, k < 49 ∨ 73 ≤ k → B k = A k := Ch_kp hh.1 (by decide)
  have x5 := XI_o hC.2.1.1
  have q51 := hh.2.2.1.1.1
  have a304 : FU (A 51 304) ≤ 255 := by rw [z51]; exact (RX_o hQ).2.2.2.2.2.2.2.2.2.2
  have k51 : ∀ j : Nat, 310 ≤ j → B 51 j = A 51 j := fun j hj => by
    by_cases hv : 0 ≤ a ∧ a ≤ FU (A 51 304) ∧ (b = -1 ∨ (0 ≤ b ∧ b < A 51 305))
    · rw [(hh.2.2.2.2 hv).2, up1_n _ _ (by omega)]
    · rw [(hh.2.2.2.1 hv).2]
  exact LAW6_k h hC ((congrFun (yc 1 (by decide)) 9).trans f9) ((congrFun (yc 10 (by decide)) 0).trans f0) ((hh.1.2 11 (by decide)).trans (congrFun (h0.1 49 (by decide)) 11)) ((hh.1.1 54 (by decide) (by decide)).trans (h0.1 54 (by decide))) (fun j hj => (k51 j hj).trans (congrFun z51 j)) ((hh.1.1 52 (by decide) (by decide)).trans (h0.1 52 (by decide))) (fun k hk => (yc k (by omega)).trans (h0.1 k (by omega)))
set_option maxHeartbeats 1000000 in
theorem CG_of {I A B J JA JB : aI1} {R : aR1} {S : aS1} (h : LAW6 I R S) (hC : CI I R S) (hQ : RX I) (h0 : Kp 0 49 I A ∧ Kp 0 49 J JA ∧ CX A ∧ Fw [] [] I A ∧ True) (hh : A = B ∧ JA = JB ∧ True) : LAW6 A R S := by
  obtain ⟨rfl, rfl, hh⟩ := hh
  have z51 : A 51 = I 51 := h0.1 51 (by decide)
  have f9 : A 1 9 = I 1 9 := h0.2.2.2.1 1 9 (by decide) (by decide) (by decide)
  have f0 : A 10 0 = I 10 0 := h0.2.2.2.1 10 0 (by decide) (by decide) (by decide)
  exact LAW6_k h hC f9 f0 (congrFun (h0.1 49 (by decide)) 11) (h0.1 54 (by decide)) (fun j _ => congrFun z51 j) (h0.1 52 (by decide)) (fun k hk => h0.1 k (by omega))
set_option maxHeartbeats 1000000 in
theorem CG_feed {I A B J JA JB : aI1} {R : aR1} {S : aS1} {a b c e f x y : Int} (h : LAW6 I R S) (hC : CI I R S) (hQ : RX I) (h0 : Kp 0 49 I A ∧ Kp 0 49 J JA ∧ CX A ∧ Fw [8, 9] [] I A ∧ (I 8 1 ≤ 380 → x = I 8 1 + 20 ∧ A 8 1 = I 8 1 + 20 ∧ FDc (I 9) (A 9) (I 8 1) a b c e f) ∧ (¬ I 8 1 ≤ 380 → x = -1 ∧ A 8 1 = I 8 1 ∧ A 9 = I 9)) (hh : Ch [55, 56] [10] A B ∧ Kp 49 73 JA JB ∧ RX B ∧ (A 49 10 ≤ 380 → y = A 49 10 + 20 ∧ B 49 10 = A 49 10 + 20 ∧ FDr (A 55) (B 55) (A 49 10) a b c e f) ∧ (¬ A 49 10 ≤ 380 → y = -1 ∧ B 49 10 = A 49 10 ∧ B 55 = A 55)) : LAW6 B R S := by
  have z51 : A 51 = I 51 := h0.1 51 (by decide)
  have f9 : A 1 9 = I 1 9 := h0.2.2.2.1 1 9 (by decide) (by decide) (by decide)
  have f0 : A 10 0 = I 10 0 := h0.2.2.2.1 10 0 (by decide) (by decide) (by decide)
  have yc : ∀ k, k < 49 ∨ 73 ≤ k → B k = A k := Ch_kp hh.1 (by decide)
  have x5 := XI_o hC.2.1.1
  have k51 : ∀ j : Nat, 310 ≤ j → B 51 j = A 51 j := fun j _ => congrFun (hh.1.1 51 (by decide) (by decide)) j
  exact LAW6_k h hC ((congrFun (yc 1 (by decide)) 9).trans f9) ((congrFun (yc 10 (by decide)) 0).trans f0) ((hh.1.2 11 (by decide)).trans (congrFun (h0.1 49 (by decide)) 11)) ((hh.1.1 54 (by decide) (by decide)).trans (h0.1 54 (by decide))) (fun j hj => (k51 j hj).trans (congrFun z51 j)) ((hh.1.1 52 (by decide) (by decide)).trans (h0.1 52 (by decide))) (fun k hk => (yc k (by omega)).trans (h0.1 k (by omega)))
set_option maxHeartbeats 1000000 in
theorem CG_end {I A B J JA JB : aI1} {R : aR1} {S : aS1} {a x y : Int} (h : LAW6 I R S) (hC : CI I R S) (hQ : RX I) (h0 : Kp 0 49 I A ∧ Kp 0 49 J JA ∧ CX A ∧ Fw [] [(8, 1)] I A ∧ ((0 ≤ a ∧ a ≤ I 8 1) → x = a ∧ A 8 1 = a) ∧ (¬ (0 ≤ a ∧ a ≤ I 8 1) → x = -1 ∧ A 8 1 = I 8 1)) (hh : Ch [] [10] A B ∧ Kp 49 73 JA JB ∧ RX B ∧ ((0 ≤ a ∧ a ≤ A 49 10) → y = a ∧ B 49 10 = a) ∧ (¬ (0 ≤ a ∧ a ≤ A 49 10) → y = -1 ∧ B 49 10 = A 49 10)) : LAW6 B R S := by
  have z51 : A 51 = I 51 := h0.1 51 (by decide)
  have f9 : A 1 9 = I 1 9 := h0.2.2.2.1 1 9 (by decide) (by decide) (by decide)
  have f0 : A 10 0 = I 10 0 := h0.2.2.2.1 10 0 (by decide) (by decide) (by decide)
  have yc : ∀ k, k < 49 ∨ 73 ≤ k → B k = A k := Ch_kp hh.1 (by decide)
  have x5 := XI_o hC.2.1.1
  have k51 : ∀ j : Nat, 310 ≤ j → B 51 j = A 51 j := fun j _ => congrFun (hh.1.1 51 (by decide) (by decide)) j
  exact LAW6_k h hC ((congrFun (yc 1 (by decide)) 9).trans f9) ((congrFun (yc 10 (by decide)) 0).trans f0) ((hh.1.2 11 (by decide)).trans (congrFun (h0.1 49 (by decide)) 11)) ((hh.1.1 54 (by decide) (by decide)).trans (h0.1 54 (by decide))) (fun j hj => (k51 j hj).trans (congrFun z51 j)) ((hh.1.1 52 (by decide) (by decide)).trans (h0.1 52 (by decide))) (fun k hk => (yc k (by omega)).trans (h0.1 k (by omega)))
set_option maxHeartbeats 1000000 in
theorem CG_row {I A B J JA JB : aI1} {R : aR1} {S : aS1} {x y : Int} (h : LAW6 I R S) (hC : CI I R S) (hQ : RX I) (h0 : Kp 0 49 I A ∧ Kp 0 49 J JA ∧ CX A ∧ Fw [3, 18, 19, 20, 21, 22, 23, 24, 25, 26, 27, 28, 29, 30, 31, 32, 33, 34, 35, 36, 48] [(0, 15), (0, 16), (8, 1)] I A ∧ (I 8 1 = 0 → x = -6 ∧ RFc I A (-6)) ∧ (¬ I 8 1 = 0 → Fw [3, 18, 19, 20, 21, 22, 23, 24, 25, 26, 27, 28, 29, 30, 31, 32, 33, 34, 35, 36] [(0, 15), (0, 16), (8, 1)] I A ∧ A 0 16 = 0 ∧ A 8 1 = 0 ∧ A 0 15 = max 0 (I 8 1 - (FU (I 1 5) + 1)) ∧ (∀ j : Nat, A 3 j = if (j : Int) < FU (I 1 5) + 1 then RWv (I 9) (I 8 1) (I 1 6) j else I 3 j) ∧ x = cnR (A 3) (FU (I 1 5) + 1).toNat)) (hh : Ch [50, 51] [0, 1, 6, 10] A B ∧ Kp 49 73 JA JB ∧ RX B ∧ B 49 10 = 0 ∧ (A 49 10 = 0 → y = -6 ∧ B 49 6 = A 49 6 ∧ B 51 = A 51) ∧ (¬ A 49 10 = 0 → B 49 6 = max 0 (A 49 10 - (FU (A 51 304) + 1)) ∧ (∀ j : Nat, B 51 j = if (j : Int) < FU (A 51 304) + 1 then RWv (A 55) (A 49 10) (A 51 305) j else A 51 j) ∧ y = cnR (B 51) (FU (A 51 304) + 1).toNat)) : LAW6 B R S := by
  have z51 : A 51 = I 51 := h0.1 51 (by decide)
  have f9 : A 1 9 = I 1 9 := h0.2.2.2.1 1 9 (by decide) (by decide) (by decide)
  have f0 : A 10 0 = I 10 0 := h0.2.2.2.1 10 0 (by decide) (by decide) (by decide)
  have yc : ∀ k, k < 49 ∨ 73 ≤ k → B k = A k := Ch_kp hh.1 (by decide)
  have x5 := XI_o hC.2.1.1
  have a304 : FU (A 51 304) ≤ 255 := by rw [z51]; exact (RX_o hQ).2.2.2.2.2.2.2.2.2.2
  have k51 : ∀ j : Nat, 310 ≤ j → B 51 j = A 51 j := fun j hj => by
    by_cases hv : A 49 10 = 0
    · rw [(hh.2.2.2.2.1 hv).2.2]
    · rw [(hh.2.2.2.2.2 hv).2.1 j, if_neg (by omega)]
  exact LAW6_k h hC ((congrFun (yc 1 (by decide)) 9).trans f9) ((congrFun (yc 10 (by decide)) 0).trans f0) ((hh.1.2 11 (by decide)).trans (congrFun (h0.1 49 (by decide)) 11)) ((hh.1.1 54 (by decide) (by decide)).trans (h0.1 54 (by decide))) (fun j hj => (k51 j hj).trans (congrFun z51 j)) ((hh.1.1 52 (by decide) (by decide)).trans (h0.1 52 (by decide))) (fun k hk => (yc k (by omega)).trans (h0.1 k (by omega)))
set_option maxHeartbeats 1000000 in
theorem CG_torn {I A B J JA JB : aI1} {R : aR1} {S : aS1} {x y : Int} (h : LAW6 I R S) (hC : CI I R S) (hQ : RX I) (h0 : Kp 0 49 I A ∧ Kp 0 49 J JA ∧ CX A ∧ Fw [] [] I A ∧ x = I 0 15) (hh : A = B ∧ JA = JB ∧ y = A 49 6) : LAW6 A R S := by
  obtain ⟨rfl, rfl, hh⟩ := hh
  have z51 : A 51 = I 51 := h0.1 51 (by decide)
  have f9 : A 1 9 = I 1 9 := h0.2.2.2.1 1 9 (by decide) (by decide) (by decide)
  have f0 : A 10 0 = I 10 0 := h0.2.2.2.1 10 0 (by decide) (by decide) (by decide)
  exact LAW6_k h hC f9 f0 (congrFun (h0.1 49 (by decide)) 11) (h0.1 54 (by decide)) (fun j _ => congrFun z51 j) (h0.1 52 (by decide)) (fun k hk => h0.1 k (by omega))
set_option maxHeartbeats 1000000 in
theorem CG_fault {I A B J JA JB : aI1} {R : aR1} {S : aS1} {x y : Int} (h : LAW6 I R S) (hC : CI I R S) (hQ : RX I) (h0 : Kp 0 49 I A ∧ Kp 0 49 J JA ∧ CX A ∧ Fw [] [] I A ∧ x = I 10 0) (hh : A = B ∧ JA = JB ∧ y = A 49 11) : LAW6 A R S ∧ x = y := by
  obtain ⟨rfl, rfl, hh⟩ := hh
  have z51 : A 51 = I 51 := h0.1 51 (by decide)
  have f9 : A 1 9 = I 1 9 := h0.2.2.2.1 1 9 (by decide) (by decide) (by decide)
  have f0 : A 10 0 = I 10 0 := h0.2.2.2.1 10 0 (by decide) (by decide) (by decide)
  have q0 := h.1.2
  have e11 : A 49 11 = I 49 11 := congrFun (h0.1 49 (by decide)) 11
  have u0 := h0.2.2.2.2
  have u1 := hh
  exact ⟨LAW6_k h hC f9 f0 (congrFun (h0.1 49 (by decide)) 11) (h0.1 54 (by decide)) (fun j _ => congrFun z51 j) (h0.1 52 (by decide)) (fun k hk => h0.1 k (by omega)), by omega⟩
set_option maxHeartbeats 1000000 in
theorem CG_learn {I A B J JA JB : aI1} {R : aR1} {S : aS1} (h : LAW6 I R S) (hC : CI I R S) (hQ : RX I) (h0 : Kp 0 49 I A ∧ Kp 0 49 J JA ∧ CX A ∧ Fw [3, 15, 16, 17, 18, 19, 20, 21, 22, 23, 24, 25, 26, 27, 28, 29, 30, 31, 32, 33, 34, 35, 36, 48] [(0, 16)] I A ∧ True) (hh : Ch [50, 51, 60] [0, 1, 19, 20, 21] A B ∧ Kp 49 73 JA JB ∧ RX B ∧ (∀ j : Nat, 256 ≤ j → B 51 j = A 51 j)) : LAW6 B R S := by
  have z51 : A 51 = I 51 := h0.1 51 (by decide)
  have f9 : A 1 9 = I 1 9 := h0.2.2.2.1 1 9 (by decide) (by decide) (by decide)
  have f0 : A 10 0 = I 10 0 := h0.2.2.2.1 10 0 (by decide) (by decide) (by decide)
  have yc : ∀ k, k < 49 ∨ 73 ≤ k → B k = A k := Ch_kp hh.1 (by decide)
  have x5 := XI_o hC.2.1.1
  have k51 : ∀ j : Nat, 310 ≤ j → B 51 j = A 51 j := fun j hj => hh.2.2.2 j (by omega)
  exact LAW6_k h hC ((congrFun (yc 1 (by decide)) 9).trans f9) ((congrFun (yc 10 (by decide)) 0).trans f0) ((hh.1.2 11 (by decide)).trans (congrFun (h0.1 49 (by decide)) 11)) ((hh.1.1 54 (by decide) (by decide)).trans (h0.1 54 (by decide))) (fun j hj => (k51 j hj).trans (congrFun z51 j)) ((hh.1.1 52 (by decide) (by decide)).trans (h0.1 52 (by decide))) (fun k hk => (yc k (by omega)).trans (h0.1 k (by omega)))
set_option maxHeartbeats 1000000 in
theorem CG_next {I A B J JA JB : aI1} {R : aR1} {S : aS1} (h : LAW6 I R S) (hC : CI I R S) (hQ : RX I) (h0 : Kp 0 49 I A ∧ Kp 0 49 J JA ∧ CX A ∧ Fw [18, 19, 20, 21, 22, 23, 24, 25, 26, 27, 28, 29, 30, 31, 32, 33, 34, 35, 36] [] I A ∧ True) (hh : Ch [61] [25] A B ∧ Kp 49 73 JA JB ∧ RX B ∧ True) : LAW6 B R S := by
  have z51 : A 51 = I 51 := h0.1 51 (by decide)
  have f9 : A 1 9 = I 1 9 := h0.2.2.2.1 1 9 (by decide) (by decide) (by decide)
  have f0 : A 10 0 = I 10 0 := h0.2.2.2.1 10 0 (by decide) (by decide) (by decide)
  have yc : ∀ k, k < 49 ∨ 73 ≤ k → B k = A k := Ch_kp hh.1 (by decide)
  have x5 := XI_o hC.2.1.1
  have k51 : ∀ j : Nat, 310 ≤ j → B 51 j = A 51 j := fun j _ => congrFun (hh.1.1 51 (by decide) (by decide)) j
  exact LAW6_k h hC ((congrFun (yc 1 (by decide)) 9).trans f9) ((congrFun (yc 10 (by decide)) 0).trans f0) ((hh.1.2 11 (by decide)).trans (congrFun (h0.1 49 (by decide)) 11)) ((hh.1.1 54 (by decide) (by decide)).trans (h0.1 54 (by decide))) (fun j hj => (k51 j hj).trans (congrFun z51 j)) ((hh.1.1 52 (by decide) (by decide)).trans (h0.1 52 (by decide))) (fun k hk => (yc k (by omega)).trans (h0.1 k (by omega)))
set_option maxHeartbeats 1000000 in
theorem CG_ways {I A B J JA JB : aI1} {R : aR1} {S : aS1} (h : LAW6 I R S) (hC : CI I R S) (hQ : RX I) (h0 : Kp 0 49 I A ∧ Kp 0 49 J JA ∧ CX A ∧ Fw [] [] I A ∧ True) (hh : A = B ∧ JA = JB ∧ True) : LAW6 A R S := by
  obtain ⟨rfl, rfl, hh⟩ := hh
  have z51 : A 51 = I 51 := h0.1 51 (by decide)
  have f9 : A 1 9 = I 1 9 := h0.2.2.2.1 1 9 (by decide) (by decide) (by decide)
  have f0 : A 10 0 = I 10 0 := h0.2.2.2.1 10 0 (by decide) (by decide) (by decide)
  exact LAW6_k h hC f9 f0 (congrFun (h0.1 49 (by decide)) 11) (h0.1 54 (by decide)) (fun j _ => congrFun z51 j) (h0.1 52 (by decide)) (fun k hk => h0.1 k (by omega))
set_option maxHeartbeats 1000000 in
theorem CG_lasts {I A B J JA JB : aI1} {R : aR1} {S : aS1} (h : LAW6 I R S) (hC : CI I R S) (hQ : RX I) (h0 : Kp 0 49 I A ∧ Kp 0 49 J JA ∧ CX A ∧ Fw [18, 19, 20, 21, 22, 23, 24, 25, 26, 27, 28, 29, 30, 31, 32, 33, 34, 35, 36] [] I A ∧ True) (hh : Ch [61] [25] A B ∧ Kp 49 73 JA JB ∧ RX B ∧ True) : LAW6 B R S := by
  have z51 : A 51 = I 51 := h0.1 51 (by decide)
  have f9 : A 1 9 = I 1 9 := h0.2.2.2.1 1 9 (by decide) (by decide) (by decide)
  have f0 : A 10 0 = I 10 0 := h0.2.2.2.1 10 0 (by decide) (by decide) (by decide)
  have yc : ∀ k, k < 49 ∨ 73 ≤ k → B k = A k := Ch_kp hh.1 (by decide)
  have x5 := XI_o hC.2.1.1
  have k51 : ∀ j : Nat, 310 ≤ j → B 51 j = A 51 j := fun j _ => congrFun (hh.1.1 51 (by decide) (by decide)) j
  exact LAW6_k h hC ((congrFun (yc 1 (by decide)) 9).trans f9) ((congrFun (yc 10 (by decide)) 0).trans f0) ((hh.1.2 11 (by decide)).trans (congrFun (h0.1 49 (by decide)) 11)) ((hh.1.1 54 (by decide) (by decide)).trans (h0.1 54 (by decide))) (fun j hj => (k51 j hj).trans (congrFun z51 j)) ((hh.1.1 52 (by decide) (by decide)).trans (h0.1 52 (by decide))) (fun k hk => (yc k (by omega)).trans (h0.1 k (by omega)))
set_option maxHeartbeats 1000000 in
theorem CG_mean {I A B J JA JB : aI1} {R : aR1} {S : aS1} (h : LAW6 I R S) (hC : CI I R S) (hQ : RX I) (h0 : Kp 0 49 I A ∧ Kp 0 49 J JA ∧ CX A ∧ Fw [18, 19, 20, 21, 22, 23, 24, 25, 26, 27, 28, 29, 30, 31, 32, 33, 34, 35, 36] [] I A ∧ True) (hh : Ch [61] [25] A B ∧ Kp 49 73 JA JB ∧ RX B ∧ True) : LAW6 B R S := by
  have z51 : A 51 = I 51 := h0.1 51 (by decide)
  have f9 : A 1 9 = I 1 9 := h0.2.2.2.1 1 9 (by decide) (by decide) (by decide)
  have f0 : A 10 0 = I 10 0 := h0.2.2.2.1 10 0 (by decide) (by decide) (by decide)
  have yc : ∀ k, k < 49 ∨ 73 ≤ k → B k = A k := Ch_kp hh.1 (by decide)
  have x5 := XI_o hC.2.1.1
  have k51 : ∀ j : Nat, 310 ≤ j → B 51 j = A 51 j := fun j _ => congrFun (hh.1.1 51 (by decide) (by decide)) j
  exact LAW6_k h hC ((congrFun (yc 1 (by decide)) 9).trans f9) ((congrFun (yc 10 (by decide)) 0).trans f0) ((hh.1.2 11 (by decide)).trans (congrFun (h0.1 49 (by decide)) 11)) ((hh.1.1 54 (by decide) (by decide)).trans (h0.1 54 (by decide))) (fun j hj => (k51 j hj).trans (congrFun z51 j)) ((hh.1.1 52 (by decide) (by decide)).trans (h0.1 52 (by decide))) (fun k hk => (yc k (by omega)).trans (h0.1 k (by omega)))
set_option maxHeartbeats 1000000 in
theorem CG_reached {I A B J JA JB : aI1} {R : aR1} {S : aS1} (h : LAW6 I R S) (hC : CI I R S) (hQ : RX I) (h0 : Kp 0 49 I A ∧ Kp 0 49 J JA ∧ CX A ∧ Fw [] [] I A ∧ True) (hh : Ch [63] [] A B ∧ Kp 49 73 JA JB ∧ RX B ∧ True) : LAW6 B R S := by
  have z51 : A 51 = I 51 := h0.1 51 (by decide)
  have f9 : A 1 9 = I 1 9 := h0.2.2.2.1 1 9 (by decide) (by decide) (by decide)
  have f0 : A 10 0 = I 10 0 := h0.2.2.2.1 10 0 (by decide) (by decide) (by decide)
  have yc : ∀ k, k < 49 ∨ 73 ≤ k → B k = A k := Ch_kp hh.1 (by decide)
  have x5 := XI_o hC.2.1.1
  have k51 : ∀ j : Nat, 310 ≤ j → B 51 j = A 51 j := fun j _ => congrFun (hh.1.1 51 (by decide) (by decide)) j
  exact LAW6_k h hC ((congrFun (yc 1 (by decide)) 9).trans f9) ((congrFun (yc 10 (by decide)) 0).trans f0) ((hh.1.2 11 (by decide)).trans (congrFun (h0.1 49 (by decide)) 11)) ((hh.1.1 54 (by decide) (by decide)).trans (h0.1 54 (by decide))) (fun j hj => (k51 j hj).trans (congrFun z51 j)) ((hh.1.1 52 (by decide) (by decide)).trans (h0.1 52 (by decide))) (fun k hk => (yc k (by omega)).trans (h0.1 k (by omega)))
set_option maxHeartbeats 1000000 in
theorem CG_failing {I A B J JA JB : aI1} {R : aR1} {S : aS1} (h : LAW6 I R S) (hC : CI I R S) (hQ : RX I) (h0 : Kp 0 49 I A ∧ Kp 0 49 J JA ∧ CX A ∧ Fw [18, 19, 20, 21, 22, 23, 24, 25, 26, 27, 28, 29, 30, 31, 32, 33, 34, 35, 36] [] I A ∧ True) (hh : Ch [61, 64] [25, 28] A B ∧ Kp 49 73 JA JB ∧ RX B ∧ True) : LAW6 B R S := by
  have z51 : A 51 = I 51 := h0.1 51 (by decide)
  have f9 : A 1 9 = I 1 9 := h0.2.2.2.1 1 9 (by decide) (by decide) (by decide)
  have f0 : A 10 0 = I 10 0 := h0.2.2.2.1 10 0 (by decide) (by decide) (by decide)
  have yc : ∀ k, k < 49 ∨ 73 ≤ k → B k = A k := Ch_kp hh.1 (by decide)
  have x5 := XI_o hC.2.1.1
  have k51 : ∀ j : Nat, 310 ≤ j → B 51 j = A 51 j := fun j _ => congrFun (hh.1.1 51 (by decide) (by decide)) j
  exact LAW6_k h hC ((congrFun (yc 1 (by decide)) 9).trans f9) ((congrFun (yc 10 (by decide)) 0).trans f0) ((hh.1.2 11 (by decide)).trans (congrFun (h0.1 49 (by decide)) 11)) ((hh.1.1 54 (by decide) (by decide)).trans (h0.1 54 (by decide))) (fun j hj => (k51 j hj).trans (congrFun z51 j)) ((hh.1.1 52 (by decide) (by decide)).trans (h0.1 52 (by decide))) (fun k hk => (yc k (by omega)).trans (h0.1 k (by omega)))
set_option maxHeartbeats 1000000 in
theorem CG_hurts {I A B J JA JB : aI1} {R : aR1} {S : aS1} (h : LAW6 I R S) (hC : CI I R S) (hQ : RX I) (h0 : Kp 0 49 I A ∧ Kp 0 49 J JA ∧ CX A ∧ Fw [18, 19, 20, 21, 22, 23, 24, 25, 26, 27, 28, 29, 30, 31, 32, 33, 34, 35, 36] [] I A ∧ True) (hh : Ch [61] [25] A B ∧ Kp 49 73 JA JB ∧ RX B ∧ True) : LAW6 B R S := by
  have z51 : A 51 = I 51 := h0.1 51 (by decide)
  have f9 : A 1 9 = I 1 9 := h0.2.2.2.1 1 9 (by decide) (by decide) (by decide)
  have f0 : A 10 0 = I 10 0 := h0.2.2.2.1 10 0 (by decide) (by decide) (by decide)
  have yc : ∀ k, k < 49 ∨ 73 ≤ k → B k = A k := Ch_kp hh.1 (by decide)
  have x5 := XI_o hC.2.1.1
  have k51 : ∀ j : Nat, 310 ≤ j → B 51 j = A 51 j := fun j _ => congrFun (hh.1.1 51 (by decide) (by decide)) j
  exact LAW6_k h hC ((congrFun (yc 1 (by decide)) 9).trans f9) ((congrFun (yc 10 (by decide)) 0).trans f0) ((hh.1.2 11 (by decide)).trans (congrFun (h0.1 49 (by decide)) 11)) ((hh.1.1 54 (by decide) (by decide)).trans (h0.1 54 (by decide))) (fun j hj => (k51 j hj).trans (congrFun z51 j)) ((hh.1.1 52 (by decide) (by decide)).trans (h0.1 52 (by decide))) (fun k hk => (yc k (by omega)).trans (h0.1 k (by omega)))
set_option maxHeartbeats 1000000 in
theorem CG_codes {I A B J JA JB : aI1} {R : aR1} {S : aS1} {a b c x y : Int} (h : LAW6 I R S) (hC : CI I R S) (hQ : RX I) (h0 : Kp 0 49 I A ∧ Kp 0 49 J JA ∧ CX A ∧ Fw [37, 38, 39, 40, 41, 42, 43, 44, 45] [] I A ∧ SR A ∧ (¬ (1 ≤ a ∧ a ≤ 3 ∧ 2 ≤ b ∧ b ≤ 4 ∧ 0 ≤ c ∧ c ≤ 8) → x = -1) ∧ ((1 ≤ a ∧ a ≤ 3 ∧ 2 ≤ b ∧ b ≤ 4 ∧ 0 ≤ c ∧ c ≤ 8) → x = TBX a b c)) (hh : Ch [51, 61, 65, 66] [25, 31] A B ∧ Kp 49 73 JA JB ∧ RX B ∧ (¬ (1 ≤ a ∧ a ≤ 3 ∧ 2 ≤ b ∧ b ≤ 4 ∧ 0 ≤ c ∧ c ≤ 8) → y = -1) ∧ ((1 ≤ a ∧ a ≤ 3 ∧ 2 ≤ b ∧ b ≤ 4 ∧ 0 ≤ c ∧ c ≤ 8) → y = TBX a b c) ∧ (∀ j : Nat, 256 ≤ j → B 51 j = A 51 j)) : LAW6 B R S := by
  have z51 : A 51 = I 51 := h0.1 51 (by decide)
  have f9 : A 1 9 = I 1 9 := h0.2.2.2.1 1 9 (by decide) (by decide) (by decide)
  have f0 : A 10 0 = I 10 0 := h0.2.2.2.1 10 0 (by decide) (by decide) (by decide)
  have yc : ∀ k, k < 49 ∨ 73 ≤ k → B k = A k := Ch_kp hh.1 (by decide)
  have x5 := XI_o hC.2.1.1
  have k51 : ∀ j : Nat, 310 ≤ j → B 51 j = A 51 j := fun j hj => hh.2.2.2.2.2 j (by omega)
  exact LAW6_k h hC ((congrFun (yc 1 (by decide)) 9).trans f9) ((congrFun (yc 10 (by decide)) 0).trans f0) ((hh.1.2 11 (by decide)).trans (congrFun (h0.1 49 (by decide)) 11)) ((hh.1.1 54 (by decide) (by decide)).trans (h0.1 54 (by decide))) (fun j hj => (k51 j hj).trans (congrFun z51 j)) ((hh.1.1 52 (by decide) (by decide)).trans (h0.1 52 (by decide))) (fun k hk => (yc k (by omega)).trans (h0.1 k (by omega)))
set_option maxHeartbeats 1000000 in
theorem CG_make {I A B J JA JB : aI1} {R : aR1} {S : aS1} {a b c x y : Int} (h : LAW6 I R S) (hC : CI I R S) (hQ : RX I) (h0 : Kp 0 49 I A ∧ Kp 0 49 J JA ∧ CX A ∧ Fw [3, 18, 19, 20, 21, 22, 23, 24, 25, 26, 27, 28, 29, 30, 31, 32, 33, 34, 35, 36, 37, 38, 39, 40, 41, 42, 43, 44, 45, 48] [(0, 16)] I A ∧ SR A ∧ (¬ (1 ≤ a ∧ a ≤ 3 ∧ 2 ≤ b ∧ b ≤ 4 ∧ 0 ≤ c ∧ c ≤ 8) → x = -1) ∧ ((1 ≤ a ∧ a ≤ 3 ∧ 2 ≤ b ∧ b ≤ 4 ∧ 0 ≤ c ∧ c ≤ 8) → ¬ (a = I 1 5 ∧ b = I 1 6 ∧ ¬ TBX a b c = 0) → x = -3) ∧ ((1 ≤ a ∧ a ≤ 3 ∧ 2 ≤ b ∧ b ≤ 4 ∧ 0 ≤ c ∧ c ≤ 8) → (a = I 1 5 ∧ b = I 1 6 ∧ ¬ TBX a b c = 0) → x = 0)) (hh : Ch [50, 51, 61, 65, 66] [0, 1, 25, 31] A B ∧ Kp 49 73 JA JB ∧ RX B ∧ B 51 304 = A 51 304 ∧ B 51 305 = A 51 305 ∧ B 51 309 = A 51 309 ∧ (¬ (1 ≤ a ∧ a ≤ 3 ∧ 2 ≤ b ∧ b ≤ 4 ∧ 0 ≤ c ∧ c ≤ 8) → y = -1) ∧ ((1 ≤ a ∧ a ≤ 3 ∧ 2 ≤ b ∧ b ≤ 4 ∧ 0 ≤ c ∧ c ≤ 8) → ¬ (a = A 51 304 ∧ b = A 51 305 ∧ ¬ TBX a b c = 0) → y = -3) ∧ ((1 ≤ a ∧ a ≤ 3 ∧ 2 ≤ b ∧ b ≤ 4 ∧ 0 ≤ c ∧ c ≤ 8) → (a = A 51 304 ∧ b = A 51 305 ∧ ¬ TBX a b c = 0) → y = 0) ∧ (∀ j : Nat, 256 ≤ j → B 51 j = A 51 j)) : LAW6 B R S := by
  have z51 : A 51 = I 51 := h0.1 51 (by decide)
  have f9 : A 1 9 = I 1 9 := h0.2.2.2.1 1 9 (by decide) (by decide) (by decide)
  have f0 : A 10 0 = I 10 0 := h0.2.2.2.1 10 0 (by decide) (by decide) (by decide)
  have yc : ∀ k, k < 49 ∨ 73 ≤ k → B k = A k := Ch_kp hh.1 (by decide)
  have x5 := XI_o hC.2.1.1
  have k51 : ∀ j : Nat, 310 ≤ j → B 51 j = A 51 j := fun j hj => hh.2.2.2.2.2.2.2.2.2 j (by omega)
  exact LAW6_k h hC ((congrFun (yc 1 (by decide)) 9).trans f9) ((congrFun (yc 10 (by decide)) 0).trans f0) ((hh.1.2 11 (by decide)).trans (congrFun (h0.1 49 (by decide)) 11)) ((hh.1.1 54 (by decide) (by decide)).trans (h0.1 54 (by decide))) (fun j hj => (k51 j hj).trans (congrFun z51 j)) ((hh.1.1 52 (by decide) (by decide)).trans (h0.1 52 (by decide))) (fun k hk => (yc k (by omega)).trans (h0.1 k (by omega)))
set_option maxHeartbeats 1000000 in
theorem CG_send {I A B J JA JB : aI1} {R : aR1} {S : aS1} (h : LAW6 I R S) (hC : CI I R S) (hQ : RX I) (h0 : Kp 0 49 I A ∧ Kp 0 49 J JA ∧ CX A ∧ Fw [5, 18, 19, 20, 21, 22, 23, 24, 25, 26, 27, 28, 29, 30, 31, 32, 33, 34, 35, 36, 48] [(0, 16), (1, 8), (1, 10)] I A ∧ True) (hh : Ch [50, 51, 61] [0, 1, 25] A B ∧ Kp 49 73 JA JB ∧ RX B ∧ (∀ j : Nat, (j < 264 ∨ 288 ≤ j) → j ≠ 307 → j ≠ 308 → B 51 j = A 51 j)) : LAW6 B R S := by
  have z51 : A 51 = I 51 := h0.1 51 (by decide)
  have f9 : A 1 9 = I 1 9 := h0.2.2.2.1 1 9 (by decide) (by decide) (by decide)
  have f0 : A 10 0 = I 10 0 := h0.2.2.2.1 10 0 (by decide) (by decide) (by decide)
  have yc : ∀ k, k < 49 ∨ 73 ≤ k → B k = A k := Ch_kp hh.1 (by decide)
  have x5 := XI_o hC.2.1.1
  have k51 : ∀ j : Nat, 310 ≤ j → B 51 j = A 51 j := fun j hj => hh.2.2.2 j (by omega) (by omega) (by omega)
  exact LAW6_k h hC ((congrFun (yc 1 (by decide)) 9).trans f9) ((congrFun (yc 10 (by decide)) 0).trans f0) ((hh.1.2 11 (by decide)).trans (congrFun (h0.1 49 (by decide)) 11)) ((hh.1.1 54 (by decide) (by decide)).trans (h0.1 54 (by decide))) (fun j hj => (k51 j hj).trans (congrFun z51 j)) ((hh.1.1 52 (by decide) (by decide)).trans (h0.1 52 (by decide))) (fun k hk => (yc k (by omega)).trans (h0.1 k (by omega)))
set_option maxHeartbeats 1000000 in
theorem CG_dawn {I A B J JA JB : aI1} {R : aR1} {S : aS1} {x : Int} (h : LAW6 I R S) (hC : CI I R S) (hQ : RX I) (h0 : Kp 0 49 I A ∧ Kp 0 49 J JA ∧ CX A ∧ Fw [] [(1, 8), (1, 10)] I A ∧ x = bc (I 1 8) ∧ A 1 8 = 0 ∧ A 1 10 = 0) (hh : Ch [51] [1] A B ∧ Kp 49 73 JA JB ∧ RX B ∧ B 51 = up1 (up1 (A 51) 307 0) 308 0) : LAW6 B R S := by
  have z51 : A 51 = I 51 := h0.1 51 (by decide)
  have f9 : A 1 9 = I 1 9 := h0.2.2.2.1 1 9 (by decide) (by decide) (by decide)
  have f0 : A 10 0 = I 10 0 := h0.2.2.2.1 10 0 (by decide) (by decide) (by decide)
  have yc : ∀ k, k < 49 ∨ 73 ≤ k → B k = A k := Ch_kp hh.1 (by decide)
  have x5 := XI_o hC.2.1.1
  have k51 : ∀ j : Nat, 310 ≤ j → B 51 j = A 51 j := fun j hj => by rw [hh.2.2.2, up1_n _ _ (by omega), up1_n _ _ (by omega)]
  exact LAW6_k h hC ((congrFun (yc 1 (by decide)) 9).trans f9) ((congrFun (yc 10 (by decide)) 0).trans f0) ((hh.1.2 11 (by decide)).trans (congrFun (h0.1 49 (by decide)) 11)) ((hh.1.1 54 (by decide) (by decide)).trans (h0.1 54 (by decide))) (fun j hj => (k51 j hj).trans (congrFun z51 j)) ((hh.1.1 52 (by decide) (by decide)).trans (h0.1 52 (by decide))) (fun k hk => (yc k (by omega)).trans (h0.1 k (by omega)))
set_option maxHeartbeats 1000000 in
theorem CG_log {I A B J JA JB : aI1} {R : aR1} {S : aS1} (h : LAW6 I R S) (hC : CI I R S) (hQ : RX I) (h0 : Kp 0 49 I A ∧ Kp 0 49 J JA ∧ CX A ∧ Fw [] [] I A ∧ True) (hh : A = B ∧ JA = JB ∧ True) : LAW6 A R S := by
  obtain ⟨rfl, rfl, hh⟩ := hh
  have z51 : A 51 = I 51 := h0.1 51 (by decide)
  have f9 : A 1 9 = I 1 9 := h0.2.2.2.1 1 9 (by decide) (by decide) (by decide)
  have f0 : A 10 0 = I 10 0 := h0.2.2.2.1 10 0 (by decide) (by decide) (by decide)
  exact LAW6_k h hC f9 f0 (congrFun (h0.1 49 (by decide)) 11) (h0.1 54 (by decide)) (fun j _ => congrFun z51 j) (h0.1 52 (by decide)) (fun k hk => h0.1 k (by omega))
set_option maxHeartbeats 1000000 in
theorem CG_burnt {I A B J JA JB : aI1} {R : aR1} {S : aS1} (h : LAW6 I R S) (hC : CI I R S) (hQ : RX I) (h0 : Kp 0 49 I A ∧ Kp 0 49 J JA ∧ CX A ∧ Fw [18, 19, 20, 21, 22, 23, 24, 25, 26, 27, 28, 29, 30, 31, 32, 33, 34, 35, 36] [] I A ∧ True) (hh : A = B ∧ JA = JB ∧ True) : LAW6 A R S := by
  obtain ⟨rfl, rfl, hh⟩ := hh
  have z51 : A 51 = I 51 := h0.1 51 (by decide)
  have f9 : A 1 9 = I 1 9 := h0.2.2.2.1 1 9 (by decide) (by decide) (by decide)
  have f0 : A 10 0 = I 10 0 := h0.2.2.2.1 10 0 (by decide) (by decide) (by decide)
  exact LAW6_k h hC f9 f0 (congrFun (h0.1 49 (by decide)) 11) (h0.1 54 (by decide)) (fun j _ => congrFun z51 j) (h0.1 52 (by decide)) (fun k hk => h0.1 k (by omega))
set_option maxHeartbeats 1000000 in
theorem CG_trail {I A B J JA JB : aI1} {R : aR1} {S : aS1} {x y : Int} (h : LAW6 I R S) (hC : CI I R S) (hQ : RX I) (h0 : Kp 0 49 I A ∧ Kp 0 49 J JA ∧ CX A ∧ Fw [46, 48] [(0, 12), (0, 16), (8, 1)] I A ∧ (I 8 1 = 0 → x = -6 ∧ RFc I A (-6)) ∧ (¬ I 8 1 = 0 → x = min (I 8 1) 30 ∧ Fw [46] [(0, 12), (0, 16), (8, 1)] I A ∧ A 0 16 = 0 ∧ A 0 12 = min (I 8 1) 30 ∧ A 8 1 = 0 ∧ (∀ j : Nat, (j : Int) < min (I 8 1) 30 → A 46 j = I 9 j))) (hh : Ch [50, 67] [0, 1, 10, 33] A B ∧ Kp 49 73 JA JB ∧ RX B ∧ B 49 10 = 0 ∧ (A 49 10 = 0 → y = -6 ∧ B 49 33 = A 49 33 ∧ B 67 = A 67) ∧ (¬ A 49 10 = 0 → y = min (A 49 10) 30 ∧ B 49 33 = min (A 49 10) 30 ∧ (∀ j : Nat, (j : Int) < min (A 49 10) 30 → B 67 j = i_and (A 55 j) 255))) : LAW6 B R S := by
  have z51 : A 51 = I 51 := h0.1 51 (by decide)
  have f9 : A 1 9 = I 1 9 := h0.2.2.2.1 1 9 (by decide) (by decide) (by decide)
  have f0 : A 10 0 = I 10 0 := h0.2.2.2.1 10 0 (by decide) (by decide) (by decide)
  have yc : ∀ k, k < 49 ∨ 73 ≤ k → B k = A k := Ch_kp hh.1 (by decide)
  have x5 := XI_o hC.2.1.1
  have k51 : ∀ j : Nat, 310 ≤ j → B 51 j = A 51 j := fun j _ => congrFun (hh.1.1 51 (by decide) (by decide)) j
  exact LAW6_k h hC ((congrFun (yc 1 (by decide)) 9).trans f9) ((congrFun (yc 10 (by decide)) 0).trans f0) ((hh.1.2 11 (by decide)).trans (congrFun (h0.1 49 (by decide)) 11)) ((hh.1.1 54 (by decide) (by decide)).trans (h0.1 54 (by decide))) (fun j hj => (k51 j hj).trans (congrFun z51 j)) ((hh.1.1 52 (by decide) (by decide)).trans (h0.1 52 (by decide))) (fun k hk => (yc k (by omega)).trans (h0.1 k (by omega)))
set_option maxHeartbeats 1000000 in
theorem CG_judge {I A B J JA JB : aI1} {R : aR1} {S : aS1} (h : LAW6 I R S) (hC : CI I R S) (hQ : RX I) (h0 : Kp 0 49 I A ∧ Kp 0 49 J JA ∧ CX A ∧ Fw [18, 19, 20, 21, 22, 23, 24, 25, 26, 27, 28, 29, 30, 31, 32, 33, 34, 35, 36] [] I A ∧ True) (hh : Ch [61] [25] A B ∧ Kp 49 73 JA JB ∧ RX B ∧ True) : LAW6 B R S := by
  have z51 : A 51 = I 51 := h0.1 51 (by decide)
  have f9 : A 1 9 = I 1 9 := h0.2.2.2.1 1 9 (by decide) (by decide) (by decide)
  have f0 : A 10 0 = I 10 0 := h0.2.2.2.1 10 0 (by decide) (by decide) (by decide)
  have yc : ∀ k, k < 49 ∨ 73 ≤ k → B k = A k := Ch_kp hh.1 (by decide)
  have x5 := XI_o hC.2.1.1
  have k51 : ∀ j : Nat, 310 ≤ j → B 51 j = A 51 j := fun j _ => congrFun (hh.1.1 51 (by decide) (by decide)) j
  exact LAW6_k h hC ((congrFun (yc 1 (by decide)) 9).trans f9) ((congrFun (yc 10 (by decide)) 0).trans f0) ((hh.1.2 11 (by decide)).trans (congrFun (h0.1 49 (by decide)) 11)) ((hh.1.1 54 (by decide) (by decide)).trans (h0.1 54 (by decide))) (fun j hj => (k51 j hj).trans (congrFun z51 j)) ((hh.1.1 52 (by decide) (by decide)).trans (h0.1 52 (by decide))) (fun k hk => (yc k (by omega)).trans (h0.1 k (by omega)))
set_option maxHeartbeats 1000000 in
theorem CG_rows {I A B J JA JB : aI1} {R : aR1} {S : aS1} (h : LAW6 I R S) (hC : CI I R S) (hQ : RX I) (h0 : Kp 0 49 I A ∧ Kp 0 49 J JA ∧ CX A ∧ Fw [18, 19, 20, 21, 22, 23, 24, 25, 26, 27, 28, 29, 30, 31, 32, 33, 34, 35, 36] [] I A ∧ True) (hh : Ch [61] [25] A B ∧ Kp 49 73 JA JB ∧ RX B ∧ True) : LAW6 B R S := by
  have z51 : A 51 = I 51 := h0.1 51 (by decide)
  have f9 : A 1 9 = I 1 9 := h0.2.2.2.1 1 9 (by decide) (by decide) (by decide)
  have f0 : A 10 0 = I 10 0 := h0.2.2.2.1 10 0 (by decide) (by decide) (by decide)
  have yc : ∀ k, k < 49 ∨ 73 ≤ k → B k = A k := Ch_kp hh.1 (by decide)
  have x5 := XI_o hC.2.1.1
  have k51 : ∀ j : Nat, 310 ≤ j → B 51 j = A 51 j := fun j _ => congrFun (hh.1.1 51 (by decide) (by decide)) j
  exact LAW6_k h hC ((congrFun (yc 1 (by decide)) 9).trans f9) ((congrFun (yc 10 (by decide)) 0).trans f0) ((hh.1.2 11 (by decide)).trans (congrFun (h0.1 49 (by decide)) 11)) ((hh.1.1 54 (by decide) (by decide)).trans (h0.1 54 (by decide))) (fun j hj => (k51 j hj).trans (congrFun z51 j)) ((hh.1.1 52 (by decide) (by decide)).trans (h0.1 52 (by decide))) (fun k hk => (yc k (by omega)).trans (h0.1 k (by omega)))
set_option maxHeartbeats 1000000 in
theorem CG_could {I A B J JA JB : aI1} {R : aR1} {S : aS1} (h : LAW6 I R S) (hC : CI I R S) (hQ : RX I) (h0 : Kp 0 49 I A ∧ Kp 0 49 J JA ∧ CX A ∧ Fw [18, 19, 20, 21, 22, 23, 24, 25, 26, 27, 28, 29, 30, 31, 32, 33, 34, 35, 36] [] I A ∧ True) (hh : Ch [61] [25] A B ∧ Kp 49 73 JA JB ∧ RX B ∧ True) : LAW6 B R S := by
  have z51 : A 51 = I 51 := h0.1 51 (by decide)
  have f9 : A 1 9 = I 1 9 := h0.2.2.2.1 1 9 (by decide) (by decide) (by decide)
  have f0 : A 10 0 = I 10 0 := h0.2.2.2.1 10 0 (by decide) (by decide) (by decide)
  have yc : ∀ k, k < 49 ∨ 73 ≤ k → B k = A k := Ch_kp hh.1 (by decide)
  have x5 := XI_o hC.2.1.1
  have k51 : ∀ j : Nat, 310 ≤ j → B 51 j = A 51 j := fun j _ => congrFun (hh.1.1 51 (by decide) (by decide)) j
  exact LAW6_k h hC ((congrFun (yc 1 (by decide)) 9).trans f9) ((congrFun (yc 10 (by decide)) 0).trans f0) ((hh.1.2 11 (by decide)).trans (congrFun (h0.1 49 (by decide)) 11)) ((hh.1.1 54 (by decide) (by decide)).trans (h0.1 54 (by decide))) (fun j hj => (k51 j hj).trans (congrFun z51 j)) ((hh.1.1 52 (by decide) (by decide)).trans (h0.1 52 (by decide))) (fun k hk => (yc k (by omega)).trans (h0.1 k (by omega)))
set_option maxHeartbeats 1000000 in
theorem CG_maybe {I A B J JA JB : aI1} {R : aR1} {S : aS1} (h : LAW6 I R S) (hC : CI I R S) (hQ : RX I) (h0 : Kp 0 49 I A ∧ Kp 0 49 J JA ∧ CX A ∧ Fw [] [] I A ∧ True) (hh : Ch [63] [] A B ∧ Kp 49 73 JA JB ∧ RX B ∧ True) : LAW6 B R S := by
  have z51 : A 51 = I 51 := h0.1 51 (by decide)
  have f9 : A 1 9 = I 1 9 := h0.2.2.2.1 1 9 (by decide) (by decide) (by decide)
  have f0 : A 10 0 = I 10 0 := h0.2.2.2.1 10 0 (by decide) (by decide) (by decide)
  have yc : ∀ k, k < 49 ∨ 73 ≤ k → B k = A k := Ch_kp hh.1 (by decide)
  have x5 := XI_o hC.2.1.1
  have k51 : ∀ j : Nat, 310 ≤ j → B 51 j = A 51 j := fun j _ => congrFun (hh.1.1 51 (by decide) (by decide)) j
  exact LAW6_k h hC ((congrFun (yc 1 (by decide)) 9).trans f9) ((congrFun (yc 10 (by decide)) 0).trans f0) ((hh.1.2 11 (by decide)).trans (congrFun (h0.1 49 (by decide)) 11)) ((hh.1.1 54 (by decide) (by decide)).trans (h0.1 54 (by decide))) (fun j hj => (k51 j hj).trans (congrFun z51 j)) ((hh.1.1 52 (by decide) (by decide)).trans (h0.1 52 (by decide))) (fun k hk => (yc k (by omega)).trans (h0.1 k (by omega)))
set_option maxHeartbeats 1000000 in
theorem CG_safe {I A B J JA JB : aI1} {R : aR1} {S : aS1} (h : LAW6 I R S) (hC : CI I R S) (hQ : RX I) (h0 : Kp 0 49 I A ∧ Kp 0 49 J JA ∧ CX A ∧ Fw [18, 19, 20, 21, 22, 23, 24, 25, 26, 27, 28, 29, 30, 31, 32, 33, 34, 35, 36] [] I A ∧ True) (hh : Ch [63] [] A B ∧ Kp 49 73 JA JB ∧ RX B ∧ True) : LAW6 B R S := by
  have z51 : A 51 = I 51 := h0.1 51 (by decide)
  have f9 : A 1 9 = I 1 9 := h0.2.2.2.1 1 9 (by decide) (by decide) (by decide)
  have f0 : A 10 0 = I 10 0 := h0.2.2.2.1 10 0 (by decide) (by decide) (by decide)
  have yc : ∀ k, k < 49 ∨ 73 ≤ k → B k = A k := Ch_kp hh.1 (by decide)
  have x5 := XI_o hC.2.1.1
  have k51 : ∀ j : Nat, 310 ≤ j → B 51 j = A 51 j := fun j _ => congrFun (hh.1.1 51 (by decide) (by decide)) j
  exact LAW6_k h hC ((congrFun (yc 1 (by decide)) 9).trans f9) ((congrFun (yc 10 (by decide)) 0).trans f0) ((hh.1.2 11 (by decide)).trans (congrFun (h0.1 49 (by decide)) 11)) ((hh.1.1 54 (by decide) (by decide)).trans (h0.1 54 (by decide))) (fun j hj => (k51 j hj).trans (congrFun z51 j)) ((hh.1.1 52 (by decide) (by decide)).trans (h0.1 52 (by decide))) (fun k hk => (yc k (by omega)).trans (h0.1 k (by omega)))
set_option maxHeartbeats 1000000 in
theorem CG_spy {I A B J JA JB : aI1} {R : aR1} {S : aS1} (h : LAW6 I R S) (hC : CI I R S) (hQ : RX I) (h0 : Kp 0 49 I A ∧ Kp 0 49 J JA ∧ CX A ∧ Fw [] [] I A ∧ True) (hh : Ch [63] [] A B ∧ Kp 49 73 JA JB ∧ RX B ∧ True) : LAW6 B R S := by
  have z51 : A 51 = I 51 := h0.1 51 (by decide)
  have f9 : A 1 9 = I 1 9 := h0.2.2.2.1 1 9 (by decide) (by decide) (by decide)
  have f0 : A 10 0 = I 10 0 := h0.2.2.2.1 10 0 (by decide) (by decide) (by decide)
  have yc : ∀ k, k < 49 ∨ 73 ≤ k → B k = A k := Ch_kp hh.1 (by decide)
  have x5 := XI_o hC.2.1.1
  have k51 : ∀ j : Nat, 310 ≤ j → B 51 j = A 51 j := fun j _ => congrFun (hh.1.1 51 (by decide) (by decide)) j
  exact LAW6_k h hC ((congrFun (yc 1 (by decide)) 9).trans f9) ((congrFun (yc 10 (by decide)) 0).trans f0) ((hh.1.2 11 (by decide)).trans (congrFun (h0.1 49 (by decide)) 11)) ((hh.1.1 54 (by decide) (by decide)).trans (h0.1 54 (by decide))) (fun j hj => (k51 j hj).trans (congrFun z51 j)) ((hh.1.1 52 (by decide) (by decide)).trans (h0.1 52 (by decide))) (fun k hk => (yc k (by omega)).trans (h0.1 k (by omega)))
set_option maxHeartbeats 1000000 in
theorem CG_want {I A B J JA JB : aI1} {R : aR1} {S : aS1} {a x y : Int} (h : LAW6 I R S) (hC : CI I R S) (hQ : RX I) (h0 : Kp 0 49 I A ∧ Kp 0 49 J JA ∧ CX A ∧ Fw [6, 33, 48] [(0, 16), (1, 11)] I A ∧ (¬ (0 ≤ a ∧ a < I 1 6) → x = -1 ∧ RFc I A (-1)) ∧ ((0 ≤ a ∧ a < I 1 6) → (16 ≤ I 1 11 → x = -5 ∧ RFc I A (-5)) ∧ (I 1 11 < 16 → x = I 1 11 + 1 ∧ Fw [6, 33] [(0, 16), (1, 11)] I A ∧ A 0 16 = 0 ∧ A 1 11 = I 1 11 + 1 ∧ A 6 = up1 (I 6) (I 1 11).toNat a))) (hh : Ch [50, 51] [0, 1] A B ∧ Kp 49 73 JA JB ∧ RX B ∧ (¬ (0 ≤ a ∧ a < A 51 305) → y = -1 ∧ B 51 = A 51) ∧ ((0 ≤ a ∧ a < A 51 305) → (16 ≤ A 51 309 → y = -5 ∧ B 51 = A 51) ∧ (A 51 309 < 16 → y = A 51 309 + 1 ∧ B 51 = up1 (up1 (A 51) (288 + (A 51 309).toNat) a) 309 (A 51 309 + 1)))) : LAW6 B R S := by
  have z51 : A 51 = I 51 := h0.1 51 (by decide)
  have f9 : A 1 9 = I 1 9 := h0.2.2.2.1 1 9 (by decide) (by decide) (by decide)
  have f0 : A 10 0 = I 10 0 := h0.2.2.2.1 10 0 (by decide) (by decide) (by decide)
  have yc : ∀ k, k < 49 ∨ 73 ≤ k → B k = A k := Ch_kp hh.1 (by decide)
  have x5 := XI_o hC.2.1.1
  have a304 : 0 ≤ A 51 309 := by rw [z51]; exact hQ.1.2.2.2.2.1.1
  have k51 : ∀ j : Nat, 310 ≤ j → B 51 j = A 51 j := fun j hj => by
    by_cases hv : 0 ≤ a ∧ a < A 51 305
    · by_cases hw : 16 ≤ A 51 309
      · rw [((hh.2.2.2.2 hv).1 hw).2]
      · rw [((hh.2.2.2.2 hv).2 (by omega)).2, up1_n _ _ (by omega), up1_n _ _ (by omega)]
    · rw [(hh.2.2.2.1 hv).2]
  exact LAW6_k h hC ((congrFun (yc 1 (by decide)) 9).trans f9) ((congrFun (yc 10 (by decide)) 0).trans f0) ((hh.1.2 11 (by decide)).trans (congrFun (h0.1 49 (by decide)) 11)) ((hh.1.1 54 (by decide) (by decide)).trans (h0.1 54 (by decide))) (fun j hj => (k51 j hj).trans (congrFun z51 j)) ((hh.1.1 52 (by decide) (by decide)).trans (h0.1 52 (by decide))) (fun k hk => (yc k (by omega)).trans (h0.1 k (by omega)))
set_option maxHeartbeats 1000000 in
theorem CG_unwant {I A B J JA JB : aI1} {R : aR1} {S : aS1} {x y : Int} (h : LAW6 I R S) (hC : CI I R S) (hQ : RX I) (h0 : Kp 0 49 I A ∧ Kp 0 49 J JA ∧ CX A ∧ Fw [33] [(1, 11)] I A ∧ x = I 1 11 ∧ A 1 11 = 0) (hh : Ch [51] [1] A B ∧ Kp 49 73 JA JB ∧ RX B ∧ y = A 51 309 ∧ B 51 = up1 (A 51) 309 0) : LAW6 B R S := by
  have z51 : A 51 = I 51 := h0.1 51 (by decide)
  have f9 : A 1 9 = I 1 9 := h0.2.2.2.1 1 9 (by decide) (by decide) (by decide)
  have f0 : A 10 0 = I 10 0 := h0.2.2.2.1 10 0 (by decide) (by decide) (by decide)
  have yc : ∀ k, k < 49 ∨ 73 ≤ k → B k = A k := Ch_kp hh.1 (by decide)
  have x5 := XI_o hC.2.1.1
  have k51 : ∀ j : Nat, 310 ≤ j → B 51 j = A 51 j := fun j hj => by rw [hh.2.2.2.2, up1_n _ _ (by omega)]
  exact LAW6_k h hC ((congrFun (yc 1 (by decide)) 9).trans f9) ((congrFun (yc 10 (by decide)) 0).trans f0) ((hh.1.2 11 (by decide)).trans (congrFun (h0.1 49 (by decide)) 11)) ((hh.1.1 54 (by decide) (by decide)).trans (h0.1 54 (by decide))) (fun j hj => (k51 j hj).trans (congrFun z51 j)) ((hh.1.1 52 (by decide) (by decide)).trans (h0.1 52 (by decide))) (fun k hk => (yc k (by omega)).trans (h0.1 k (by omega)))
set_option maxHeartbeats 1000000 in
theorem CG_cheap {I A B J JA JB : aI1} {R : aR1} {S : aS1} (h : LAW6 I R S) (hC : CI I R S) (hQ : RX I) (h0 : Kp 0 49 I A ∧ Kp 0 49 J JA ∧ CX A ∧ Fw [18, 19, 20, 21, 22, 23, 24, 25, 26, 27, 28, 29, 30, 31, 32, 33, 34, 35, 36] [] I A ∧ True) (hh : Ch [70, 71] [] A B ∧ Kp 49 73 JA JB ∧ RX B ∧ True) : LAW6 B R S := by
  have z51 : A 51 = I 51 := h0.1 51 (by decide)
  have f9 : A 1 9 = I 1 9 := h0.2.2.2.1 1 9 (by decide) (by decide) (by decide)
  have f0 : A 10 0 = I 10 0 := h0.2.2.2.1 10 0 (by decide) (by decide) (by decide)
  have yc : ∀ k, k < 49 ∨ 73 ≤ k → B k = A k := Ch_kp hh.1 (by decide)
  have x5 := XI_o hC.2.1.1
  have k51 : ∀ j : Nat, 310 ≤ j → B 51 j = A 51 j := fun j _ => congrFun (hh.1.1 51 (by decide) (by decide)) j
  exact LAW6_k h hC ((congrFun (yc 1 (by decide)) 9).trans f9) ((congrFun (yc 10 (by decide)) 0).trans f0) ((hh.1.2 11 (by decide)).trans (congrFun (h0.1 49 (by decide)) 11)) ((hh.1.1 54 (by decide) (by decide)).trans (h0.1 54 (by decide))) (fun j hj => (k51 j hj).trans (congrFun z51 j)) ((hh.1.1 52 (by decide) (by decide)).trans (h0.1 52 (by decide))) (fun k hk => (yc k (by omega)).trans (h0.1 k (by omega)))
set_option maxHeartbeats 1000000 in
theorem CG_plan {I A B J JA JB : aI1} {R : aR1} {S : aS1} (h : LAW6 I R S) (hC : CI I R S) (hQ : RX I) (h0 : Kp 0 49 I A ∧ Kp 0 49 J JA ∧ CX A ∧ Fw [18, 19, 20, 21, 22, 23, 24, 25, 26, 27, 28, 29, 30, 31, 32, 33, 34, 35, 36] [] I A ∧ True) (hh : Ch [70, 71] [] A B ∧ Kp 49 73 JA JB ∧ RX B ∧ True) : LAW6 B R S := by
  have z51 : A 51 = I 51 := h0.1 51 (by decide)
  have f9 : A 1 9 = I 1 9 := h0.2.2.2.1 1 9 (by decide) (by decide) (by decide)
  have f0 : A 10 0 = I 10 0 := h0.2.2.2.1 10 0 (by decide) (by decide) (by decide)
  have yc : ∀ k, k < 49 ∨ 73 ≤ k → B k = A k := Ch_kp hh.1 (by decide)
  have x5 := XI_o hC.2.1.1
  have k51 : ∀ j : Nat, 310 ≤ j → B 51 j = A 51 j := fun j _ => congrFun (hh.1.1 51 (by decide) (by decide)) j
  exact LAW6_k h hC ((congrFun (yc 1 (by decide)) 9).trans f9) ((congrFun (yc 10 (by decide)) 0).trans f0) ((hh.1.2 11 (by decide)).trans (congrFun (h0.1 49 (by decide)) 11)) ((hh.1.1 54 (by decide) (by decide)).trans (h0.1 54 (by decide))) (fun j hj => (k51 j hj).trans (congrFun z51 j)) ((hh.1.1 52 (by decide) (by decide)).trans (h0.1 52 (by decide))) (fun k hk => (yc k (by omega)).trans (h0.1 k (by omega)))
set_option maxHeartbeats 1000000 in
theorem CG_night {I A B J JA JB : aI1} {R : aR1} {S : aS1} (h : LAW6 I R S) (hC : CI I R S) (hQ : RX I) (h0 : Kp 0 49 I A ∧ Kp 0 49 J JA ∧ CX A ∧ Fw [18, 19, 20, 21, 22, 23, 24, 25, 26, 27, 28, 29, 30, 31, 32, 33, 34, 35, 36, 47, 48] [(0, 13), (0, 14), (0, 16)] I A ∧ True) (hh : Ch [50, 61, 72] [0, 1, 25, 39, 40, 41] A B ∧ Kp 49 73 JA JB ∧ RX B ∧ True) : LAW6 B R S := by
  have z51 : A 51 = I 51 := h0.1 51 (by decide)
  have f9 : A 1 9 = I 1 9 := h0.2.2.2.1 1 9 (by decide) (by decide) (by decide)
  have f0 : A 10 0 = I 10 0 := h0.2.2.2.1 10 0 (by decide) (by decide) (by decide)
  have yc : ∀ k, k < 49 ∨ 73 ≤ k → B k = A k := Ch_kp hh.1 (by decide)
  have x5 := XI_o hC.2.1.1
  have k51 : ∀ j : Nat, 310 ≤ j → B 51 j = A 51 j := fun j _ => congrFun (hh.1.1 51 (by decide) (by decide)) j
  exact LAW6_k h hC ((congrFun (yc 1 (by decide)) 9).trans f9) ((congrFun (yc 10 (by decide)) 0).trans f0) ((hh.1.2 11 (by decide)).trans (congrFun (h0.1 49 (by decide)) 11)) ((hh.1.1 54 (by decide) (by decide)).trans (h0.1 54 (by decide))) (fun j hj => (k51 j hj).trans (congrFun z51 j)) ((hh.1.1 52 (by decide) (by decide)).trans (h0.1 52 (by decide))) (fun k hk => (yc k (by omega)).trans (h0.1 k (by omega)))
set_option maxHeartbeats 1000000 in
theorem CG_drawn {I A B J JA JB : aI1} {R : aR1} {S : aS1} (h : LAW6 I R S) (hC : CI I R S) (hQ : RX I) (h0 : Kp 0 49 I A ∧ Kp 0 49 J JA ∧ CX A ∧ Fw [] [] I A ∧ True) (hh : A = B ∧ JA = JB ∧ True) : LAW6 A R S := by
  obtain ⟨rfl, rfl, hh⟩ := hh
  have z51 : A 51 = I 51 := h0.1 51 (by decide)
  have f9 : A 1 9 = I 1 9 := h0.2.2.2.1 1 9 (by decide) (by decide) (by decide)
  have f0 : A 10 0 = I 10 0 := h0.2.2.2.1 10 0 (by decide) (by decide) (by decide)
  exact LAW6_k h hC f9 f0 (congrFun (h0.1 49 (by decide)) 11) (h0.1 54 (by decide)) (fun j _ => congrFun z51 j) (h0.1 52 (by decide)) (fun k hk => h0.1 k (by omega))
set_option maxHeartbeats 1000000 in
theorem CG_count {I A B J JA JB : aI1} {R : aR1} {S : aS1} (h : LAW6 I R S) (hC : CI I R S) (hQ : RX I) (h0 : Kp 0 49 I A ∧ Kp 0 49 J JA ∧ CX A ∧ Fw [] [] I A ∧ True) (hh : A = B ∧ JA = JB ∧ True) : LAW6 A R S := by
  obtain ⟨rfl, rfl, hh⟩ := hh
  have z51 : A 51 = I 51 := h0.1 51 (by decide)
  have f9 : A 1 9 = I 1 9 := h0.2.2.2.1 1 9 (by decide) (by decide) (by decide)
  have f0 : A 10 0 = I 10 0 := h0.2.2.2.1 10 0 (by decide) (by decide) (by decide)
  exact LAW6_k h hC f9 f0 (congrFun (h0.1 49 (by decide)) 11) (h0.1 54 (by decide)) (fun j _ => congrFun z51 j) (h0.1 52 (by decide)) (fun k hk => h0.1 k (by omega))
set_option maxHeartbeats 1000000 in
theorem CG_status {I A B J JA JB : aI1} {R : aR1} {S : aS1} (h : LAW6 I R S) (hC : CI I R S) (hQ : RX I) (h0 : Kp 0 49 I A ∧ Kp 0 49 J JA ∧ CX A ∧ Fw [] [] I A ∧ True) (hh : A = B ∧ JA = JB ∧ True) : LAW6 A R S := by
  obtain ⟨rfl, rfl, hh⟩ := hh
  have z51 : A 51 = I 51 := h0.1 51 (by decide)
  have f9 : A 1 9 = I 1 9 := h0.2.2.2.1 1 9 (by decide) (by decide) (by decide)
  have f0 : A 10 0 = I 10 0 := h0.2.2.2.1 10 0 (by decide) (by decide) (by decide)
  exact LAW6_k h hC f9 f0 (congrFun (h0.1 49 (by decide)) 11) (h0.1 54 (by decide)) (fun j _ => congrFun z51 j) (h0.1 52 (by decide)) (fun k hk => h0.1 k (by omega))
set_option maxHeartbeats 1000000 in
theorem C65_law {I A J JA : aI1} {R R' : aR1} {S S' : aS1} {f : Nat → Int} {N : Nat} {x : Int} (h0 : CI A R' S' ∧ (∀ k, 49 ≤ k → k < 73 → A k = I k ∧ JA k = J k ∧ R' k = R k) ∧ Fw [10, 11, 12, 13, 14, 48] [(0, 16), (1, 9), (8, 1)] I A ∧ R' 7 = R 7 ∧ (∀ k, 73 ≤ k → k < S.length → A k = I k ∧ R' k = R k) ∧ A 8 1 = 0 ∧ SX S S' ∧ (6 ≤ I 1 9 → x = -5 ∧ R' 4 = R 4 ∧ A 1 9 = I 1 9 ∧ A 10 0 = I 10 0) ∧ (I 1 9 < 6 → zCW f N x I A R R' S S')) : CI A R' S' ∧ (∀ k, 49 ≤ k → k < 73 → A k = I k ∧ JA k = J k ∧ R' k = R k) ∧ Fw [10, 11, 12, 13, 14, 48] [(0, 16), (1, 9), (8, 1)] I A ∧ R' 7 = R 7 ∧ (∀ k, 73 ≤ k → k < S.length → A k = I k ∧ R' k = R k) ∧ A 8 1 = 0 := by
  exact ⟨h0.1, h0.2.1, h0.2.2.1, h0.2.2.2.1, h0.2.2.2.2.1, h0.2.2.2.2.2.1⟩
set_option maxHeartbeats 1000000 in
theorem C65_back {I A J JA : aI1} {R R' : aR1} {S S' : aS1} {a x : Int} (h0 : CI A R' S' ∧ (∀ k, 49 ≤ k → k < 73 → A k = I k ∧ JA k = J k ∧ R' k = R k) ∧ Fw [1, 2, 3, 5, 6, 18, 19, 20, 21, 22, 23, 24, 25, 26, 27, 28, 29, 30, 31, 32, 33, 34, 35, 36, 48] [(0, 16)] I A ∧ (¬ (0 ≤ a ∧ a < 2) → x = -1 ∧ RFc I A (-1)) ∧ (¬ (0 ≤ a ∧ a < 2) → R' 7 = R 7 ∧ R' 4 = R 4 ∧ (∀ k, 73 ≤ k → A k = I k ∧ R' k = R k)) ∧ ((0 ≤ a ∧ a < 2) → R 7 a.toNat = none → x = -2 ∧ RFc I A (-2) ∧ R' 7 = R 7 ∧ R' 4 = R 4 ∧ (∀ k, 73 ≤ k → A k = I k ∧ R' k = R k)) ∧ ((0 ≤ a ∧ a < 2) → ∀ c, R 7 a.toNat = some c → x = 0 ∧ Fw [1, 2, 3, 5, 6, 18, 19, 20, 21, 22, 23, 24, 25, 26, 27, 28, 29, 30, 31, 32, 33, 34, 35, 36] [(0, 16)] I A ∧ A 0 16 = 0 ∧ BkC I A R R' c ∧ R' 7 = R 7 ∧ (∀ k, 73 ≤ k → A k = I k ∧ R' k = R k)) ∧ S = S') : CI A R' S' ∧ (∀ k, 49 ≤ k → k < 73 → A k = I k ∧ JA k = J k ∧ R' k = R k) ∧ Fw [1, 2, 3, 5, 6, 18, 19, 20, 21, 22, 23, 24, 25, 26, 27, 28, 29, 30, 31, 32, 33, 34, 35, 36, 48] [(0, 16)] I A ∧ (¬ (0 ≤ a ∧ a < 2) → x = -1 ∧ RFc I A (-1)) ∧ (¬ (0 ≤ a ∧ a < 2) → R' 7 = R 7 ∧ R' 4 = R 4 ∧ (∀ k, 73 ≤ k → A k = I k ∧ R' k = R k)) ∧ ((0 ≤ a ∧ a < 2) → R 7 a.toNat = none → x = -2 ∧ RFc I A (-2) ∧ R' 7 = R 7 ∧ R' 4 = R 4 ∧ (∀ k, 73 ≤ k → A k = I k ∧ R' k = R k)) ∧ ((0 ≤ a ∧ a < 2) → ∀ c, R 7 a.toNat = some c → x = 0 ∧ Fw [1, 2, 3, 5, 6, 18, 19, 20, 21, 22, 23, 24, 25, 26, 27, 28, 29, 30, 31, 32, 33, 34, 35, 36] [(0, 16)] I A ∧ A 0 16 = 0 ∧ BkC I A R R' c ∧ R' 7 = R 7 ∧ (∀ k, 73 ≤ k → A k = I k ∧ R' k = R k)) := by
  exact ⟨h0.1, h0.2.1, h0.2.2.1, h0.2.2.2.1, h0.2.2.2.2.1, h0.2.2.2.2.2.1, h0.2.2.2.2.2.2.1⟩
set_option maxHeartbeats 1000000 in
theorem C65_image {I A J JA : aI1} {R R' : aR1} {S S' : aS1} {a x : Int} (h0 : CI A R' S' ∧ (∀ k, 49 ≤ k → k < 73 → A k = I k ∧ JA k = J k ∧ R' k = R k) ∧ Fw [48] [(0, 16)] I A ∧ (¬ (0 ≤ a ∧ a < 2) → x = -1 ∧ RFc I A (-1)) ∧ (¬ (0 ≤ a ∧ a < 2) → R' 7 = R 7 ∧ R' 4 = R 4 ∧ (∀ k, 73 ≤ k → A k = I k ∧ R' k = R k)) ∧ ((0 ≤ a ∧ a < 2) → x = 0 ∧ Fw [] [(0, 16)] I A ∧ A 0 16 = 0 ∧ ∃ c, R' 7 a.toNat = some c ∧ ImC I A R R' c ∧ (∀ j, j ≠ a.toNat → R' 7 j = R 7 j) ∧ (∀ j, j < 2 → j ≠ a.toNat → ∀ c', R 7 j = some c' → (∀ k, k < 6 → A (c' + k) = I (c' + k)) ∧ R' (c' + 3) = R (c' + 3)) ∧ ((R 7 a.toNat = some c ∧ R' 7 = R 7) ∨ c = S.length) ∧ R' 4 = R 4 ∧ (∀ k, 73 ≤ k → k < S.length → (k < c ∨ c + 6 ≤ k) → A k = I k ∧ R' k = R k)) ∧ SX S S') : CI A R' S' ∧ (∀ k, 49 ≤ k → k < 73 → A k = I k ∧ JA k = J k ∧ R' k = R k) ∧ Fw [48] [(0, 16)] I A ∧ (¬ (0 ≤ a ∧ a < 2) → x = -1 ∧ RFc I A (-1)) ∧ (¬ (0 ≤ a ∧ a < 2) → R' 7 = R 7 ∧ R' 4 = R 4 ∧ (∀ k, 73 ≤ k → A k = I k ∧ R' k = R k)) ∧ ((0 ≤ a ∧ a < 2) → x = 0 ∧ Fw [] [(0, 16)] I A ∧ A 0 16 = 0 ∧ ∃ c, R' 7 a.toNat = some c ∧ ImC I A R R' c ∧ (∀ j, j ≠ a.toNat → R' 7 j = R 7 j) ∧ (∀ j, j < 2 → j ≠ a.toNat → ∀ c', R 7 j = some c' → (∀ k, k < 6 → A (c' + k) = I (c' + k)) ∧ R' (c' + 3) = R (c' + 3)) ∧ ((R 7 a.toNat = some c ∧ R' 7 = R 7) ∨ c = S.length) ∧ R' 4 = R 4) := by
  refine ⟨h0.1, h0.2.1, h0.2.2.1, h0.2.2.2.1, h0.2.2.2.2.1, fun hv => ?_⟩
  obtain ⟨c1, c2, c3, c, d1, d2, d3, d4, d5, d6, -⟩ := h0.2.2.2.2.2.1 hv
  exact ⟨c1, c2, c3, c, d1, d2, d3, d4, d5, d6⟩
theorem R65_law {A B JA JB : aI1} {f : Nat → Int} {N : Nat} {y : Int} (hQ : RX A) (hh : Ch [50, 51, 57, 58, 59] [0, 1, 10, 11, 15, 16, 17, 18] A B ∧ Kp 49 73 JA JB ∧ RX B ∧ B 49 10 = 0 ∧ (A 51 310 = 6 → y = -5 ∧ B 51 = A 51 ∧ B 49 11 = A 49 11) ∧ (¬ A 51 310 = 6 → zRW f N y A B)) : Ch [50, 51, 57, 58, 59] [0, 1, 10, 11, 15, 16, 17, 18] A B ∧ Kp 49 73 JA JB ∧ RX B ∧ B 49 10 = 0 ∧ (∀ j : Nat, j < 310 → B 51 j = A 51 j) := by
  refine ⟨hh.1, hh.2.1, hh.2.2.1, hh.2.2.2.1, fun j hj => ?_⟩
  by_cases hv : A 51 310 = 6
  · rw [(hh.2.2.2.2.1 hv).2.1]
  · have h9 := hh.2.2.2.2.2 hv
    have hq := hQ.1.2.2.2.2.2.1
    cases hr : zTx f N with
    | inl fp => rw [(h9.1 fp hr).2.1]
    | inr qs => exact (h9.2 qs hr).2.2.2.2 j ⟨by omega, by omega, by omega, by omega⟩
set_option maxHeartbeats 1000000 in
theorem CG_law {I A B J JA JB : aI1} {R R' : aR1} {S S' : aS1} {f : Nat → Int} {N : Nat} {x y : Int} (h : LAW6 I R S) (hC : CI I R S) (hN4 : N ≤ 400) (h0 : CI A R' S' ∧ (∀ k, 49 ≤ k → k < 73 → A k = I k ∧ JA k = J k ∧ R' k = R k) ∧ Fw [10, 11, 12, 13, 14, 48] [(0, 16), (1, 9), (8, 1)] I A ∧ R' 7 = R 7 ∧ (∀ k, 73 ≤ k → k < S.length → A k = I k ∧ R' k = R k) ∧ A 8 1 = 0 ∧ SX S S' ∧ (6 ≤ I 1 9 → x = -5 ∧ R' 4 = R 4 ∧ A 1 9 = I 1 9 ∧ A 10 0 = I 10 0) ∧ (I 1 9 < 6 → zCW f N x I A R R' S S')) (hh : Ch [50, 51, 57, 58, 59] [0, 1, 10, 11, 15, 16, 17, 18] A B ∧ Kp 49 73 JA JB ∧ RX B ∧ B 49 10 = 0 ∧ (A 51 310 = 6 → y = -5 ∧ B 51 = A 51 ∧ B 49 11 = A 49 11) ∧ (¬ A 51 310 = 6 → zRW f N y A B)) : LAW6 B R' S' ∧ x = y := by
  obtain ⟨⟨q9, q0⟩, wd, ls, im⟩ := id h
  have yc : ∀ k, k < 49 ∨ 73 ≤ k → B k = A k := Ch_kp hh.1 (by decide)
  have zz : ∀ k, 49 ≤ k → k < 73 → A k = I k := fun k h1 h2 => (h0.2.1 k h1 h2).1
  have z51 := zz 51 (by decide) (by decide)
  have x9 := (XI_o hC.2.1.1).2.2.2.1
  have hl73 : 73 ≤ S.length := (List.getElem?_eq_some_iff.mp (xs_72 hC.1)).1
  obtain ⟨-, -, -, r7, hk, -, hS, c6, cw⟩ := h0
  obtain ⟨d6, dw⟩ := hh.2.2.2.2
  have wdB : WD B := fun i hi => by rw [hh.1.1 54 (by decide) (by decide), zz 54 (by decide) (by decide)]; exact wd i hi
  have r52 : B 52 = I 52 := (hh.1.1 52 (by decide) (by decide)).trans (zz 52 (by decide) (by decide))
  have hkB : ∀ k, 73 ≤ k → k < S.length → B k = I k ∧ R' k = R k := fun k h1 h2 => ⟨(yc k (Or.inr h1)).trans (hk k h1 h2).1, (hk k h1 h2).2⟩
  have a310 : A 51 310 = I 1 9 := by rw [z51]; exact q9.symm
  have a11 : A 49 11 = I 10 0 := by rw [zz 49 (by decide) (by decide)]; exact q0.symm
  have b9 : B 1 9 = A 1 9 := congrFun (yc 1 (by decide)) 9
  have b0 : B 10 0 = A 10 0 := congrFun (yc 10 (by decide)) 0
  have same : R' 4 = R 4 → A 1 9 = I 1 9 → B 51 = A 51 → A 10 0 = B 49 11 → LAW6 B R' S' := fun e4 e9 e51 e0 => by
    refine LAW6_g h hC (by rw [b9, e9, e51]; exact a310.symm) (b0.trans e0) wdB ?_ r7 r52 hS hkB
    rw [e4, b9, e9, e51, z51]
    exact LS6_k (R := R) ls x9.2 rfl (fun t w ht hw => hC.2.2.1 t ht w hw) (LawOK_keep (fun k g1 g2 => (hkB k g1 g2).1)) hS (fun _ _ => rfl) (fun _ _ _ => rfl)
  by_cases hv : I 1 9 = 6
  · obtain ⟨u1, u2, u3, u4⟩ := c6 (by omega)
    obtain ⟨v1, v2, v3⟩ := d6 (by omega)
    exact ⟨same u2 u3 v2 (by omega), by omega⟩
  · have cw := cw (by omega)
    have dw := dw (by omega)
    cases hr : zTx f N with
    | inl fp =>
      obtain ⟨u1, u2, u3, u4⟩ := cw.1 fp hr
      obtain ⟨v1, v2, v3⟩ := dw.1 fp hr
      exact ⟨same u2 u3 v2 (by omega), by omega⟩
    | inr qs =>
      obtain ⟨u1, u2, u3, u4, u5, u6⟩ := cw.2 qs hr
      obtain ⟨v1, v2, v3, v4, v5⟩ := dw.2 qs hr
      rw [a310] at v4
      refine ⟨LAW6_g h hC (by omega) (by omega) wdB (fun t ht => ?_) r7 r52 hS hkB, by omega⟩
      by_cases ht9 : (t : Int) = I 1 9
      · refine ⟨S.length, by rw [u4, show t = (I 1 9).toNat by omega, up1_s], f, N, qs, hN4, hr, zLR_k u6 (yc _ (Or.inr (by omega))) (yc _ (Or.inr (by omega))) (yc _ (Or.inr (by omega))) SX_rf, ?_⟩
        rw [show t = (I 1 9).toNat by omega]
        exact v4
      · obtain ⟨w, w1, w2⟩ := ls t (by omega)
        have hw := law_lt (hC.2.2.1 t (by omega) w w1)
        refine ⟨w, by rw [u4, up1_n _ _ (by omega)]; exact w1, LC6_k w2 (hkB w (by omega) (by omega)).1 (hkB _ (by omega) (by omega)).1 (hkB _ (by omega) (by omega)).1 hS (fun j hj => ?_)⟩
        rw [v5 j ⟨by omega, by omega, by omega, by omega⟩, z51]
set_option maxHeartbeats 1000000 in
theorem CG_back {I A B J JA JB : aI1} {R R' : aR1} {S S' : aS1} {a x y : Int} (h : LAW6 I R S) (hC : CI I R S) (hHI : HI5 I R) (h0 : CI A R' S' ∧ (∀ k, 49 ≤ k → k < 73 → A k = I k ∧ JA k = J k ∧ R' k = R k) ∧ Fw [1, 2, 3, 5, 6, 18, 19, 20, 21, 22, 23, 24, 25, 26, 27, 28, 29, 30, 31, 32, 33, 34, 35, 36, 48] [(0, 16)] I A ∧ (¬ (0 ≤ a ∧ a < 2) → x = -1 ∧ RFc I A (-1)) ∧ (¬ (0 ≤ a ∧ a < 2) → R' 7 = R 7 ∧ R' 4 = R 4 ∧ (∀ k, 73 ≤ k → A k = I k ∧ R' k = R k)) ∧ ((0 ≤ a ∧ a < 2) → R 7 a.toNat = none → x = -2 ∧ RFc I A (-2) ∧ R' 7 = R 7 ∧ R' 4 = R 4 ∧ (∀ k, 73 ≤ k → A k = I k ∧ R' k = R k)) ∧ ((0 ≤ a ∧ a < 2) → ∀ c, R 7 a.toNat = some c → x = 0 ∧ Fw [1, 2, 3, 5, 6, 18, 19, 20, 21, 22, 23, 24, 25, 26, 27, 28, 29, 30, 31, 32, 33, 34, 35, 36] [(0, 16)] I A ∧ A 0 16 = 0 ∧ BkC I A R R' c ∧ R' 7 = R 7 ∧ (∀ k, 73 ≤ k → A k = I k ∧ R' k = R k)) ∧ S = S') (hh : Ch [50, 51] [0, 1] A B ∧ Kp 49 73 JA JB ∧ RX B ∧ (¬ (0 ≤ a ∧ a < 2) → y = -1 ∧ B 51 = A 51) ∧ ((0 ≤ a ∧ a < 2) → (A 53 a.toNat = 0 → y = -2 ∧ B 51 = A 51) ∧ (¬ A 53 a.toNat = 0 → y = 0 ∧ ∀ j : Nat, j < 5117 → B 51 j = A 52 (5117 * a.toNat + j)))) : LAW6 B R' S' := by
  obtain ⟨⟨q9, q0⟩, wd, ls, im⟩ := id h
  have yc : ∀ k, k < 49 ∨ 73 ≤ k → B k = A k := Ch_kp hh.1 (by decide)
  have zz : ∀ k, 49 ≤ k → k < 73 → A k = I k := fun k h1 h2 => (h0.2.1 k h1 h2).1
  have z51 := zz 51 (by decide) (by decide)
  have z52 := zz 52 (by decide) (by decide)
  have z53 := zz 53 (by decide) (by decide)
  have x9 := (XI_o hC.2.1.1).2.2.2.1
  have wdB : WD B := fun i hi => by rw [hh.1.1 54 (by decide) (by decide), zz 54 (by decide) (by decide)]; exact wd i hi
  have r52 : B 52 = I 52 := (hh.1.1 52 (by decide) (by decide)).trans z52
  have b9 : B 1 9 = A 1 9 := congrFun (yc 1 (by decide)) 9
  have b0 : B 10 0 = I 10 0 := (congrFun (yc 10 (by decide)) 0).trans (h0.2.2.1 10 0 (by decide) (by decide) (by decide))
  have e0 : B 10 0 = B 49 11 := by rw [b0, hh.1.2 11 (by decide), zz 49 (by decide) (by decide)]; exact q0
  obtain ⟨-, -, -, c1, c2, c3, c4, rfl⟩ := h0
  obtain ⟨d1, d2⟩ := hh.2.2.2
  have same : R' 7 = R 7 → R' 4 = R 4 → (∀ k, 73 ≤ k → A k = I k ∧ R' k = R k) → A 1 9 = I 1 9 → B 51 = A 51 → LAW6 B R' S := fun e7 e4 ek e9 e51 => by
    refine LAW6_g h hC (by rw [b9, e9, e51, z51]; exact q9) e0 wdB ?_ e7 r52 SX_rf (fun k g1 _ => ⟨(yc k (Or.inr g1)).trans (ek k g1).1, (ek k g1).2⟩)
    rw [e4, b9, e9, e51, z51]
    exact LS6_k (R := R) ls x9.2 rfl (fun t w ht hw => hC.2.2.1 t ht w hw) (LawOK_keep (fun k g1 _ => (yc k (Or.inr g1)).trans (ek k g1).1)) SX_rf (fun _ _ => rfl) (fun _ _ _ => rfl)
  by_cases hv : 0 ≤ a ∧ a < 2
  · have d2 := d2 hv
    rw [z53] at d2
    have h4 := hHI a.toNat (by omega)
    cases hn : R 7 a.toNat with
    | none =>
      obtain ⟨-, u2, u3, u4, u5⟩ := c3 hv hn
      exact same u3 u4 u5 (u2.1 1 9 (by decide) (by decide) (by decide)) (d2.1 (h4.mp hn)).2
    | some c0 =>
      obtain ⟨-, u2, u3, u4, u5, u6⟩ := c4 hv c0 hn
      have d3 := (d2.2 (fun q => by rw [h4.mpr q] at hn; cases hn)).2
      have hco := hC.2.2.2 a.toNat (by omega) c0 hn
      obtain ⟨k1, k2, k3⟩ := coast_lt hco
      obtain ⟨m1, m2⟩ := im a.toNat (by omega) c0 hn
      have a9 : A 1 9 = I c0 9 := u4.1 9 (by decide) (by decide)
      refine LAW6_g h hC (by rw [b9, a9, d3 310 (by decide), z52]; exact m1) e0 wdB ?_ u5 r52 SX_rf (fun k g1 _ => ⟨(yc k (Or.inr g1)).trans (u6 k g1).1, (u6 k g1).2⟩)
      rw [b9, a9]
      exact LS6_k (R := R) m2 k3 rfl (fun t w ht hw => hco.2.2.2 t ht w hw) (LawOK_keep (fun k g1 _ => (yc k (Or.inr g1)).trans (u6 k g1).1)) SX_rf (fun t ht => u4.2.2.2.2.2 t ht) (fun j _ g2 => by rw [d3 j g2, z52])
  · obtain ⟨e7, e4, ek⟩ := c2 hv
    exact same e7 e4 ek ((c1 hv).2.1 1 9 (by decide) (by decide) (by decide)) (d1 hv).2
set_option maxHeartbeats 1000000 in
theorem CG_image {I A B J JA JB : aI1} {R R' : aR1} {S S' : aS1} {a x y : Int} (h : LAW6 I R S) (hC : CI I R S) (h0 : CI A R' S' ∧ (∀ k, 49 ≤ k → k < 73 → A k = I k ∧ JA k = J k ∧ R' k = R k) ∧ Fw [48] [(0, 16)] I A ∧ (¬ (0 ≤ a ∧ a < 2) → x = -1 ∧ RFc I A (-1)) ∧ (¬ (0 ≤ a ∧ a < 2) → R' 7 = R 7 ∧ R' 4 = R 4 ∧ (∀ k, 73 ≤ k → A k = I k ∧ R' k = R k)) ∧ ((0 ≤ a ∧ a < 2) → x = 0 ∧ Fw [] [(0, 16)] I A ∧ A 0 16 = 0 ∧ ∃ c, R' 7 a.toNat = some c ∧ ImC I A R R' c ∧ (∀ j, j ≠ a.toNat → R' 7 j = R 7 j) ∧ (∀ j, j < 2 → j ≠ a.toNat → ∀ c', R 7 j = some c' → (∀ k, k < 6 → A (c' + k) = I (c' + k)) ∧ R' (c' + 3) = R (c' + 3)) ∧ ((R 7 a.toNat = some c ∧ R' 7 = R 7) ∨ c = S.length) ∧ R' 4 = R 4 ∧ (∀ k, 73 ≤ k → k < S.length → (k < c ∨ c + 6 ≤ k) → A k = I k ∧ R' k = R k)) ∧ SX S S') (hh : Ch [50, 52, 53] [0, 1] A B ∧ Kp 49 73 JA JB ∧ RX B ∧ (¬ (0 ≤ a ∧ a < 2) → y = -1 ∧ B 53 = A 53 ∧ B 52 = A 52) ∧ ((0 ≤ a ∧ a < 2) → y = 0 ∧ B 53 = up1 (A 53) a.toNat 1 ∧ (∀ j : Nat, j < 5117 → B 52 (5117 * a.toNat + j) = A 51 j) ∧ (∀ b : Nat, (b < 5117 * a.toNat ∨ 5117 * a.toNat + 5117 ≤ b) → B 52 b = A 52 b))) : LAW6 B R' S' := by
  obtain ⟨⟨q9, q0⟩, wd, ls, im⟩ := id h
  have yc : ∀ k, k < 49 ∨ 73 ≤ k → B k = A k := Ch_kp hh.1 (by decide)
  have zz : ∀ k, 49 ≤ k → k < 73 → A k = I k := fun k h1 h2 => (h0.2.1 k h1 h2).1
  have z51 := zz 51 (by decide) (by decide)
  have z52 := zz 52 (by decide) (by decide)
  have x9 := (XI_o hC.2.1.1).2.2.2.1
  have b51 : B 51 = I 51 := (hh.1.1 51 (by decide) (by decide)).trans z51
  have wdB : WD B := fun i hi => by rw [hh.1.1 54 (by decide) (by decide), zz 54 (by decide) (by decide)]; exact wd i hi
  have w := h0.2.2.1
  have b9 : B 1 9 = I 1 9 := (congrFun (yc 1 (by decide)) 9).trans (w 1 9 (by decide) (by decide) (by decide))
  have b0 : B 10 0 = I 10 0 := (congrFun (yc 10 (by decide)) 0).trans (w 10 0 (by decide) (by decide) (by decide))
  have e9 : B 1 9 = B 51 310 := by rw [b9, b51]; exact q9
  have e0 : B 10 0 = B 49 11 := by rw [b0, hh.1.2 11 (by decide), zz 49 (by decide) (by decide)]; exact q0
  obtain ⟨-, -, -, c1, c2, c3, hS⟩ := h0
  obtain ⟨d1, d2⟩ := hh.2.2.2
  by_cases hv : 0 ≤ a ∧ a < 2
  · obtain ⟨-, -, -, c0, r1, ic, r2, r3, r4, e4, hk⟩ := c3 hv
    obtain ⟨-, -, d3, d4⟩ := d2 hv
    have keep : ∀ w, LawOK I R S w → B w = I w ∧ B (w + 1) = I (w + 1) ∧ B (w + 2) = I (w + 2) := fun w hw => by
      have h1 := law_lt hw
      have h2 : w + 2 < c0 ∨ c0 + 5 < w := by
        rcases r4 with ⟨r4, -⟩ | r4
        · exact law_off hw (hC.2.2.2 a.toNat (by omega) c0 r4).2.1
        · omega
      exact ⟨(yc _ (by omega)).trans (hk _ (by omega) (by omega) (by omega)).1, (yc _ (by omega)).trans (hk _ (by omega) (by omega) (by omega)).1, (yc _ (by omega)).trans (hk _ (by omega) (by omega) (by omega)).1⟩
    have hc73 : 73 ≤ c0 := by
      rcases r4 with ⟨r4, -⟩ | r4
      · exact (hC.2.2.2 a.toNat (by omega) c0 r4).1
      · rw [r4]; exact (List.getElem?_eq_some_iff.mp (xs_72 hC.1)).1
    refine ⟨⟨e9, e0⟩, wdB, ?_, fun i hi c hc => ?_⟩
    · rw [e4, b9, b51]
      exact LS6_k (R := R) ls x9.2 rfl (fun t w ht hw => hC.2.2.1 t ht w hw) keep hS (fun _ _ => rfl) (fun _ _ _ => rfl)
    · by_cases hia : i = a.toNat
      · subst hia
        rw [r1] at hc
        cases hc
        have c9 : B c0 9 = I 1 9 := (congrFun (yc c0 (by omega)) 9).trans (ic.1 9 (by decide) (by decide))
        refine ⟨by rw [c9, d3 310 (by decide), z51]; exact q9, ?_⟩
        rw [c9]
        exact LS6_k (R := R) ls x9.2 rfl (fun t w ht hw => hC.2.2.1 t ht w hw) keep hS (fun t ht => ic.2.2.2.2.2 t ht) (fun j _ g2 => by show B 52 (5117 * a.toNat + j) = I 51 j; rw [d3 j g2, z51])
      · rw [r2 i hia] at hc
        have hco := hC.2.2.2 i hi c hc
        obtain ⟨k1, k2, k3⟩ := coast_lt hco
        obtain ⟨o1, o2⟩ := r3 i hi hia c hc
        obtain ⟨m1, m2⟩ := im i hi c hc
        have c9 : B c 9 = I c 9 := congrFun ((yc c (by omega)).trans (o1 0 (by decide))) 9
        refine ⟨by rw [c9, d4 _ (by omega), z52]; exact m1, ?_⟩
        rw [c9, o2]
        exact LS6_k (R := R) m2 k3 rfl (fun t w ht hw => hco.2.2.2 t ht w hw) keep hS (fun _ _ => rfl) (fun j _ g2 => by show B 52 (5117 * i + j) = I 52 (5117 * i + j); rw [d4 _ (by omega), z52])
  · obtain ⟨e7, e4, ek⟩ := c2 hv
    obtain ⟨-, -, d52⟩ := d1 hv
    refine LAW6_g h hC e9 e0 wdB ?_ e7 (d52.trans z52) hS (fun k g1 _ => ⟨(yc k (Or.inr g1)).trans (ek k g1).1, (ek k g1).2⟩)
    rw [e4, b9, b51]
    exact LS6_k (R := R) ls x9.2 rfl (fun t w ht hw => hC.2.2.1 t ht w hw) (LawOK_keep (fun k g1 _ => (yc k (Or.inr g1)).trans (ek k g1).1)) hS (fun _ _ => rfl) (fun _ _ _ => rfl)
end
section
def zI54 : Nat → Int := (up1 (up1 (up1 (up1 (up1 (up1 (up1 (up1 (up1 (up1 (up1 (up1 (up1 (up1 (up1 (up1 (up1 (up1 (up1 (up1 (up1 (up1 (up1 (up1 (up1 (up1 (up1 (up1 (up1 (up1 (up1 (up1 (up1 (up1 (up1 (up1 (up1 (up1 (up1 (up1 (up1 (up1 (up1 (up1 (up1 (up1 (up1 (up1 (up1 (up1 (up1 (up1 (up1 (up1 (up1 (up1 (up1 (up1 (up1 (up1 (fun _ => 0) (0 : Int).toNat (i_b 114)) (1 : Int).toNat (i_b 101)) (2 : Int).toNat (i_b 97)) (3 : Int).toNat (i_b 100)) (4 : Int).toNat (i_b 115)) (5 : Int).toNat (i_b 32)) (6 : Int).toNat (i_b 105)) (7 : Int).toNat (i_b 102)) (8 : Int).toNat (i_b 32)) (9 : Int).toNat (i_b 111)) (10 : Int).toNat (i_b 114)) (11 : Int).toNat (i_b 32)) (12 : Int).toNat (i_b 97)) (13 : Int).toNat (i_b 110)) (14 : Int).toNat (i_b 100)) (15 : Int).toNat (i_b 32)) (16 : Int).toNat (i_b 110)) (17 : Int).toNat (i_b 111)) (18 : Int).toNat (i_b 116)) (19 : Int).toNat (i_b 32)) (20 : Int).toNat (i_b 115)) (21 : Int).toNat (i_b 116)) (22 : Int).toNat (i_b 97)) (23 : Int).toNat (i_b 116)) (24 : Int).toNat (i_b 101)) (25 : Int).toNat (i_b 32)) (26 : Int).toNat (i_b 108)) (27 : Int).toNat (i_b 105)) (28 : Int).toNat (i_b 116)) (29 : Int).toNat (i_b 32)) (30 : Int).toNat (i_b 115)) (31 : Int).toNat (i_b 117)) (32 : Int).toNat (i_b 109)) (33 : Int).toNat (i_b 32)) (34 : Int).toNat (i_b 109)) (35 : Int).toNat (i_b 105)) (36 : Int).toNat (i_b 120)) (37 : Int).toNat (i_b 32)) (38 : Int).toNat (i_b 102)) (39 : Int).toNat (i_b 105)) (40 : Int).toNat (i_b 114)) (41 : Int).toNat (i_b 115)) (42 : Int).toNat (i_b 116)) (43 : Int).toNat (i_b 32)) (44 : Int).toNat (i_b 108)) (45 : Int).toNat (i_b 97)) (46 : Int).toNat (i_b 115)) (47 : Int).toNat (i_b 116)) (48 : Int).toNat (i_b 32)) (49 : Int).toNat (i_b 108)) (50 : Int).toNat (i_b 97)) (51 : Int).toNat (i_b 109)) (52 : Int).toNat (i_b 112)) (53 : Int).toNat (i_b 115)) (54 : Int).toNat (i_b 32)) (55 : Int).toNat (i_b 110)) (56 : Int).toNat (i_b 101)) (57 : Int).toNat (i_b 119)) (58 : Int).toNat (i_b 115)) (59 : Int).toNat (i_b 32))
theorem zI54_w : ∀ i, i < 60 → zI54 i = zWt.getD i 0 := by decide +kernel
end
