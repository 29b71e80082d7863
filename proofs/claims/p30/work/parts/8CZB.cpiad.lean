set_option maxHeartbeats 1000000 in
theorem CI8_make {I A B J JA JB : aI1} {R : aR1} {S : aS1} {a b c x y v : Int} (hP : CPI I J R S v) (hC : CI I R S) (hQ : RX I) (h0 : (Kp 0 49 I A ∧ Kp 0 49 J JA ∧ CX A ∧ Fw [3, 18, 19, 20, 21, 22, 23, 24, 25, 26, 27, 28, 29, 30, 33, 37, 38, 39, 40, 41, 42, 43, 44, 45, 48] [(0, 16)] I A ∧ SR A ∧ SRF A ∧ (¬ (1 ≤ a ∧ a ≤ 3 ∧ 2 ≤ b ∧ b ≤ 4 ∧ 0 ≤ c ∧ c ≤ 8) → x = -1 ∧ A 3 = I 3) ∧ ((1 ≤ a ∧ a ≤ 3 ∧ 2 ≤ b ∧ b ≤ 4 ∧ 0 ≤ c ∧ c ≤ 8) → ¬ (a = I 1 5 ∧ b = I 1 6 ∧ ¬ TBX a b c = 0) → x = -3 ∧ A 3 = I 3) ∧ ((1 ≤ a ∧ a ≤ 3 ∧ 2 ≤ b ∧ b ≤ 4 ∧ 0 ≤ c ∧ c ≤ 8) → (a = I 1 5 ∧ b = I 1 6 ∧ ¬ TBX a b c = 0) → x = 0 ∧ ∀ j : Nat, A 3 j = if j < 2 ^ a.toNat then ((gd (S0 b.toNat (2 ^ a.toNat) c.toNat) j : Nat) : Int) else I 3 j) ∧ LSt x I A) ∧ FRk A JA) (hh : (Ch [50, 51, 61, 65, 66] [0, 1, 25, 31] A B ∧ Kp 49 73 JA JB ∧ RX B ∧ (¬ (1 ≤ a ∧ a ≤ 3 ∧ 2 ≤ b ∧ b ≤ 4 ∧ 0 ≤ c ∧ c ≤ 8) → y = -1 ∧ B 51 = A 51) ∧ ((1 ≤ a ∧ a ≤ 3 ∧ 2 ≤ b ∧ b ≤ 4 ∧ 0 ≤ c ∧ c ≤ 8) → ¬ (a = A 51 304 ∧ b = A 51 305 ∧ ¬ TBX a b c = 0) → y = -3 ∧ B 51 = A 51) ∧ ((1 ≤ a ∧ a ≤ 3 ∧ 2 ≤ b ∧ b ≤ 4 ∧ 0 ≤ c ∧ c ≤ 8) → (a = A 51 304 ∧ b = A 51 305 ∧ ¬ TBX a b c = 0) → y = 0 ∧ ∃ c0, cN b.toNat (FU a + 1).toNat c.toNat c0 = 0 ∧ c.toNat ≤ DL b.toNat (dgs b.toNat (FU a + 1).toNat c0) ∧ ∀ j : Nat, B 51 j = if (j : Int) < FU a + 1 then ((gd (dgs b.toNat (FU a + 1).toNat c0) j : Nat) : Int) else A 51 j)) ∧ RGQ9 y A B JA JB) : CPI B JB R S (v + 1) := by
  obtain ⟨hPH, ⟨-, hQF⟩, hOK, hST, hIM, hDR⟩ := id hP
  obtain ⟨h0, fr⟩ := h0
  obtain ⟨hh, qk⟩ := hh
  have g0 : Kp 0 49 I A ∧ Kp 0 49 J JA ∧ CX A ∧ Fw [3, 18, 19, 20, 21, 22, 23, 24, 25, 26, 27, 28, 29, 30, 31, 32, 33, 34, 35, 36, 37, 38, 39, 40, 41, 42, 43, 44, 45, 48] [(0, 16)] I A ∧ SR A ∧ SRF A ∧ (¬ (1 ≤ a ∧ a ≤ 3 ∧ 2 ≤ b ∧ b ≤ 4 ∧ 0 ≤ c ∧ c ≤ 8) → x = -1 ∧ A 3 = I 3) ∧ ((1 ≤ a ∧ a ≤ 3 ∧ 2 ≤ b ∧ b ≤ 4 ∧ 0 ≤ c ∧ c ≤ 8) → ¬ (a = I 1 5 ∧ b = I 1 6 ∧ ¬ TBX a b c = 0) → x = -3 ∧ A 3 = I 3) ∧ ((1 ≤ a ∧ a ≤ 3 ∧ 2 ≤ b ∧ b ≤ 4 ∧ 0 ≤ c ∧ c ≤ 8) → (a = I 1 5 ∧ b = I 1 6 ∧ ¬ TBX a b c = 0) → x = 0 ∧ ∀ j : Nat, A 3 j = if j < 2 ^ a.toNat then ((gd (S0 b.toNat (2 ^ a.toNat) c.toNat) j : Nat) : Int) else I 3 j) := ⟨h0.1, h0.2.1, h0.2.2.1, (Fw_wd h0.2.2.2.1 (by decide) (by decide)), h0.2.2.2.2.1, h0.2.2.2.2.2.1, h0.2.2.2.2.2.2.1, h0.2.2.2.2.2.2.2.1, h0.2.2.2.2.2.2.2.2.1⟩
  have h1 : Ch [50, 51, 61, 65, 66] [0, 1, 25, 31] A B ∧ Kp 49 73 JA JB ∧ RX B ∧ (¬ (1 ≤ a ∧ a ≤ 3 ∧ 2 ≤ b ∧ b ≤ 4 ∧ 0 ≤ c ∧ c ≤ 8) → y = -1 ∧ B 51 = A 51) ∧ ((1 ≤ a ∧ a ≤ 3 ∧ 2 ≤ b ∧ b ≤ 4 ∧ 0 ≤ c ∧ c ≤ 8) → ¬ (a = A 51 304 ∧ b = A 51 305 ∧ ¬ TBX a b c = 0) → y = -3 ∧ B 51 = A 51) ∧ ((1 ≤ a ∧ a ≤ 3 ∧ 2 ≤ b ∧ b ≤ 4 ∧ 0 ≤ c ∧ c ≤ 8) → (a = A 51 304 ∧ b = A 51 305 ∧ ¬ TBX a b c = 0) → y = 0 ∧ ∃ c0, cN b.toNat (FU a + 1).toNat c.toNat c0 = 0 ∧ c.toNat ≤ DL b.toNat (dgs b.toNat (FU a + 1).toNat c0) ∧ ∀ j : Nat, B 51 j = if (j : Int) < FU a + 1 then ((gd (dgs b.toNat (FU a + 1).toNat c0) j : Nat) : Int) else A 51 j) := hh
  have cp := CF_make hPH.1.1 hC (C65_make g0) (R65_make (RX_low hQ h0.1) h1)
  have cg := CG_make hPH.1.2 hC hQ (C65_make g0) (R65_make (RX_low hQ h0.1) h1)
  have ch := CH_make hPH.1 hPH.2 hC g0 h1
  have hph : CPH B R S := ⟨⟨cp.1, cg⟩, ch.1⟩
  clear cp cg ch g0 h1
  have zz : ∀ k, 49 ≤ k → k < 73 → A k = I k := fun k h1 _ => h0.1 k (by omega)
  have zj : ∀ k, 49 ≤ k → k < 73 → JA k = J k := fun k h1 _ => h0.2.1 k (by omega)
  have z49 := zz 49 (by decide) (by decide)
  have z50 := zz 50 (by decide) (by decide)
  have z51 := zz 51 (by decide) (by decide)
  have z52 := zz 52 (by decide) (by decide)
  have z53 := zz 53 (by decide) (by decide)
  have z61 := zz 61 (by decide) (by decide)
  have z72 := zz 72 (by decide) (by decide)
  have qa : QF A JA v := QF_kp hQF (congrFun z49 1) (congrFun z49 25) z51 z61 (zj 62 (by decide) (by decide)) (Int.le_refl _)
  have yc : ∀ k, k < 49 ∨ 73 ≤ k → B k = A k := Ch_kp hh.1 (by decide)
  have frB : FRk B JB := FRk_kp (a := 49) (b := 73) fr yc hh.2.1 (by decide)
  obtain ⟨⟨⟨q8, q15, q12, q5, q6, q7, q11⟩, tb, -⟩, ⟨⟨q9, q0⟩, -⟩⟩ := id hPH.1
  have x5 := XI_o hC.2.1.1
  have hfu := (RX_o hQ).2.2.2.2.2.2.2.2.2
  have ef : FU (A 51 304) = FU (I 1 5) := by rw [z51, ← q5]
  have e304 : A 51 304 = I 1 5 := by rw [z51, ← q5]
  have e305 : A 51 305 = I 1 6 := by rw [z51, ← q6]
  have e309 : A 51 309 = I 1 11 := by rw [z51, ← q11]
  have e310 : A 51 310 = I 1 9 := by rw [z51, ← q9]
  have e10 : A 49 10 = I 8 1 := (congrFun z49 10).trans q8.symm
  have ls := h0.2.2.2.2.2.2.2.2.2
  have hd := hh.2.2.2
  rw [e304, e305] at hd
  by_cases hv : 1 ≤ a ∧ a ≤ 3 ∧ 2 ≤ b ∧ b ≤ 4 ∧ 0 ≤ c ∧ c ≤ 8
  · by_cases hw : a = I 1 5 ∧ b = I 1 6 ∧ ¬ TBX a b c = 0
    · have g := (h0.2.2.2.2.2.2.2.2.1 hv hw).1
      obtain ⟨d1, c0, -, -, d4⟩ := hd.2.2 hv hw
      have l := ls.2 (by omega)
      have q := qk.2 (by omega)
      have hfr := FU_r (n := a) (by omega) (by omega)
      have bo : ∀ j : Nat, 256 ≤ j → B 51 j = I 51 j := fun j hj => by rw [d4 j, if_neg (by omega), z51]
      have ok : OKr (B 51) := ⟨fun l hl => by rw [bo _ (by omega)]; exact hOK.1.1 l hl, fun s hs => by
          rw [bo 304 (by omega), ← q5, ← hw.1] at hs
          rw [bo 305 (by omega), ← q6, ← hw.2.1, d4 s, if_pos (by omega)]
          have h9 := gd_k (k := b.toNat) (N := (FU a + 1).toNat) (c := c0) (s := s) (by omega) (by omega)
          omega, by rw [bo 307 (by omega), bo 304 (by omega)]; exact hOK.1.2.2⟩
      exact ⟨hph, ⟨frB, (QF_tu qa q.2.2.1 q.2.2.2 (Int.le_refl _))⟩, (OK8_n hOK ok ((hh.1.1 52 (by decide) (by decide)).trans z52) ((hh.1.1 53 (by decide) (by decide)).trans z53)), ⟨(SA8_a hST.1 l.1 l.2 q yc z50), (TL8_k hST.2 ((congrFun (yc 1 (by decide)) 8).trans (h0.2.2.2.1 1 8 (by decide) (by decide) (by decide))) ((congrFun (yc 1 (by decide)) 10).trans (h0.2.2.2.1 1 10 (by decide) (by decide) (by decide))) ((yc 5 (by decide)).trans (Fw_row h0.2.2.2.1 5 (by decide) (by decide) (by decide))) (fun j hj => bo j (by omega)))⟩, (IM8_k hIM hC rfl ((hh.1.1 52 (by decide) (by decide)).trans z52) (fun k h1 _ => (yc k (Or.inr h1)).trans (h0.1 k (by omega)))), (DR8_k hDR ((congrFun (yc 0 (by decide)) 13).trans (h0.2.2.2.1 0 13 (by decide) (by decide) (by decide))) ((congrFun (yc 0 (by decide)) 14).trans (h0.2.2.2.1 0 14 (by decide) (by decide) (by decide))) ((yc 47 (by decide)).trans (Fw_row h0.2.2.2.1 47 (by decide) (by decide) (by decide))) ((hh.1.2 39 (by decide)).trans (congrFun z49 39)) ((hh.1.2 40 (by decide)).trans (congrFun z49 40)) ((hh.1.1 72 (by decide) (by decide)).trans z72))⟩
    · have d := hd.2.1 hv hw
      have g := h0.2.2.2.2.2.2.2.1 hv hw
      have b51 := d.2
      have hxy : x = y := by have := d.1; have := g.1; omega
      have l := ls.1 (by have := g.1; omega)
      have q := qk.1 (by have := d.1; omega)
      exact ⟨hph, ⟨frB, (QF_tk qa q.2.2.1 q.2.2.2 b51 (by omega))⟩, (OK8_k hOK (fun j _ => congrFun (b51.trans z51) j) ((hh.1.1 52 (by decide) (by decide)).trans z52) ((hh.1.1 53 (by decide) (by decide)).trans z53) (RX_o hQ).2.2.2.2.2.2.2.2.2.2), ⟨(SA8_r hST.1 l.1 l.2 q hxy.symm yc z50), (TL8_k hST.2 ((congrFun (yc 1 (by decide)) 8).trans (h0.2.2.2.1 1 8 (by decide) (by decide) (by decide))) ((congrFun (yc 1 (by decide)) 10).trans (h0.2.2.2.1 1 10 (by decide) (by decide) (by decide))) ((yc 5 (by decide)).trans (Fw_row h0.2.2.2.1 5 (by decide) (by decide) (by decide))) (fun j _ => congrFun (b51.trans z51) j))⟩, (IM8_k hIM hC rfl ((hh.1.1 52 (by decide) (by decide)).trans z52) (fun k h1 _ => (yc k (Or.inr h1)).trans (h0.1 k (by omega)))), (DR8_k hDR ((congrFun (yc 0 (by decide)) 13).trans (h0.2.2.2.1 0 13 (by decide) (by decide) (by decide))) ((congrFun (yc 0 (by decide)) 14).trans (h0.2.2.2.1 0 14 (by decide) (by decide) (by decide))) ((yc 47 (by decide)).trans (Fw_row h0.2.2.2.1 47 (by decide) (by decide) (by decide))) ((hh.1.2 39 (by decide)).trans (congrFun z49 39)) ((hh.1.2 40 (by decide)).trans (congrFun z49 40)) ((hh.1.1 72 (by decide) (by decide)).trans z72))⟩
  · have d := hd.1 hv
    have g := h0.2.2.2.2.2.2.1 hv
    have b51 := d.2
    have hxy : x = y := by have := d.1; have := g.1; omega
    have l := ls.1 (by have := g.1; omega)
    have q := qk.1 (by have := d.1; omega)
    exact ⟨hph, ⟨frB, (QF_tk qa q.2.2.1 q.2.2.2 b51 (by omega))⟩, (OK8_k hOK (fun j _ => congrFun (b51.trans z51) j) ((hh.1.1 52 (by decide) (by decide)).trans z52) ((hh.1.1 53 (by decide) (by decide)).trans z53) (RX_o hQ).2.2.2.2.2.2.2.2.2.2), ⟨(SA8_r hST.1 l.1 l.2 q hxy.symm yc z50), (TL8_k hST.2 ((congrFun (yc 1 (by decide)) 8).trans (h0.2.2.2.1 1 8 (by decide) (by decide) (by decide))) ((congrFun (yc 1 (by decide)) 10).trans (h0.2.2.2.1 1 10 (by decide) (by decide) (by decide))) ((yc 5 (by decide)).trans (Fw_row h0.2.2.2.1 5 (by decide) (by decide) (by decide))) (fun j _ => congrFun (b51.trans z51) j))⟩, (IM8_k hIM hC rfl ((hh.1.1 52 (by decide) (by decide)).trans z52) (fun k h1 _ => (yc k (Or.inr h1)).trans (h0.1 k (by omega)))), (DR8_k hDR ((congrFun (yc 0 (by decide)) 13).trans (h0.2.2.2.1 0 13 (by decide) (by decide) (by decide))) ((congrFun (yc 0 (by decide)) 14).trans (h0.2.2.2.1 0 14 (by decide) (by decide) (by decide))) ((yc 47 (by decide)).trans (Fw_row h0.2.2.2.1 47 (by decide) (by decide) (by decide))) ((hh.1.2 39 (by decide)).trans (congrFun z49 39)) ((hh.1.2 40 (by decide)).trans (congrFun z49 40)) ((hh.1.1 72 (by decide) (by decide)).trans z72))⟩
set_option maxHeartbeats 1000000 in
theorem CI8_law {I A B J JA JB : aI1} {R R' : aR1} {S S' : aS1} {f : Nat → Int} {N : Nat} {x y v : Int} (hP : CPI I J R S v) (hC : CI I R S) (hQ : RX I) (hN : I 8 1 = N) (h0 : (CI A R' S' ∧ (∀ k, 49 ≤ k → k < 73 → A k = I k ∧ JA k = J k ∧ R' k = R k) ∧ Fw [10, 11, 12, 13, 14, 48] [(0, 16), (1, 9), (8, 1)] I A ∧ R' 7 = R 7 ∧ (∀ k, 73 ≤ k → k < S.length → A k = I k ∧ R' k = R k) ∧ A 8 1 = 0 ∧ SX S S' ∧ (6 ≤ I 1 9 → x = -5 ∧ R' 4 = R 4 ∧ A 1 9 = I 1 9 ∧ A 10 0 = I 10 0) ∧ (I 1 9 < 6 → zCW f N x I A R R' S S')) ∧ LSt x I A ∧ FRk A JA) (hh : (Ch [50, 51, 57, 58, 59] [0, 1, 10, 11, 15, 16, 17, 18] A B ∧ Kp 49 73 JA JB ∧ RX B ∧ B 49 10 = 0 ∧ (A 51 310 = 6 → y = -5 ∧ B 51 = A 51 ∧ B 49 11 = A 49 11) ∧ (¬ A 51 310 = 6 → zRW f N y A B)) ∧ RGQ9 y A B JA JB) : CPI B JB R' S' (v + 1) := by
  obtain ⟨hPH, ⟨-, hQF⟩, hOK, hST, hIM, hDR⟩ := id hP
  obtain ⟨h0, ls, fr⟩ := h0
  obtain ⟨hh, qk⟩ := hh
  have g0 : CI A R' S' ∧ (∀ k, 49 ≤ k → k < 73 → A k = I k ∧ JA k = J k ∧ R' k = R k) ∧ Fw [10, 11, 12, 13, 14, 48] [(0, 16), (1, 9), (8, 1)] I A ∧ R' 7 = R 7 ∧ (∀ k, 73 ≤ k → k < S.length → A k = I k ∧ R' k = R k) ∧ A 8 1 = 0 ∧ SX S S' ∧ (6 ≤ I 1 9 → x = -5 ∧ R' 4 = R 4 ∧ A 1 9 = I 1 9 ∧ A 10 0 = I 10 0) ∧ (I 1 9 < 6 → zCW f N x I A R R' S S') := h0
  have h1 : Ch [50, 51, 57, 58, 59] [0, 1, 10, 11, 15, 16, 17, 18] A B ∧ Kp 49 73 JA JB ∧ RX B ∧ B 49 10 = 0 ∧ (A 51 310 = 6 → y = -5 ∧ B 51 = A 51 ∧ B 49 11 = A 49 11) ∧ (¬ A 51 310 = 6 → zRW f N y A B) := hh
  have cp := CF_law hPH.1.1 hC (C65_law g0) (R65_law (RX_mid hQ (fun k h1 h2 => (h0.2.1 k h1 h2).1)) h1)
  have cg := CG_law hPH.1.2 hC (by have q9 := (XI_o hC.2.1.1).2.2.2.2.2.2.1; have q8 := hN; omega) g0 h1
  have ch := CH_law hPH.1 hPH.2 hC (C65_law g0) (R65_law (RX_mid hQ (fun k h1 h2 => (h0.2.1 k h1 h2).1)) h1)
  have hph : CPH B R' S' := ⟨⟨cp, cg.1⟩, ch⟩
  clear cp cg ch g0 h1
  have zz : ∀ k, 49 ≤ k → k < 73 → A k = I k := fun k h1 h2 => (h0.2.1 k h1 h2).1
  have zj : ∀ k, 49 ≤ k → k < 73 → JA k = J k := fun k h1 h2 => (h0.2.1 k h1 h2).2.1
  have z49 := zz 49 (by decide) (by decide)
  have z50 := zz 50 (by decide) (by decide)
  have z51 := zz 51 (by decide) (by decide)
  have z52 := zz 52 (by decide) (by decide)
  have z53 := zz 53 (by decide) (by decide)
  have z61 := zz 61 (by decide) (by decide)
  have z72 := zz 72 (by decide) (by decide)
  have qa : QF A JA v := QF_kp hQF (congrFun z49 1) (congrFun z49 25) z51 z61 (zj 62 (by decide) (by decide)) (Int.le_refl _)
  have yc : ∀ k, k < 49 ∨ 73 ≤ k → B k = A k := Ch_kp hh.1 (by decide)
  have frB : FRk B JB := FRk_kp (a := 49) (b := 73) fr yc hh.2.1 (by decide)
  obtain ⟨⟨⟨q8, q15, q12, q5, q6, q7, q11⟩, tb, -⟩, ⟨⟨q9, q0⟩, -⟩⟩ := id hPH.1
  have x5 := XI_o hC.2.1.1
  have hfu := (RX_o hQ).2.2.2.2.2.2.2.2.2
  have ef : FU (A 51 304) = FU (I 1 5) := by rw [z51, ← q5]
  have e304 : A 51 304 = I 1 5 := by rw [z51, ← q5]
  have e305 : A 51 305 = I 1 6 := by rw [z51, ← q6]
  have e309 : A 51 309 = I 1 11 := by rw [z51, ← q11]
  have e310 : A 51 310 = I 1 9 := by rw [z51, ← q9]
  have e10 : A 49 10 = I 8 1 := (congrFun z49 10).trans q8.symm
  have g5 := h0.2.2.2.2.2.2.2.1
  have g6 := h0.2.2.2.2.2.2.2.2
  have hd := hh.2.2.2.2
  rw [e310] at hd
  by_cases hv : I 1 9 = 6
  · have g := g5 (by omega)
    have d := hd.1 hv
    have b51 := d.2.1
    have hxy : x = y := by have := d.1; have := g.1; omega
    have l := ls.1 (by have := g.1; omega)
    have q := qk.1 (by have := d.1; omega)
    exact ⟨hph, ⟨frB, (QF_tk qa q.2.2.1 q.2.2.2 b51 (by omega))⟩, (OK8_k hOK (fun j _ => congrFun (b51.trans z51) j) ((hh.1.1 52 (by decide) (by decide)).trans z52) ((hh.1.1 53 (by decide) (by decide)).trans z53) (RX_o hQ).2.2.2.2.2.2.2.2.2.2), ⟨(SA8_r hST.1 l.1 l.2 q hxy.symm yc z50), (TL8_k hST.2 ((congrFun (yc 1 (by decide)) 8).trans (h0.2.2.1 1 8 (by decide) (by decide) (by decide))) ((congrFun (yc 1 (by decide)) 10).trans (h0.2.2.1 1 10 (by decide) (by decide) (by decide))) ((yc 5 (by decide)).trans (Fw_row h0.2.2.1 5 (by decide) (by decide) (by decide))) (fun j _ => congrFun (b51.trans z51) j))⟩, (IM8_k hIM hC h0.2.2.2.1 ((hh.1.1 52 (by decide) (by decide)).trans z52) (fun k h1 h2 => (yc k (Or.inr h1)).trans (h0.2.2.2.2.1 k h1 h2).1)), (DR8_k hDR ((congrFun (yc 0 (by decide)) 13).trans (h0.2.2.1 0 13 (by decide) (by decide) (by decide))) ((congrFun (yc 0 (by decide)) 14).trans (h0.2.2.1 0 14 (by decide) (by decide) (by decide))) ((yc 47 (by decide)).trans (Fw_row h0.2.2.1 47 (by decide) (by decide) (by decide))) ((hh.1.2 39 (by decide)).trans (congrFun z49 39)) ((hh.1.2 40 (by decide)).trans (congrFun z49 40)) ((hh.1.1 72 (by decide) (by decide)).trans z72))⟩
  · have g := g6 (by omega)
    have d := hd.2 hv
    cases ht : zTx f N with
    | inl fp =>
      have g := g.1 fp ht
      have d := d.1 fp ht
      have b51 := d.2.1
      have hxy : x = y := by have := d.1; have := g.1; omega
      have l := ls.1 (by have := g.1; omega)
      have q := qk.1 (by have := d.1; omega)
      exact ⟨hph, ⟨frB, (QF_tk qa q.2.2.1 q.2.2.2 b51 (by omega))⟩, (OK8_k hOK (fun j _ => congrFun (b51.trans z51) j) ((hh.1.1 52 (by decide) (by decide)).trans z52) ((hh.1.1 53 (by decide) (by decide)).trans z53) (RX_o hQ).2.2.2.2.2.2.2.2.2.2), ⟨(SA8_r hST.1 l.1 l.2 q hxy.symm yc z50), (TL8_k hST.2 ((congrFun (yc 1 (by decide)) 8).trans (h0.2.2.1 1 8 (by decide) (by decide) (by decide))) ((congrFun (yc 1 (by decide)) 10).trans (h0.2.2.1 1 10 (by decide) (by decide) (by decide))) ((yc 5 (by decide)).trans (Fw_row h0.2.2.1 5 (by decide) (by decide) (by decide))) (fun j _ => congrFun (b51.trans z51) j))⟩, (IM8_k hIM hC h0.2.2.2.1 ((hh.1.1 52 (by decide) (by decide)).trans z52) (fun k h1 h2 => (yc k (Or.inr h1)).trans (h0.2.2.2.2.1 k h1 h2).1)), (DR8_k hDR ((congrFun (yc 0 (by decide)) 13).trans (h0.2.2.1 0 13 (by decide) (by decide) (by decide))) ((congrFun (yc 0 (by decide)) 14).trans (h0.2.2.1 0 14 (by decide) (by decide) (by decide))) ((yc 47 (by decide)).trans (Fw_row h0.2.2.1 47 (by decide) (by decide) (by decide))) ((hh.1.2 39 (by decide)).trans (congrFun z49 39)) ((hh.1.2 40 (by decide)).trans (congrFun z49 40)) ((hh.1.1 72 (by decide) (by decide)).trans z72))⟩
    | inr qs =>
      have g := g.2 qs ht
      have d := d.2 qs ht
      have l := ls.2 (by have := g.1; omega)
      have q := qk.2 (by have := d.1; omega)
      have bo : ∀ j : Nat, j < 310 → B 51 j = I 51 j := fun j hj => ((R65_law (RX_mid hQ zz) hh).2.2.2.2 j hj).trans (congrFun z51 j)
      exact ⟨hph, ⟨frB, (QF_tu qa q.2.2.1 q.2.2.2 (Int.le_refl _))⟩, (OK8_k hOK (fun j hj => bo j (by omega)) ((hh.1.1 52 (by decide) (by decide)).trans z52) ((hh.1.1 53 (by decide) (by decide)).trans z53) (RX_o hQ).2.2.2.2.2.2.2.2.2.2), ⟨(SA8_a hST.1 l.1 l.2 q yc z50), (TL8_k hST.2 ((congrFun (yc 1 (by decide)) 8).trans (h0.2.2.1 1 8 (by decide) (by decide) (by decide))) ((congrFun (yc 1 (by decide)) 10).trans (h0.2.2.1 1 10 (by decide) (by decide) (by decide))) ((yc 5 (by decide)).trans (Fw_row h0.2.2.1 5 (by decide) (by decide) (by decide))) (fun j hj => bo j (by omega)))⟩, (IM8_k hIM hC h0.2.2.2.1 ((hh.1.1 52 (by decide) (by decide)).trans z52) (fun k h1 h2 => (yc k (Or.inr h1)).trans (h0.2.2.2.2.1 k h1 h2).1)), (DR8_k hDR ((congrFun (yc 0 (by decide)) 13).trans (h0.2.2.1 0 13 (by decide) (by decide) (by decide))) ((congrFun (yc 0 (by decide)) 14).trans (h0.2.2.1 0 14 (by decide) (by decide) (by decide))) ((yc 47 (by decide)).trans (Fw_row h0.2.2.1 47 (by decide) (by decide) (by decide))) ((hh.1.2 39 (by decide)).trans (congrFun z49 39)) ((hh.1.2 40 (by decide)).trans (congrFun z49 40)) ((hh.1.1 72 (by decide) (by decide)).trans z72))⟩
set_option maxHeartbeats 1000000 in
theorem CI8_image {I A B J JA JB : aI1} {R R' : aR1} {S S' : aS1} {a x y v : Int} (hP : CPI I J R S v) (hC : CI I R S) (hQ : RX I) (h0 : (CI A R' S' ∧ (∀ k, 49 ≤ k → k < 73 → A k = I k ∧ JA k = J k ∧ R' k = R k) ∧ Fw [48] [(0, 16)] I A ∧ (¬ (0 ≤ a ∧ a < 2) → x = -1 ∧ RFc I A (-1)) ∧ (¬ (0 ≤ a ∧ a < 2) → R' 7 = R 7 ∧ R' 4 = R 4 ∧ (∀ k, 73 ≤ k → A k = I k ∧ R' k = R k)) ∧ ((0 ≤ a ∧ a < 2) → x = 0 ∧ Fw [] [(0, 16)] I A ∧ A 0 16 = 0 ∧ ∃ c, R' 7 a.toNat = some c ∧ ImC I A R R' c ∧ (∀ j, j ≠ a.toNat → R' 7 j = R 7 j) ∧ (∀ j, j < 2 → j ≠ a.toNat → ∀ c', R 7 j = some c' → (∀ k, k < 6 → A (c' + k) = I (c' + k)) ∧ R' (c' + 3) = R (c' + 3)) ∧ ((R 7 a.toNat = some c ∧ R' 7 = R 7) ∨ c = S.length) ∧ R' 4 = R 4 ∧ (∀ k, 73 ≤ k → k < S.length → (k < c ∨ c + 6 ≤ k) → A k = I k ∧ R' k = R k)) ∧ SX S S') ∧ FRk A JA) (hh : (Ch [50, 52, 53] [0, 1] A B ∧ Kp 49 73 JA JB ∧ RX B ∧ (¬ (0 ≤ a ∧ a < 2) → y = -1 ∧ B 53 = A 53 ∧ B 52 = A 52) ∧ ((0 ≤ a ∧ a < 2) → y = 0 ∧ B 53 = up1 (A 53) a.toNat 1 ∧ (∀ j : Nat, j < 5117 → B 52 (5117 * a.toNat + j) = A 51 j) ∧ (∀ b : Nat, (b < 5117 * a.toNat ∨ 5117 * a.toNat + 5117 ≤ b) → B 52 b = A 52 b))) ∧ RGQ9 y A B JA JB) : CPI B JB R' S' (v + 1) := by
  obtain ⟨hPH, ⟨-, hQF⟩, hOK, hST, hIM, hDR⟩ := id hP
  obtain ⟨h0, fr⟩ := h0
  obtain ⟨hh, qk⟩ := hh
  have g0 : CI A R' S' ∧ (∀ k, 49 ≤ k → k < 73 → A k = I k ∧ JA k = J k ∧ R' k = R k) ∧ Fw [48] [(0, 16)] I A ∧ (¬ (0 ≤ a ∧ a < 2) → x = -1 ∧ RFc I A (-1)) ∧ (¬ (0 ≤ a ∧ a < 2) → R' 7 = R 7 ∧ R' 4 = R 4 ∧ (∀ k, 73 ≤ k → A k = I k ∧ R' k = R k)) ∧ ((0 ≤ a ∧ a < 2) → x = 0 ∧ Fw [] [(0, 16)] I A ∧ A 0 16 = 0 ∧ ∃ c, R' 7 a.toNat = some c ∧ ImC I A R R' c ∧ (∀ j, j ≠ a.toNat → R' 7 j = R 7 j) ∧ (∀ j, j < 2 → j ≠ a.toNat → ∀ c', R 7 j = some c' → (∀ k, k < 6 → A (c' + k) = I (c' + k)) ∧ R' (c' + 3) = R (c' + 3)) ∧ ((R 7 a.toNat = some c ∧ R' 7 = R 7) ∨ c = S.length) ∧ R' 4 = R 4 ∧ (∀ k, 73 ≤ k → k < S.length → (k < c ∨ c + 6 ≤ k) → A k = I k ∧ R' k = R k)) ∧ SX S S' := h0
  have h1 : Ch [50, 52, 53] [0, 1] A B ∧ Kp 49 73 JA JB ∧ RX B ∧ (¬ (0 ≤ a ∧ a < 2) → y = -1 ∧ B 53 = A 53 ∧ B 52 = A 52) ∧ ((0 ≤ a ∧ a < 2) → y = 0 ∧ B 53 = up1 (A 53) a.toNat 1 ∧ (∀ j : Nat, j < 5117 → B 52 (5117 * a.toNat + j) = A 51 j) ∧ (∀ b : Nat, (b < 5117 * a.toNat ∨ 5117 * a.toNat + 5117 ≤ b) → B 52 b = A 52 b)) := hh
  have cp := CF_image hPH.1.1 hC (C65_image g0) h1
  have cg := CG_image hPH.1.2 hC g0 h1
  have ch := CH_image hPH.1 hPH.2 hC g0 h1
  have hph : CPH B R' S' := ⟨⟨cp.1, cg⟩, ch⟩
  clear cp cg ch g0 h1
  have zz : ∀ k, 49 ≤ k → k < 73 → A k = I k := fun k h1 h2 => (h0.2.1 k h1 h2).1
  have zj : ∀ k, 49 ≤ k → k < 73 → JA k = J k := fun k h1 h2 => (h0.2.1 k h1 h2).2.1
  have z49 := zz 49 (by decide) (by decide)
  have z50 := zz 50 (by decide) (by decide)
  have z51 := zz 51 (by decide) (by decide)
  have z52 := zz 52 (by decide) (by decide)
  have z53 := zz 53 (by decide) (by decide)
  have z61 := zz 61 (by decide) (by decide)
  have z72 := zz 72 (by decide) (by decide)
  have qa : QF A JA v := QF_kp hQF (congrFun z49 1) (congrFun z49 25) z51 z61 (zj 62 (by decide) (by decide)) (Int.le_refl _)
  have yc : ∀ k, k < 49 ∨ 73 ≤ k → B k = A k := Ch_kp hh.1 (by decide)
  have frB : FRk B JB := FRk_kp (a := 49) (b := 73) fr yc hh.2.1 (by decide)
  obtain ⟨⟨⟨q8, q15, q12, q5, q6, q7, q11⟩, tb, -⟩, ⟨⟨q9, q0⟩, -⟩⟩ := id hPH.1
  have x5 := XI_o hC.2.1.1
  have hfu := (RX_o hQ).2.2.2.2.2.2.2.2.2
  have b51 : B 51 = A 51 := hh.1.1 51 (by decide) (by decide)
  by_cases hv : 0 ≤ a ∧ a < 2
  · obtain ⟨-, gw, g16, c0, r1, ic, r2, r3, r4, e4, hk⟩ := h0.2.2.2.2.2.1 hv
    obtain ⟨d1, d2, d3, d4⟩ := hh.2.2.2.2 hv
    have q := qk.2 (by omega)
    have hfa : FU (A 51 304) ≤ 255 := by rw [z51]; exact (RX_o hQ).2.2.2.2.2.2.2.2.2.2
    have ok : OK8 B := ⟨OKr_k hOK.1 (fun j _ => congrFun (b51.trans z51) j) (by rw [b51, z51]; exact hOK.1.2.2) (by rw [b51, z51]; omega), fun i hi h9 => by
      by_cases e9 : i = a.toNat
      · rw [e9]
        exact OKr_e (f := A 51) (by rw [z51]; exact hOK.1) d3 hfa
      · have h8 : I 53 i ≠ 0 := by
          rw [d2, up1_n _ _ e9, z53] at h9
          exact h9
        exact OKr_e (hOK.2 i hi h8) (fun j hj => by rw [d4 _ (by omega), z52]) (RX_i hQ hi h8)⟩
    have im : IM8 B R' := fun i hi c hc => by
      have h73 := (h0.1.2.2.2 i hi c hc).1
      rw [yc c (by omega), yc (c + 4) (by omega)]
      by_cases e9 : i = a.toNat
      · subst e9
        rw [r1] at hc
        cases hc
        rw [d3 307 (by decide), d3 308 (by decide), ic.1 8 (by decide) (by decide), ic.1 10 (by decide) (by decide), z51]
        exact ⟨hST.2.1, hST.2.2.1, fun j hj h9 => by rw [d3 _ (by omega), ic.2.2.2.1 j hj, z51]; exact hST.2.2.2 j hj h9⟩
      · rw [r2 i e9] at hc
        obtain ⟨o1, -⟩ := r3 i hi e9 c hc
        have o0 : A c = I c := o1 0 (by decide)
        rw [o0, o1 4 (by decide), d4 _ (by omega), d4 _ (by omega), z52]
        obtain ⟨m1, m2, m3⟩ := hIM i hi c hc
        exact ⟨m1, m2, fun j hj h9 => by rw [d4 _ (by omega), z52]; exact m3 j hj h9⟩
    exact ⟨hph, ⟨frB, (QF_tu qa q.2.2.1 q.2.2.2 (Int.le_refl _))⟩, ok, ⟨(SA8_a hST.1 g16 (Fw_row gw 48 (by decide) (by decide) (by decide)) q yc z50), (TL8_k hST.2 ((congrFun (yc 1 (by decide)) 8).trans (h0.2.2.1 1 8 (by decide) (by decide) (by decide))) ((congrFun (yc 1 (by decide)) 10).trans (h0.2.2.1 1 10 (by decide) (by decide) (by decide))) ((yc 5 (by decide)).trans (Fw_row h0.2.2.1 5 (by decide) (by decide) (by decide))) (fun j _ => congrFun (b51.trans z51) j))⟩, im, (DR8_k hDR ((congrFun (yc 0 (by decide)) 13).trans (h0.2.2.1 0 13 (by decide) (by decide) (by decide))) ((congrFun (yc 0 (by decide)) 14).trans (h0.2.2.1 0 14 (by decide) (by decide) (by decide))) ((yc 47 (by decide)).trans (Fw_row h0.2.2.1 47 (by decide) (by decide) (by decide))) ((hh.1.2 39 (by decide)).trans (congrFun z49 39)) ((hh.1.2 40 (by decide)).trans (congrFun z49 40)) ((hh.1.1 72 (by decide) (by decide)).trans z72))⟩
  · have g := h0.2.2.2.1 hv
    have sm := h0.2.2.2.2.1 hv
    have d := (hh.2.2.2.1 hv)
    have q := qk.1 (by have := d.1; omega)
    have rf := g.2
    exact ⟨hph, ⟨frB, (QF_tk qa q.2.2.1 q.2.2.2 b51 (by omega))⟩, (OK8_k hOK (fun j _ => congrFun (b51.trans z51) j) (d.2.2.trans z52) (d.2.1.trans z53) (RX_o hQ).2.2.2.2.2.2.2.2.2.2), ⟨(SA8_r hST.1 rf.2.1 rf.2.2 q d.1 yc z50), (TL8_k hST.2 ((congrFun (yc 1 (by decide)) 8).trans (h0.2.2.1 1 8 (by decide) (by decide) (by decide))) ((congrFun (yc 1 (by decide)) 10).trans (h0.2.2.1 1 10 (by decide) (by decide) (by decide))) ((yc 5 (by decide)).trans (Fw_row h0.2.2.1 5 (by decide) (by decide) (by decide))) (fun j _ => congrFun (b51.trans z51) j))⟩, (IM8_k hIM hC sm.1 (d.2.2.trans z52) (fun k h1 _ => (yc k (Or.inr h1)).trans (sm.2.2 k h1).1)), (DR8_k hDR ((congrFun (yc 0 (by decide)) 13).trans (h0.2.2.1 0 13 (by decide) (by decide) (by decide))) ((congrFun (yc 0 (by decide)) 14).trans (h0.2.2.1 0 14 (by decide) (by decide) (by decide))) ((yc 47 (by decide)).trans (Fw_row h0.2.2.1 47 (by decide) (by decide) (by decide))) ((hh.1.2 39 (by decide)).trans (congrFun z49 39)) ((hh.1.2 40 (by decide)).trans (congrFun z49 40)) ((hh.1.1 72 (by decide) (by decide)).trans z72))⟩
set_option maxHeartbeats 1000000 in
theorem CI8_back {I A B J JA JB : aI1} {R R' : aR1} {S S' : aS1} {a x y v : Int} (hP : CPI I J R S v) (hC : CI I R S) (hQ : RX I) (h0 : (CI A R' S' ∧ (∀ k, 49 ≤ k → k < 73 → A k = I k ∧ JA k = J k ∧ R' k = R k) ∧ Fw [1, 2, 3, 5, 6, 18, 19, 20, 21, 22, 23, 24, 25, 26, 27, 28, 29, 30, 31, 32, 33, 34, 35, 36, 48] [(0, 16)] I A ∧ (¬ (0 ≤ a ∧ a < 2) → x = -1 ∧ RFc I A (-1)) ∧ (¬ (0 ≤ a ∧ a < 2) → R' 7 = R 7 ∧ R' 4 = R 4 ∧ (∀ k, 73 ≤ k → A k = I k ∧ R' k = R k)) ∧ ((0 ≤ a ∧ a < 2) → R 7 a.toNat = none → x = -2 ∧ RFc I A (-2) ∧ R' 7 = R 7 ∧ R' 4 = R 4 ∧ (∀ k, 73 ≤ k → A k = I k ∧ R' k = R k)) ∧ ((0 ≤ a ∧ a < 2) → ∀ c, R 7 a.toNat = some c → x = 0 ∧ Fw [1, 2, 3, 5, 6, 18, 19, 20, 21, 22, 23, 24, 25, 26, 27, 28, 29, 30, 31, 32, 33, 34, 35, 36] [(0, 16)] I A ∧ A 0 16 = 0 ∧ BkC I A R R' c ∧ R' 7 = R 7 ∧ (∀ k, 73 ≤ k → A k = I k ∧ R' k = R k)) ∧ S = S') ∧ FRk A JA) (hh : (Ch [50, 51] [0, 1] A B ∧ Kp 49 73 JA JB ∧ RX B ∧ (¬ (0 ≤ a ∧ a < 2) → y = -1 ∧ B 51 = A 51) ∧ ((0 ≤ a ∧ a < 2) → (A 53 a.toNat = 0 → y = -2 ∧ B 51 = A 51) ∧ (¬ A 53 a.toNat = 0 → y = 0 ∧ ∀ j : Nat, j < 5117 → B 51 j = A 52 (5117 * a.toNat + j)))) ∧ RGQ9 y A B JA JB) : CPI B JB R' S' (v + 1) := by
  obtain ⟨hPH, ⟨-, hQF⟩, hOK, hST, hIM, hDR⟩ := id hP
  obtain ⟨h0, fr⟩ := h0
  obtain ⟨hh, qk⟩ := hh
  have g0 : CI A R' S' ∧ (∀ k, 49 ≤ k → k < 73 → A k = I k ∧ JA k = J k ∧ R' k = R k) ∧ Fw [1, 2, 3, 5, 6, 18, 19, 20, 21, 22, 23, 24, 25, 26, 27, 28, 29, 30, 31, 32, 33, 34, 35, 36, 48] [(0, 16)] I A ∧ (¬ (0 ≤ a ∧ a < 2) → x = -1 ∧ RFc I A (-1)) ∧ (¬ (0 ≤ a ∧ a < 2) → R' 7 = R 7 ∧ R' 4 = R 4 ∧ (∀ k, 73 ≤ k → A k = I k ∧ R' k = R k)) ∧ ((0 ≤ a ∧ a < 2) → R 7 a.toNat = none → x = -2 ∧ RFc I A (-2) ∧ R' 7 = R 7 ∧ R' 4 = R 4 ∧ (∀ k, 73 ≤ k → A k = I k ∧ R' k = R k)) ∧ ((0 ≤ a ∧ a < 2) → ∀ c, R 7 a.toNat = some c → x = 0 ∧ Fw [1, 2, 3, 5, 6, 18, 19, 20, 21, 22, 23, 24, 25, 26, 27, 28, 29, 30, 31, 32, 33, 34, 35, 36] [(0, 16)] I A ∧ A 0 16 = 0 ∧ BkC I A R R' c ∧ R' 7 = R 7 ∧ (∀ k, 73 ≤ k → A k = I k ∧ R' k = R k)) ∧ S = S' := h0
  have h1 : Ch [50, 51] [0, 1] A B ∧ Kp 49 73 JA JB ∧ RX B ∧ (¬ (0 ≤ a ∧ a < 2) → y = -1 ∧ B 51 = A 51) ∧ ((0 ≤ a ∧ a < 2) → (A 53 a.toNat = 0 → y = -2 ∧ B 51 = A 51) ∧ (¬ A 53 a.toNat = 0 → y = 0 ∧ ∀ j : Nat, j < 5117 → B 51 j = A 52 (5117 * a.toNat + j))) := hh
  have cp := CF_back hPH.1.1 hC (C65_back g0) h1
  have cg := CG_back hPH.1.2 hC hPH.1.1.2.2.2.2.2.2.1 g0 h1
  have ch := CH_back hPH.1 hPH.2 hC g0 h1
  have hph : CPH B R' S' := ⟨⟨cp.1, cg⟩, ch⟩
  clear cp cg ch g0 h1
  have zz : ∀ k, 49 ≤ k → k < 73 → A k = I k := fun k h1 h2 => (h0.2.1 k h1 h2).1
  have zj : ∀ k, 49 ≤ k → k < 73 → JA k = J k := fun k h1 h2 => (h0.2.1 k h1 h2).2.1
  have z49 := zz 49 (by decide) (by decide)
  have z50 := zz 50 (by decide) (by decide)
  have z51 := zz 51 (by decide) (by decide)
  have z52 := zz 52 (by decide) (by decide)
  have z53 := zz 53 (by decide) (by decide)
  have z61 := zz 61 (by decide) (by decide)
  have z72 := zz 72 (by decide) (by decide)
  have qa : QF A JA v := QF_kp hQF (congrFun z49 1) (congrFun z49 25) z51 z61 (zj 62 (by decide) (by decide)) (Int.le_refl _)
  have yc : ∀ k, k < 49 ∨ 73 ≤ k → B k = A k := Ch_kp hh.1 (by decide)
  have frB : FRk B JB := FRk_kp (a := 49) (b := 73) fr yc hh.2.1 (by decide)
  obtain ⟨⟨⟨q8, q15, q12, q5, q6, q7, q11⟩, tb, -⟩, ⟨⟨q9, q0⟩, -⟩⟩ := id hPH.1
  have x5 := XI_o hC.2.1.1
  have hfu := (RX_o hQ).2.2.2.2.2.2.2.2.2
  have hHI : HI5 I R := hPH.1.1.2.2.2.2.2.2.1
  by_cases hv : 0 ≤ a ∧ a < 2
  · have d0 := hh.2.2.2.2 hv
    rw [z53] at d0
    have h4 := hHI a.toNat (by omega)
    cases hn : R 7 a.toNat with
    | none =>
      obtain ⟨g1, rf, u3, u4, u5⟩ := h0.2.2.2.2.2.1 hv hn
      have d := d0.1 (h4.mp hn)
      have b51 := d.2
      have q := qk.1 (by have := d.1; omega)
      exact ⟨hph, ⟨frB, (QF_tk qa q.2.2.1 q.2.2.2 b51 (by omega))⟩, (OK8_k hOK (fun j _ => congrFun (b51.trans z51) j) ((hh.1.1 52 (by decide) (by decide)).trans z52) ((hh.1.1 53 (by decide) (by decide)).trans z53) (RX_o hQ).2.2.2.2.2.2.2.2.2.2), ⟨(SA8_r hST.1 rf.2.1 rf.2.2 q d.1 yc z50), (TL8_k hST.2 ((congrFun (yc 1 (by decide)) 8).trans (rf.1 1 8 (by decide) (by decide) (by decide))) ((congrFun (yc 1 (by decide)) 10).trans (rf.1 1 10 (by decide) (by decide) (by decide))) ((yc 5 (by decide)).trans (Fw_row rf.1 5 (by decide) (by decide) (by decide))) (fun j _ => congrFun (b51.trans z51) j))⟩, (IM8_k hIM hC u3 ((hh.1.1 52 (by decide) (by decide)).trans z52) (fun k h1 _ => (yc k (Or.inr h1)).trans (u5 k h1).1)), (DR8_k hDR ((congrFun (yc 0 (by decide)) 13).trans (h0.2.2.1 0 13 (by decide) (by decide) (by decide))) ((congrFun (yc 0 (by decide)) 14).trans (h0.2.2.1 0 14 (by decide) (by decide) (by decide))) ((yc 47 (by decide)).trans (Fw_row h0.2.2.1 47 (by decide) (by decide) (by decide))) ((hh.1.2 39 (by decide)).trans (congrFun z49 39)) ((hh.1.2 40 (by decide)).trans (congrFun z49 40)) ((hh.1.1 72 (by decide) (by decide)).trans z72))⟩
    | some c0 =>
      obtain ⟨g1, gw, g16, bk, u5, u6⟩ := h0.2.2.2.2.2.2.1 hv c0 hn
      have h53 : I 53 a.toNat ≠ 0 := fun q9 => by rw [h4.mpr q9] at hn; cases hn
      obtain ⟨d1, d2⟩ := d0.2 h53
      have q := qk.2 (by omega)
      rw [z52] at d2
      have ok : OKr (B 51) := OKr_e (hOK.2 a.toNat (by omega) h53) d2 (RX_i hQ (by omega) h53)
      obtain ⟨m1, m2, m3⟩ := hIM a.toNat (by omega) c0 hn
      have y1 := yc 1 (by decide)
      have e10 : A 1 10 = I c0 10 := bk.1 10 (by decide) (by decide)
      have tl : TL8 B := ⟨by rw [y1, bk.1 8 (by decide) (by decide), d2 307 (by decide)]; exact m1, by rw [y1, e10, d2 308 (by decide)]; exact m2, fun j hj h9 => by rw [y1, e10] at h9; rw [yc 5 (by decide), bk.2.2.2.1 j hj, d2 _ (by omega)]; exact m3 j hj h9⟩
      exact ⟨hph, ⟨frB, (QF_tu qa q.2.2.1 q.2.2.2 (Int.le_refl _))⟩, (OK8_n hOK ok ((hh.1.1 52 (by decide) (by decide)).trans z52) ((hh.1.1 53 (by decide) (by decide)).trans z53)), ⟨(SA8_a hST.1 g16 (Fw_row gw 48 (by decide) (by decide) (by decide)) q yc z50), tl⟩, (IM8_k hIM hC u5 ((hh.1.1 52 (by decide) (by decide)).trans z52) (fun k h1 _ => (yc k (Or.inr h1)).trans (u6 k h1).1)), (DR8_k hDR ((congrFun (yc 0 (by decide)) 13).trans (h0.2.2.1 0 13 (by decide) (by decide) (by decide))) ((congrFun (yc 0 (by decide)) 14).trans (h0.2.2.1 0 14 (by decide) (by decide) (by decide))) ((yc 47 (by decide)).trans (Fw_row h0.2.2.1 47 (by decide) (by decide) (by decide))) ((hh.1.2 39 (by decide)).trans (congrFun z49 39)) ((hh.1.2 40 (by decide)).trans (congrFun z49 40)) ((hh.1.1 72 (by decide) (by decide)).trans z72))⟩
  · obtain ⟨g1, rf⟩ := h0.2.2.2.1 hv
    obtain ⟨e7, e4, ek⟩ := h0.2.2.2.2.1 hv
    have d := hh.2.2.2.1 hv
    have b51 := d.2
    have q := qk.1 (by have := d.1; omega)
    exact ⟨hph, ⟨frB, (QF_tk qa q.2.2.1 q.2.2.2 b51 (by omega))⟩, (OK8_k hOK (fun j _ => congrFun (b51.trans z51) j) ((hh.1.1 52 (by decide) (by decide)).trans z52) ((hh.1.1 53 (by decide) (by decide)).trans z53) (RX_o hQ).2.2.2.2.2.2.2.2.2.2), ⟨(SA8_r hST.1 rf.2.1 rf.2.2 q d.1 yc z50), (TL8_k hST.2 ((congrFun (yc 1 (by decide)) 8).trans (rf.1 1 8 (by decide) (by decide) (by decide))) ((congrFun (yc 1 (by decide)) 10).trans (rf.1 1 10 (by decide) (by decide) (by decide))) ((yc 5 (by decide)).trans (Fw_row rf.1 5 (by decide) (by decide) (by decide))) (fun j _ => congrFun (b51.trans z51) j))⟩, (IM8_k hIM hC e7 ((hh.1.1 52 (by decide) (by decide)).trans z52) (fun k h1 _ => (yc k (Or.inr h1)).trans (ek k h1).1)), (DR8_k hDR ((congrFun (yc 0 (by decide)) 13).trans (h0.2.2.1 0 13 (by decide) (by decide) (by decide))) ((congrFun (yc 0 (by decide)) 14).trans (h0.2.2.1 0 14 (by decide) (by decide) (by decide))) ((yc 47 (by decide)).trans (Fw_row h0.2.2.1 47 (by decide) (by decide) (by decide))) ((hh.1.2 39 (by decide)).trans (congrFun z49 39)) ((hh.1.2 40 (by decide)).trans (congrFun z49 40)) ((hh.1.1 72 (by decide) (by decide)).trans z72))⟩
set_option maxHeartbeats 1000000 in
theorem CI8_send {I A B J JA JB : aI1} {R : aR1} {S : aS1} {a b x y v : Int} (hP : CPI I J R S v) (hC : CI I R S) (hQ : RX I) (h0 : (Kp 0 49 I A ∧ Kp 0 49 J JA ∧ CX A ∧ Fw [5, 18, 19, 20, 21, 22, 23, 24, 25, 26, 27, 28, 29, 30, 48] [(0, 16), (1, 8), (1, 10)] I A ∧ (¬ (0 ≤ a ∧ a < I 1 6 ∧ 0 ≤ b ∧ b ≤ 3) → x = -1 ∧ RFc I A (-1)) ∧ ((0 ≤ a ∧ a < I 1 6 ∧ 0 ≤ b ∧ b ≤ 3) → ∃ o L T, KT b I o L T ∧ SNd (NX (bC b o L T) (I 3) (I 1 7) (I 1 8) (FU (I 1 5) + 1) a) I A x)) ∧ FRk A JA) (hh : Ch [50, 51, 61] [0, 1, 25] A B ∧ Kp 49 73 JA JB ∧ RX B ∧ QF B JB (v + 1) ∧ (¬ (0 ≤ a ∧ a < A 51 305 ∧ 0 ≤ b ∧ b ≤ 3) → y = -1 ∧ B 49 0 = -1 ∧ B 50 = up1 (A 50) 1 (A 50 1 + 1) ∧ B 51 = A 51) ∧ ((0 ≤ a ∧ a < A 51 305 ∧ 0 ≤ b ∧ b ≤ 3) → ∃ L M, zLV (A 51) (A 51 306) (FU (A 51 304) + 1) (A 51 305) (-1) L ∧ MRc (A 51) (A 51 306) (A 51 304) (A 51 305) M ∧ SNr (NX (bR b (A 51 307) (A 51 304) (A 51 305) (A 51) L M) (A 51) (A 51 306) (A 51 307) (FU (A 51 304) + 1) a) A B y)) : CPI B JB R S (v + 1) ∧ x = y := by
  obtain ⟨hPH, ⟨-, hQF⟩, hOK, hST, hIM, hDR⟩ := id hP
  obtain ⟨h0, fr⟩ := h0
  have h308 : 0 ≤ A 51 308 ∧ A 51 308 ≤ 24 := by rw [show A 51 = I 51 from h0.1 51 (by decide)]; exact (RX_o hQ).2.2.2.1
  have hsnd : ∀ j : Nat, (j < 264 ∨ 288 ≤ j) → j ≠ 307 → j ≠ 308 → B 51 j = A 51 j := fun j hj h7 h8 => by
    by_cases hv : 0 ≤ a ∧ a < A 51 305 ∧ 0 ≤ b ∧ b ≤ 3
    · obtain ⟨L, M, -, -, sn⟩ := hh.2.2.2.2.2 hv
      exact SNr_k sn h308 hj h7 h8
    · rw [(hh.2.2.2.2.1 hv).2.2.2]
  have g0 : Kp 0 49 I A ∧ Kp 0 49 J JA ∧ CX A ∧ Fw [5, 18, 19, 20, 21, 22, 23, 24, 25, 26, 27, 28, 29, 30, 31, 32, 33, 34, 35, 36, 48] [(0, 16), (1, 8), (1, 10)] I A ∧ True := ⟨h0.1, h0.2.1, h0.2.2.1, (Fw_wd h0.2.2.2.1 (by decide) (by decide)), trivial⟩
  have h1 : Ch [50, 51, 61] [0, 1, 25] A B ∧ Kp 49 73 JA JB ∧ RX B ∧ (∀ j : Nat, (j < 264 ∨ 288 ≤ j) → j ≠ 307 → j ≠ 308 → B 51 j = A 51 j) := ⟨hh.1, hh.2.1, hh.2.2.1, hsnd⟩
  have cp := CF_send hPH.1.1 hC g0 h1
  have cg := CG_send hPH.1.2 hC hQ g0 h1
  have ch := CH_send hPH.1 hPH.2 hC g0 h1
  have hph : CPH B R S := ⟨⟨cp, cg⟩, ch⟩
  clear cp cg ch g0 h1
  have zz : ∀ k, 49 ≤ k → k < 73 → A k = I k := fun k h1 _ => h0.1 k (by omega)
  have zj : ∀ k, 49 ≤ k → k < 73 → JA k = J k := fun k h1 _ => h0.2.1 k (by omega)
  have z49 := zz 49 (by decide) (by decide)
  have z50 := zz 50 (by decide) (by decide)
  have z51 := zz 51 (by decide) (by decide)
  have z52 := zz 52 (by decide) (by decide)
  have z53 := zz 53 (by decide) (by decide)
  have z61 := zz 61 (by decide) (by decide)
  have z72 := zz 72 (by decide) (by decide)
  have qa : QF A JA v := QF_kp hQF (congrFun z49 1) (congrFun z49 25) z51 z61 (zj 62 (by decide) (by decide)) (Int.le_refl _)
  have yc : ∀ k, k < 49 ∨ 73 ≤ k → B k = A k := Ch_kp hh.1 (by decide)
  have frB : FRk B JB := FRk_kp (a := 49) (b := 73) fr yc hh.2.1 (by decide)
  obtain ⟨⟨⟨q8, q15, q12, q5, q6, q7, q11⟩, tb, -⟩, ⟨⟨q9, q0⟩, -⟩⟩ := id hPH.1
  have x5 := XI_o hC.2.1.1
  have hfu := (RX_o hQ).2.2.2.2.2.2.2.2.2
  have t8 : I 1 8 = I 51 307 := hST.2.1
  have u0 := h0.2.2.2.2
  have u1 := hh.2.2.2.2
  have qf1 := hh.2.2.2.1
  have e305 : A 51 305 = I 1 6 := by rw [z51, ← q6]
  have bo := hsnd
  have b3 : ∀ j, (j < 264 ∨ j = 304 ∨ j = 305) → B 51 j = I 51 j := fun j hj => by rw [hsnd j (by omega) (by omega) (by omega), z51]
  have fin : ∀ (sa : SA8 B) (tl : TL8 B) (e : x = y) (h7 : B 51 307 ≤ FU (I 51 304)), CPI B JB R S (v + 1) ∧ x = y := fun sa tl e h7 => ⟨⟨hph, ⟨frB, qf1⟩, (OK8_n hOK (OKr_k hOK.1 b3 (by rw [b3 304 (by omega)]; exact h7) (by rw [b3 304 (by omega)]; omega)) ((hh.1.1 52 (by decide) (by decide)).trans z52) ((hh.1.1 53 (by decide) (by decide)).trans z53)), ⟨sa, tl⟩, (IM8_k hIM hC rfl ((hh.1.1 52 (by decide) (by decide)).trans z52) (fun k h1 _ => (yc k (Or.inr h1)).trans (h0.1 k (by omega)))), (DR8_k hDR ((congrFun (yc 0 (by decide)) 13).trans (h0.2.2.2.1 0 13 (by decide) (by decide) (by decide))) ((congrFun (yc 0 (by decide)) 14).trans (h0.2.2.2.1 0 14 (by decide) (by decide) (by decide))) ((yc 47 (by decide)).trans (Fw_row h0.2.2.2.1 47 (by decide) (by decide) (by decide))) ((hh.1.2 39 (by decide)).trans (congrFun z49 39)) ((hh.1.2 40 (by decide)).trans (congrFun z49 40)) ((hh.1.1 72 (by decide) (by decide)).trans z72))⟩, e⟩
  by_cases hv : 0 ≤ a ∧ a < I 1 6 ∧ 0 ≤ b ∧ b ≤ 3
  · obtain ⟨o, L, T, kt, sd⟩ := u0.2 hv
    obtain ⟨L', M, zl, mr, sr⟩ := u1.2 (by rw [e305]; exact hv)
    rw [z51, ← q5, ← q6, ← q7] at zl mr
    have sr2 := sr
    rw [z51, ← q5, ← q6, ← q7, ← t8] at sr2
    have hx := NX_p (CP_L hP hC hv.2.2 kt zl mr) (I 1 8) a x5.2.2.1.1 x5.2.2.1.2 hv.1 hv.2.1
    rw [← hx.1] at sr2
    have hnr := NX_r (bt := bC b o L T) (code := I 3) (g := I 1 7) (s := I 1 8) (N := FU (I 1 5) + 1) (x := a) x5.2.2.1.1
    obtain ⟨-, hx0, hx1⟩ := hx
    generalize NX (bC b o L T) (I 3) (I 1 7) (I 1 8) (FU (I 1 5) + 1) a = z at sd sr2 hnr hx0 hx1
    have hfr := FU_r x5.1.1 x5.1.2
    have hz : ¬ z = -1 → bc (i_xor z (I 1 8)) = pcn z.toNat - pcn (I 1 8).toNat := fun hz => by
      rcases hnr with h9 | ⟨n1, n2, -, n3, -⟩
      · exact absurd h9 hz
      · have hs8 := x5.2.2.1
        rw [bcx_pcn (by omega) (by omega) (by omega) (by omega), ← df_sub n3, pcn_df n3]
    obtain ⟨s1, s2, s3, s4⟩ := SN_pr hST.1 hST.2 sd sr2 yc z50 z51 x5.2.2.2.2.1 hz
    refine fin s1 s2 s3 ?_
    rcases s4 with s4 | ⟨-, s4⟩
    · rw [s4, z51]; exact hOK.1.2.2
    · rw [s4, ← q5]; exact hx1
  · obtain ⟨g1, rf⟩ := u0.1 hv
    obtain ⟨d1, d2, d3, d4⟩ := u1.1 (by rw [e305]; exact hv)
    exact fin (SA8_n hST.1 rf.2.1 rf.2.2 d2 d3 (by decide) yc z50) (TL8_k hST.2 ((congrFun (yc 1 (by decide)) 8).trans (rf.1 1 8 (by decide) (by decide) (by decide))) ((congrFun (yc 1 (by decide)) 10).trans (rf.1 1 10 (by decide) (by decide) (by decide))) ((yc 5 (by decide)).trans (Fw_row rf.1 5 (by decide) (by decide) (by decide))) (fun j _ => congrFun (d4.trans z51) j)) (by omega) (by rw [d4, z51]; exact hOK.1.2.2)
set_option maxHeartbeats 1000000 in
theorem CI8_night {I A B J JA JB : aI1} {R : aR1} {S : aS1} {a b c x y v : Int} (hP : CPI I J R S v) (hC : CI I R S) (hQ : RX I) (h0 : (Kp 0 49 I A ∧ Kp 0 49 J JA ∧ CX A ∧ Fw [18, 19, 20, 21, 22, 23, 24, 25, 26, 27, 28, 29, 30, 47, 48] [(0, 13), (0, 14), (0, 16)] I A ∧ (¬ (0 ≤ a ∧ a ≤ 1000000 ∧ 0 ≤ b ∧ b ≤ 24 ∧ 0 ≤ c ∧ c ≤ 3) → x = -1 ∧ RFc I A (-1)) ∧ ((0 ≤ a ∧ a ≤ 1000000 ∧ 0 ≤ b ∧ b ≤ 24 ∧ 0 ≤ c ∧ c ≤ 3) → x = A 0 13 ∧ A 48 = I 48 ∧ A 0 16 = 0 ∧ ∃ o L T, KT c I o L T ∧ NGc (fun s x => NX (bC c o L T) (I 3) (I 1 7) s (FU (I 1 5) + 1) x) a (I 1 6) b (A 47) (A 0 13) (A 0 14))) ∧ FRk A JA) (hh : Ch [50, 61, 72] [0, 1, 25, 39, 40, 41] A B ∧ Kp 49 73 JA JB ∧ RX B ∧ B 51 = A 51 ∧ QF B JB (v + 1) ∧ (¬ (0 ≤ a ∧ a ≤ 1000000 ∧ 0 ≤ b ∧ b ≤ 24 ∧ 0 ≤ c ∧ c ≤ 3) → y = -1 ∧ B 49 0 = -1 ∧ B 50 = up1 (A 50) 1 (A 50 1 + 1) ∧ B 49 39 = A 49 39 ∧ B 49 40 = A 49 40 ∧ B 72 = A 72) ∧ ((0 ≤ a ∧ a ≤ 1000000 ∧ 0 ≤ b ∧ b ≤ 24 ∧ 0 ≤ c ∧ c ≤ 3) → y = B 49 39 ∧ B 49 0 = 0 ∧ B 50 = A 50 ∧ ∃ L M, zLV (A 51) (A 51 306) (FU (A 51 304) + 1) (A 51 305) (-1) L ∧ MRc (A 51) (A 51 306) (A 51 304) (A 51 305) M ∧ NGc (fun s y => NX (bR c s (A 51 304) (A 51 305) (A 51) L M) (A 51) (A 51 306) s (FU (A 51 304) + 1) y) a (A 51 305) b (B 72) (B 49 39) (B 49 40))) : CPI B JB R S (v + 1) ∧ x = y := by
  obtain ⟨hPH, ⟨-, hQF⟩, hOK, hST, hIM, hDR⟩ := id hP
  obtain ⟨h0, fr⟩ := h0
  have g0 : Kp 0 49 I A ∧ Kp 0 49 J JA ∧ CX A ∧ Fw [18, 19, 20, 21, 22, 23, 24, 25, 26, 27, 28, 29, 30, 31, 32, 33, 34, 35, 36, 47, 48] [(0, 13), (0, 14), (0, 16)] I A ∧ True := ⟨h0.1, h0.2.1, h0.2.2.1, (Fw_wd h0.2.2.2.1 (by decide) (by decide)), trivial⟩
  have h1 : Ch [50, 61, 72] [0, 1, 25, 39, 40, 41] A B ∧ Kp 49 73 JA JB ∧ RX B ∧ True := ⟨hh.1, hh.2.1, hh.2.2.1, trivial⟩
  have cp := CF_night hPH.1.1 hC g0 h1
  have cg := CG_night hPH.1.2 hC hQ g0 h1
  have ch := CH_night hPH.1 hPH.2 hC g0 h1
  have hph : CPH B R S := ⟨⟨cp, cg⟩, ch⟩
  clear cp cg ch g0 h1
  have zz : ∀ k, 49 ≤ k → k < 73 → A k = I k := fun k h1 _ => h0.1 k (by omega)
  have zj : ∀ k, 49 ≤ k → k < 73 → JA k = J k := fun k h1 _ => h0.2.1 k (by omega)
  have z49 := zz 49 (by decide) (by decide)
  have z50 := zz 50 (by decide) (by decide)
  have z51 := zz 51 (by decide) (by decide)
  have z52 := zz 52 (by decide) (by decide)
  have z53 := zz 53 (by decide) (by decide)
  have z61 := zz 61 (by decide) (by decide)
  have z72 := zz 72 (by decide) (by decide)
  have qa : QF A JA v := QF_kp hQF (congrFun z49 1) (congrFun z49 25) z51 z61 (zj 62 (by decide) (by decide)) (Int.le_refl _)
  have yc : ∀ k, k < 49 ∨ 73 ≤ k → B k = A k := Ch_kp hh.1 (by decide)
  have frB : FRk B JB := FRk_kp (a := 49) (b := 73) fr yc hh.2.1 (by decide)
  obtain ⟨⟨⟨q8, q15, q12, q5, q6, q7, q11⟩, tb, -⟩, ⟨⟨q9, q0⟩, -⟩⟩ := id hPH.1
  have x5 := XI_o hC.2.1.1
  have hfu := (RX_o hQ).2.2.2.2.2.2.2.2.2
  have u0 := h0.2.2.2.2
  have b51 := hh.2.2.2.1
  have qf1 := hh.2.2.2.2.1
  have u1 := hh.2.2.2.2.2
  have y51 : B 51 = I 51 := b51.trans z51
  have e51 : ∀ j : Nat, B 51 j = I 51 j := fun j => congrFun y51 j
  have fin : ∀ (sa : SA8 B) (dr : DR8 B) (e : x = y), CPI B JB R S (v + 1) ∧ x = y := fun sa dr e => ⟨⟨hph, ⟨frB, qf1⟩, (OK8_k hOK (fun j _ => e51 j) ((hh.1.1 52 (by decide) (by decide)).trans z52) ((hh.1.1 53 (by decide) (by decide)).trans z53) (RX_o hQ).2.2.2.2.2.2.2.2.2.2), ⟨sa, (TL8_k hST.2 ((congrFun (yc 1 (by decide)) 8).trans (h0.2.2.2.1 1 8 (by decide) (by decide) (by decide))) ((congrFun (yc 1 (by decide)) 10).trans (h0.2.2.2.1 1 10 (by decide) (by decide) (by decide))) ((yc 5 (by decide)).trans (Fw_row h0.2.2.2.1 5 (by decide) (by decide) (by decide))) (fun j _ => e51 j))⟩, (IM8_k hIM hC rfl ((hh.1.1 52 (by decide) (by decide)).trans z52) (fun k h1 _ => (yc k (Or.inr h1)).trans (h0.1 k (by omega)))), dr⟩, e⟩
  by_cases hv : 0 ≤ a ∧ a ≤ 1000000 ∧ 0 ≤ b ∧ b ≤ 24 ∧ 0 ≤ c ∧ c ≤ 3
  · obtain ⟨g1, g48, g16, o, L, T, kt, ng⟩ := u0.2 hv
    obtain ⟨d1, d2, d3, L', M, zl, mr, nr⟩ := u1.2 hv
    rw [z51, ← q5, ← q6, ← q7] at zl mr nr
    have np := NX_p (CP_L hP hC hv.2.2.2.2 kt zl mr)
    have hfr := FU_r x5.1.1 x5.1.2
    have ng2 := NGc_cg (by have := x5.2.1.1; omega) (by omega) (fun s x h0 h1 h2 h3 => ⟨(np s x h0 h1 h2 h3).1, (np s x h0 h1 h2 h3).2.2⟩) ng
    obtain ⟨n1, n2, n3⟩ := NGc_un ng2 nr
    have y0 := yc 0 (by decide)
    have y47 := yc 47 (by decide)
    refine fin ⟨by rw [y0, g16, d2], fun j hj => by rw [yc 48 (by decide), g48, d3, z50]; exact hST.1.2 j hj⟩ (Or.inr ⟨by rw [y0]; exact n1.symm, by rw [y0]; exact n2.symm, fun j hj => ?_⟩) (by omega)
    rw [y0] at hj
    rw [y47]
    exact n3 j hj
  · obtain ⟨g1, rf⟩ := u0.1 hv
    obtain ⟨d1, d2, d3, d4, d5, d6⟩ := u1.1 hv
    exact fin (SA8_n hST.1 rf.2.1 rf.2.2 d2 d3 (by decide) yc z50) (DR8_k hDR ((congrFun (yc 0 (by decide)) 13).trans (rf.1 0 13 (by decide) (by decide) (by decide))) ((congrFun (yc 0 (by decide)) 14).trans (rf.1 0 14 (by decide) (by decide) (by decide))) ((yc 47 (by decide)).trans (Fw_row rf.1 47 (by decide) (by decide) (by decide))) (d4.trans (congrFun z49 39)) (d5.trans (congrFun z49 40)) (d6.trans z72)) (by omega)
