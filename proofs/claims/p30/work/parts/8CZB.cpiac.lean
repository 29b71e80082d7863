set_option maxHeartbeats 1000000 in
theorem CI8_news {I A B J JA JB : aI1} {R : aR1} {S : aS1} {a x y v : Int} (hP : CPI I J R S v) (hC : CI I R S) (hQ : RX I) (h0 : (Kp 0 49 I A ∧ Kp 0 49 J JA ∧ CX A ∧ Fw [3, 18, 19, 20, 21, 22, 23, 24, 25, 26, 27, 28, 29, 30, 33, 48] [(0, 16), (1, 6), (1, 8), (1, 10), (1, 11)] I A ∧ (¬ (2 ≤ a ∧ a ≤ 8) → x = -1 ∧ RFc I A (-1)) ∧ ((2 ≤ a ∧ a ≤ 8) → x = I 1 6 ∧ Fw [3, 18, 19, 20, 21, 22, 23, 24, 25, 26, 27, 28, 29, 30, 33] [(0, 16), (1, 6), (1, 8), (1, 10), (1, 11)] I A ∧ A 1 6 = a ∧ A 0 16 = 0 ∧ A 1 8 = 0 ∧ A 1 10 = 0 ∧ A 1 11 = 0 ∧ (∀ s, s < 256 → A 3 s = -1))) ∧ FRk A JA) (hh : (Ch [50, 51] [0, 1] A B ∧ Kp 49 73 JA JB ∧ RX B ∧ (¬ (2 ≤ a ∧ a ≤ 8) → y = -1 ∧ B 51 = A 51) ∧ ((2 ≤ a ∧ a ≤ 8) → y = A 51 305 ∧ B 51 = EMr (up1 (A 51) 305 a))) ∧ RGQ9 y A B JA JB) : CPI B JB R S (v + 1) := by
  obtain ⟨hPH, ⟨-, hQF⟩, hOK, hST, hIM, hDR⟩ := id hP
  obtain ⟨h0, fr⟩ := h0
  obtain ⟨hh, qk⟩ := hh
  have g0 : Kp 0 49 I A ∧ Kp 0 49 J JA ∧ CX A ∧ Fw [3, 18, 19, 20, 21, 22, 23, 24, 25, 26, 27, 28, 29, 30, 31, 32, 33, 34, 35, 36, 48] [(0, 16), (1, 6), (1, 8), (1, 10), (1, 11)] I A ∧ (¬ (2 ≤ a ∧ a ≤ 8) → x = -1 ∧ RFc I A (-1)) ∧ ((2 ≤ a ∧ a ≤ 8) → x = I 1 6 ∧ Fw [3, 18, 19, 20, 21, 22, 23, 24, 25, 26, 27, 28, 29, 30, 31, 32, 33, 34, 35, 36] [(0, 16), (1, 6), (1, 8), (1, 10), (1, 11)] I A ∧ A 1 6 = a ∧ A 0 16 = 0 ∧ A 1 8 = 0 ∧ A 1 10 = 0 ∧ A 1 11 = 0 ∧ (∀ s, s < 256 → A 3 s = -1)) := ⟨h0.1, h0.2.1, h0.2.2.1, (Fw_wd h0.2.2.2.1 (by decide) (by decide)), h0.2.2.2.2.1, (fun hq_ => ⟨(h0.2.2.2.2.2 hq_).1, (Fw_wd (h0.2.2.2.2.2 hq_).2.1 (by decide) (by decide)), (h0.2.2.2.2.2 hq_).2.2.1, (h0.2.2.2.2.2 hq_).2.2.2.1, (h0.2.2.2.2.2 hq_).2.2.2.2.1, (h0.2.2.2.2.2 hq_).2.2.2.2.2.1, (h0.2.2.2.2.2 hq_).2.2.2.2.2.2.1, (h0.2.2.2.2.2 hq_).2.2.2.2.2.2.2⟩)⟩
  have h1 : Ch [50, 51] [0, 1] A B ∧ Kp 49 73 JA JB ∧ RX B ∧ (¬ (2 ≤ a ∧ a ≤ 8) → y = -1 ∧ B 51 = A 51) ∧ ((2 ≤ a ∧ a ≤ 8) → y = A 51 305 ∧ B 51 = EMr (up1 (A 51) 305 a)) := hh
  have cp := CF_news hPH.1.1 hC g0 h1
  have cg := CG_news hPH.1.2 hC hQ g0 h1
  have ch := CH_news hPH.1 hPH.2 hC g0 h1
  have hph : CPH B R S := ⟨⟨cp.1, cg⟩, ch⟩
  clear cp cg ch g0 h1
  have zz : ∀ k, 49 ≤ k → k < 73 → A k = I k := fun k h1 _ => h0.1 k (by omega)
  have zj : ∀ k, 49 ≤ k → k < 73 → JA k = J k := fun k h1 _ => h0.2.1 k (by omega)
  have z49 := zz 49 (by decide) (by decide)
  have z50 := zz 50 (by decide) (by decide)
  have z51 := zz 51 (by decide) (by decide)
  have z52 := zz 52 (by decide) (by decide)
  have z53 := zz 53 (by decide) (by decide)
  have z61 := zz 61 (by decide) (by decide)
  have z72 := zz 72 (by decide) (by decide)
  have qa : QF A JA v := QF_kp hQF (congrFun z49 1) (congrFun z49 25) z51 z61 (zj 62 (by decide) (by decide)) (Int.le_refl _)
  have yc : ∀ k, k < 49 ∨ 73 ≤ k → B k = A k := Ch_kp hh.1 (by decide)
  have frB : FRk B JB := FRk_kp (a := 49) (b := 73) fr yc hh.2.1 (by decide)
  obtain ⟨⟨⟨q8, q15, q12, q5, q6, q7, q11⟩, tb, -⟩, ⟨⟨q9, q0⟩, -⟩⟩ := id hPH.1
  have x5 := XI_o hC.2.1.1
  have hfu := (RX_o hQ).2.2.2.2.2.2.2.2.2
  have ef : FU (A 51 304) = FU (I 1 5) := by rw [z51, ← q5]
  have e304 : A 51 304 = I 1 5 := by rw [z51, ← q5]
  have e305 : A 51 305 = I 1 6 := by rw [z51, ← q6]
  have e309 : A 51 309 = I 1 11 := by rw [z51, ← q11]
  have e310 : A 51 310 = I 1 9 := by rw [z51, ← q9]
  have e10 : A 49 10 = I 8 1 := (congrFun z49 10).trans q8.symm
  by_cases hv : 2 ≤ a ∧ a ≤ 8
  · have g := h0.2.2.2.2.2 hv
    have d := hh.2.2.2.2 hv
    obtain ⟨g1, gw, -, g16, g8, g10, -, -⟩ := g
    obtain ⟨d1, db⟩ := d
    have q := qk.2 (by omega)
    have b4 : B 51 304 = A 51 304 := by rw [db, EMr_o (by decide) (by decide), up1_n _ _ (by decide)]
    have b5 : B 51 305 = a := by rw [db, EMr_o (by decide) (by decide), up1_s]
    have b7 : B 51 307 = 0 := by rw [db]; rfl
    have b8 : B 51 308 = 0 := by rw [db]; rfl
    have hfB := FU_r (n := B 51 304) (by omega) (by omega)
    have ok : OKr (B 51) := ⟨fun l hl => by rw [db, EMr_o (by omega) (by omega), up1_n _ _ (by omega), z51]; exact hOK.1.1 l hl, fun s hs => by
        have e9 : B 51 s = -1 := by rw [db]; exact if_pos (by omega)
        rw [e9, b5]; omega, by rw [b7, b4]; omega⟩
    exact ⟨hph, ⟨frB, (QF_tu qa q.2.2.1 q.2.2.2 (Int.le_refl _))⟩, (OK8_n hOK ok ((hh.1.1 52 (by decide) (by decide)).trans z52) ((hh.1.1 53 (by decide) (by decide)).trans z53)), ⟨(SA8_a hST.1 g16 (Fw_row gw 48 (by decide) (by decide) (by decide)) q yc z50), (TL8_0 ((congrFun (yc 1 (by decide)) 8).trans g8) ((congrFun (yc 1 (by decide)) 10).trans g10) b7 b8)⟩, (IM8_k hIM hC rfl ((hh.1.1 52 (by decide) (by decide)).trans z52) (fun k h1 _ => (yc k (Or.inr h1)).trans (h0.1 k (by omega)))), (DR8_k hDR ((congrFun (yc 0 (by decide)) 13).trans (h0.2.2.2.1 0 13 (by decide) (by decide) (by decide))) ((congrFun (yc 0 (by decide)) 14).trans (h0.2.2.2.1 0 14 (by decide) (by decide) (by decide))) ((yc 47 (by decide)).trans (Fw_row h0.2.2.2.1 47 (by decide) (by decide) (by decide))) ((hh.1.2 39 (by decide)).trans (congrFun z49 39)) ((hh.1.2 40 (by decide)).trans (congrFun z49 40)) ((hh.1.1 72 (by decide) (by decide)).trans z72))⟩
  · have g := h0.2.2.2.2.1 hv
    have d := hh.2.2.2.1 hv
    have b51 := d.2
    have rf := g.2
    have q := qk.1 (by have := d.1; omega)
    exact ⟨hph, ⟨frB, (QF_tk qa q.2.2.1 q.2.2.2 b51 (by omega))⟩, (OK8_k hOK (fun j _ => congrFun (b51.trans z51) j) ((hh.1.1 52 (by decide) (by decide)).trans z52) ((hh.1.1 53 (by decide) (by decide)).trans z53) (RX_o hQ).2.2.2.2.2.2.2.2.2.2), ⟨(SA8_r hST.1 rf.2.1 rf.2.2 q d.1 yc z50), (TL8_k hST.2 ((congrFun (yc 1 (by decide)) 8).trans (rf.1 1 8 (by decide) (by decide) (by decide))) ((congrFun (yc 1 (by decide)) 10).trans (rf.1 1 10 (by decide) (by decide) (by decide))) ((yc 5 (by decide)).trans (Fw_row rf.1 5 (by decide) (by decide) (by decide))) (fun j _ => congrFun (b51.trans z51) j))⟩, (IM8_k hIM hC rfl ((hh.1.1 52 (by decide) (by decide)).trans z52) (fun k h1 _ => (yc k (Or.inr h1)).trans (h0.1 k (by omega)))), (DR8_k hDR ((congrFun (yc 0 (by decide)) 13).trans (h0.2.2.2.1 0 13 (by decide) (by decide) (by decide))) ((congrFun (yc 0 (by decide)) 14).trans (h0.2.2.2.1 0 14 (by decide) (by decide) (by decide))) ((yc 47 (by decide)).trans (Fw_row h0.2.2.2.1 47 (by decide) (by decide) (by decide))) ((hh.1.2 39 (by decide)).trans (congrFun z49 39)) ((hh.1.2 40 (by decide)).trans (congrFun z49 40)) ((hh.1.1 72 (by decide) (by decide)).trans z72))⟩
set_option maxHeartbeats 1000000 in
theorem CI8_oil {I A B J JA JB : aI1} {R : aR1} {S : aS1} {a b x y v : Int} (hP : CPI I J R S v) (hC : CI I R S) (hQ : RX I) (h0 : (Kp 0 49 I A ∧ Kp 0 49 J JA ∧ CX A ∧ Fw [2, 18, 33, 48] [(0, 16)] I A ∧ (¬ (0 ≤ a ∧ a < I 1 5 ∧ 0 ≤ b ∧ b ≤ 99) → x = -1 ∧ RFc I A (-1)) ∧ ((0 ≤ a ∧ a < I 1 5 ∧ 0 ≤ b ∧ b ≤ 99) → x = I 2 a.toNat ∧ Fw [2, 18, 33] [(0, 16)] I A ∧ A 0 16 = 0 ∧ A 2 = up1 (I 2) a.toNat b)) ∧ FRk A JA) (hh : (Ch [50, 51] [0, 1] A B ∧ Kp 49 73 JA JB ∧ RX B ∧ (¬ (0 ≤ a ∧ a < A 51 304 ∧ 0 ≤ b ∧ b ≤ 99) → y = -1 ∧ B 51 = A 51) ∧ ((0 ≤ a ∧ a < A 51 304 ∧ 0 ≤ b ∧ b ≤ 99) → y = A 51 (256 + a.toNat) ∧ B 51 = up1 (A 51) (256 + a.toNat) b)) ∧ ((0 ≤ a ∧ a < A 51 304 ∧ 0 ≤ b ∧ b ≤ 99) → GQ9 A B) ∧ (¬ (0 ≤ a ∧ a < A 51 304 ∧ 0 ≤ b ∧ b ≤ 99) → RQ9 y A B JA JB)) : CPI B JB R S (v + 1) := by
  obtain ⟨hPH, ⟨-, hQF⟩, hOK, hST, hIM, hDR⟩ := id hP
  obtain ⟨h0, fr⟩ := h0
  obtain ⟨hh, qk⟩ := hh
  have g0 : Kp 0 49 I A ∧ Kp 0 49 J JA ∧ CX A ∧ Fw [2, 18, 33, 48] [(0, 16)] I A ∧ (¬ (0 ≤ a ∧ a < I 1 5 ∧ 0 ≤ b ∧ b ≤ 99) → x = -1 ∧ RFc I A (-1)) ∧ ((0 ≤ a ∧ a < I 1 5 ∧ 0 ≤ b ∧ b ≤ 99) → x = I 2 a.toNat ∧ Fw [2, 18, 33] [(0, 16)] I A ∧ A 0 16 = 0 ∧ A 2 = up1 (I 2) a.toNat b) := h0
  have h1 : Ch [50, 51] [0, 1] A B ∧ Kp 49 73 JA JB ∧ RX B ∧ (¬ (0 ≤ a ∧ a < A 51 304 ∧ 0 ≤ b ∧ b ≤ 99) → y = -1 ∧ B 51 = A 51) ∧ ((0 ≤ a ∧ a < A 51 304 ∧ 0 ≤ b ∧ b ≤ 99) → y = A 51 (256 + a.toNat) ∧ B 51 = up1 (A 51) (256 + a.toNat) b) := hh
  have cp := CF_oil hPH.1.1 hC g0 h1
  have cg := CG_oil hPH.1.2 hC hQ g0 h1
  have ch := CH_oil hPH.1 hPH.2 hC g0 h1
  have hph : CPH B R S := ⟨⟨cp.1, cg⟩, ch⟩
  clear cp cg ch g0 h1
  have zz : ∀ k, 49 ≤ k → k < 73 → A k = I k := fun k h1 _ => h0.1 k (by omega)
  have zj : ∀ k, 49 ≤ k → k < 73 → JA k = J k := fun k h1 _ => h0.2.1 k (by omega)
  have z49 := zz 49 (by decide) (by decide)
  have z50 := zz 50 (by decide) (by decide)
  have z51 := zz 51 (by decide) (by decide)
  have z52 := zz 52 (by decide) (by decide)
  have z53 := zz 53 (by decide) (by decide)
  have z61 := zz 61 (by decide) (by decide)
  have z72 := zz 72 (by decide) (by decide)
  have qa : QF A JA v := QF_kp hQF (congrFun z49 1) (congrFun z49 25) z51 z61 (zj 62 (by decide) (by decide)) (Int.le_refl _)
  have yc : ∀ k, k < 49 ∨ 73 ≤ k → B k = A k := Ch_kp hh.1 (by decide)
  have frB : FRk B JB := FRk_kp (a := 49) (b := 73) fr yc hh.2.1 (by decide)
  obtain ⟨⟨⟨q8, q15, q12, q5, q6, q7, q11⟩, tb, -⟩, ⟨⟨q9, q0⟩, -⟩⟩ := id hPH.1
  have x5 := XI_o hC.2.1.1
  have hfu := (RX_o hQ).2.2.2.2.2.2.2.2.2
  have ef : FU (A 51 304) = FU (I 1 5) := by rw [z51, ← q5]
  have e304 : A 51 304 = I 1 5 := by rw [z51, ← q5]
  have e305 : A 51 305 = I 1 6 := by rw [z51, ← q6]
  have e309 : A 51 309 = I 1 11 := by rw [z51, ← q11]
  have e310 : A 51 310 = I 1 9 := by rw [z51, ← q9]
  have e10 : A 49 10 = I 8 1 := (congrFun z49 10).trans q8.symm
  have hd := hh.2.2.2
  rw [e304] at hd qk
  by_cases hv : 0 ≤ a ∧ a < I 1 5 ∧ 0 ≤ b ∧ b ≤ 99
  · obtain ⟨g1, gw, g16, g2⟩ := h0.2.2.2.2.2 hv
    obtain ⟨d1, db⟩ := hd.2 hv
    have q := qk.1 hv
    have bo : ∀ j, j ≠ 256 + a.toNat → B 51 j = I 51 j := fun j hj => by rw [db, up1_n _ _ hj, z51]
    have ok : OKr (B 51) := ⟨fun l hl => by
        by_cases e9 : 256 + l = 256 + a.toNat
        · rw [db, e9, up1_s]; omega
        · rw [bo _ e9]; exact hOK.1.1 l hl, fun s hs => by
        rw [bo 304 (by omega)] at hs
        rw [bo s (by omega), bo 305 (by omega)]
        exact hOK.1.2.1 s hs, by rw [bo 307 (by omega), bo 304 (by omega)]; exact hOK.1.2.2⟩
    exact ⟨hph, ⟨frB, (QF_tu qa q.2.2.1 q.2.2.2 (Int.le_refl _))⟩, (OK8_n hOK ok ((hh.1.1 52 (by decide) (by decide)).trans z52) ((hh.1.1 53 (by decide) (by decide)).trans z53)), ⟨(SA8_a hST.1 g16 (Fw_row gw 48 (by decide) (by decide) (by decide)) q yc z50), (TL8_k hST.2 ((congrFun (yc 1 (by decide)) 8).trans (h0.2.2.2.1 1 8 (by decide) (by decide) (by decide))) ((congrFun (yc 1 (by decide)) 10).trans (h0.2.2.2.1 1 10 (by decide) (by decide) (by decide))) ((yc 5 (by decide)).trans (Fw_row h0.2.2.2.1 5 (by decide) (by decide) (by decide))) (fun j hj => bo j (by omega)))⟩, (IM8_k hIM hC rfl ((hh.1.1 52 (by decide) (by decide)).trans z52) (fun k h1 _ => (yc k (Or.inr h1)).trans (h0.1 k (by omega)))), (DR8_k hDR ((congrFun (yc 0 (by decide)) 13).trans (h0.2.2.2.1 0 13 (by decide) (by decide) (by decide))) ((congrFun (yc 0 (by decide)) 14).trans (h0.2.2.2.1 0 14 (by decide) (by decide) (by decide))) ((yc 47 (by decide)).trans (Fw_row h0.2.2.2.1 47 (by decide) (by decide) (by decide))) ((hh.1.2 39 (by decide)).trans (congrFun z49 39)) ((hh.1.2 40 (by decide)).trans (congrFun z49 40)) ((hh.1.1 72 (by decide) (by decide)).trans z72))⟩
  · have g := h0.2.2.2.2.1 hv
    have d := hd.1 hv
    have b51 := d.2
    have rf := g.2
    have q := qk.2 hv
    exact ⟨hph, ⟨frB, (QF_tk qa q.2.2.1 q.2.2.2 b51 (by omega))⟩, (OK8_k hOK (fun j _ => congrFun (b51.trans z51) j) ((hh.1.1 52 (by decide) (by decide)).trans z52) ((hh.1.1 53 (by decide) (by decide)).trans z53) (RX_o hQ).2.2.2.2.2.2.2.2.2.2), ⟨(SA8_r hST.1 rf.2.1 rf.2.2 q d.1 yc z50), (TL8_k hST.2 ((congrFun (yc 1 (by decide)) 8).trans (rf.1 1 8 (by decide) (by decide) (by decide))) ((congrFun (yc 1 (by decide)) 10).trans (rf.1 1 10 (by decide) (by decide) (by decide))) ((yc 5 (by decide)).trans (Fw_row rf.1 5 (by decide) (by decide) (by decide))) (fun j _ => congrFun (b51.trans z51) j))⟩, (IM8_k hIM hC rfl ((hh.1.1 52 (by decide) (by decide)).trans z52) (fun k h1 _ => (yc k (Or.inr h1)).trans (h0.1 k (by omega)))), (DR8_k hDR ((congrFun (yc 0 (by decide)) 13).trans (h0.2.2.2.1 0 13 (by decide) (by decide) (by decide))) ((congrFun (yc 0 (by decide)) 14).trans (h0.2.2.2.1 0 14 (by decide) (by decide) (by decide))) ((yc 47 (by decide)).trans (Fw_row h0.2.2.2.1 47 (by decide) (by decide) (by decide))) ((hh.1.2 39 (by decide)).trans (congrFun z49 39)) ((hh.1.2 40 (by decide)).trans (congrFun z49 40)) ((hh.1.1 72 (by decide) (by decide)).trans z72))⟩
set_option maxHeartbeats 1000000 in
theorem CI8_broken {I A B J JA JB : aI1} {R : aR1} {S : aS1} {a b x y v : Int} (hP : CPI I J R S v) (hC : CI I R S) (hQ : RX I) (h0 : (Kp 0 49 I A ∧ Kp 0 49 J JA ∧ CX A ∧ Fw [18, 19, 20, 21, 22, 23, 24, 25, 26, 27, 28, 29, 30, 33, 48] [(0, 16), (1, 7)] I A ∧ (¬ (0 ≤ a ∧ a < I 1 5 ∧ 0 ≤ b ∧ b ≤ 1) → x = -1 ∧ RFc I A (-1)) ∧ ((0 ≤ a ∧ a < I 1 5 ∧ 0 ≤ b ∧ b ≤ 1) → x = i_and (i_shr (I 1 7) a) 1 ∧ Fw [18, 19, 20, 21, 22, 23, 24, 25, 26, 27, 28, 29, 30, 33] [(0, 16), (1, 7)] I A ∧ A 0 16 = 0 ∧ A 1 7 = i_or (i_and (I 1 7) (i_xor (i_shl 1 a) (-1))) (i_shl b a))) ∧ FRk A JA) (hh : (Ch [50, 51] [0, 1] A B ∧ Kp 49 73 JA JB ∧ RX B ∧ (¬ (0 ≤ a ∧ a < A 51 304 ∧ 0 ≤ b ∧ b ≤ 1) → y = -1 ∧ B 51 = A 51) ∧ ((0 ≤ a ∧ a < A 51 304 ∧ 0 ≤ b ∧ b ≤ 1) → y = i_and (i_shr (A 51 306) a) 1 ∧ B 51 = up1 (A 51) 306 (i_or (i_and (A 51 306) (i_xor (i_shl 1 a) (-1))) (i_shl b a)))) ∧ ((0 ≤ a ∧ a < A 51 304 ∧ 0 ≤ b ∧ b ≤ 1) → GQ9 A B) ∧ (¬ (0 ≤ a ∧ a < A 51 304 ∧ 0 ≤ b ∧ b ≤ 1) → RQ9 y A B JA JB)) : CPI B JB R S (v + 1) := by
  obtain ⟨hPH, ⟨-, hQF⟩, hOK, hST, hIM, hDR⟩ := id hP
  obtain ⟨h0, fr⟩ := h0
  obtain ⟨hh, qk⟩ := hh
  have g0 : Kp 0 49 I A ∧ Kp 0 49 J JA ∧ CX A ∧ Fw [18, 19, 20, 21, 22, 23, 24, 25, 26, 27, 28, 29, 30, 31, 32, 33, 34, 35, 36, 48] [(0, 16), (1, 7)] I A ∧ (¬ (0 ≤ a ∧ a < I 1 5 ∧ 0 ≤ b ∧ b ≤ 1) → x = -1 ∧ RFc I A (-1)) ∧ ((0 ≤ a ∧ a < I 1 5 ∧ 0 ≤ b ∧ b ≤ 1) → x = i_and (i_shr (I 1 7) a) 1 ∧ Fw [18, 19, 20, 21, 22, 23, 24, 25, 26, 27, 28, 29, 30, 31, 32, 33, 34, 35, 36] [(0, 16), (1, 7)] I A ∧ A 0 16 = 0 ∧ A 1 7 = i_or (i_and (I 1 7) (i_xor (i_shl 1 a) (-1))) (i_shl b a)) := ⟨h0.1, h0.2.1, h0.2.2.1, (Fw_wd h0.2.2.2.1 (by decide) (by decide)), h0.2.2.2.2.1, (fun hq_ => ⟨(h0.2.2.2.2.2 hq_).1, (Fw_wd (h0.2.2.2.2.2 hq_).2.1 (by decide) (by decide)), (h0.2.2.2.2.2 hq_).2.2.1, (h0.2.2.2.2.2 hq_).2.2.2⟩)⟩
  have h1 : Ch [50, 51] [0, 1] A B ∧ Kp 49 73 JA JB ∧ RX B ∧ (¬ (0 ≤ a ∧ a < A 51 304 ∧ 0 ≤ b ∧ b ≤ 1) → y = -1 ∧ B 51 = A 51) ∧ ((0 ≤ a ∧ a < A 51 304 ∧ 0 ≤ b ∧ b ≤ 1) → y = i_and (i_shr (A 51 306) a) 1 ∧ B 51 = up1 (A 51) 306 (i_or (i_and (A 51 306) (i_xor (i_shl 1 a) (-1))) (i_shl b a))) := hh
  have cp := CF_broken hPH.1.1 hC g0 h1
  have cg := CG_broken hPH.1.2 hC hQ g0 h1
  have ch := CH_broken hPH.1 hPH.2 hC g0 h1
  have hph : CPH B R S := ⟨⟨cp.1, cg⟩, ch⟩
  clear cp cg ch g0 h1
  have zz : ∀ k, 49 ≤ k → k < 73 → A k = I k := fun k h1 _ => h0.1 k (by omega)
  have zj : ∀ k, 49 ≤ k → k < 73 → JA k = J k := fun k h1 _ => h0.2.1 k (by omega)
  have z49 := zz 49 (by decide) (by decide)
  have z50 := zz 50 (by decide) (by decide)
  have z51 := zz 51 (by decide) (by decide)
  have z52 := zz 52 (by decide) (by decide)
  have z53 := zz 53 (by decide) (by decide)
  have z61 := zz 61 (by decide) (by decide)
  have z72 := zz 72 (by decide) (by decide)
  have qa : QF A JA v := QF_kp hQF (congrFun z49 1) (congrFun z49 25) z51 z61 (zj 62 (by decide) (by decide)) (Int.le_refl _)
  have yc : ∀ k, k < 49 ∨ 73 ≤ k → B k = A k := Ch_kp hh.1 (by decide)
  have frB : FRk B JB := FRk_kp (a := 49) (b := 73) fr yc hh.2.1 (by decide)
  obtain ⟨⟨⟨q8, q15, q12, q5, q6, q7, q11⟩, tb, -⟩, ⟨⟨q9, q0⟩, -⟩⟩ := id hPH.1
  have x5 := XI_o hC.2.1.1
  have hfu := (RX_o hQ).2.2.2.2.2.2.2.2.2
  have ef : FU (A 51 304) = FU (I 1 5) := by rw [z51, ← q5]
  have e304 : A 51 304 = I 1 5 := by rw [z51, ← q5]
  have e305 : A 51 305 = I 1 6 := by rw [z51, ← q6]
  have e309 : A 51 309 = I 1 11 := by rw [z51, ← q11]
  have e310 : A 51 310 = I 1 9 := by rw [z51, ← q9]
  have e10 : A 49 10 = I 8 1 := (congrFun z49 10).trans q8.symm
  have hd := hh.2.2.2
  rw [e304] at hd qk
  by_cases hv : 0 ≤ a ∧ a < I 1 5 ∧ 0 ≤ b ∧ b ≤ 1
  · obtain ⟨g1, gw, g16, g2⟩ := h0.2.2.2.2.2 hv
    obtain ⟨d1, db⟩ := hd.2 hv
    have q := qk.1 hv
    have bo : ∀ j, j ≠ 306 → B 51 j = I 51 j := fun j hj => by rw [db, up1_n _ _ hj, z51]
    exact ⟨hph, ⟨frB, (QF_tu qa q.2.2.1 q.2.2.2 (Int.le_refl _))⟩, (OK8_k hOK (fun j hj => bo j (by omega)) ((hh.1.1 52 (by decide) (by decide)).trans z52) ((hh.1.1 53 (by decide) (by decide)).trans z53) (RX_o hQ).2.2.2.2.2.2.2.2.2.2), ⟨(SA8_a hST.1 g16 (Fw_row gw 48 (by decide) (by decide) (by decide)) q yc z50), (TL8_k hST.2 ((congrFun (yc 1 (by decide)) 8).trans (h0.2.2.2.1 1 8 (by decide) (by decide) (by decide))) ((congrFun (yc 1 (by decide)) 10).trans (h0.2.2.2.1 1 10 (by decide) (by decide) (by decide))) ((yc 5 (by decide)).trans (Fw_row h0.2.2.2.1 5 (by decide) (by decide) (by decide))) (fun j hj => bo j (by omega)))⟩, (IM8_k hIM hC rfl ((hh.1.1 52 (by decide) (by decide)).trans z52) (fun k h1 _ => (yc k (Or.inr h1)).trans (h0.1 k (by omega)))), (DR8_k hDR ((congrFun (yc 0 (by decide)) 13).trans (h0.2.2.2.1 0 13 (by decide) (by decide) (by decide))) ((congrFun (yc 0 (by decide)) 14).trans (h0.2.2.2.1 0 14 (by decide) (by decide) (by decide))) ((yc 47 (by decide)).trans (Fw_row h0.2.2.2.1 47 (by decide) (by decide) (by decide))) ((hh.1.2 39 (by decide)).trans (congrFun z49 39)) ((hh.1.2 40 (by decide)).trans (congrFun z49 40)) ((hh.1.1 72 (by decide) (by decide)).trans z72))⟩
  · have g := h0.2.2.2.2.1 hv
    have d := hd.1 hv
    have b51 := d.2
    have rf := g.2
    have q := qk.2 hv
    exact ⟨hph, ⟨frB, (QF_tk qa q.2.2.1 q.2.2.2 b51 (by omega))⟩, (OK8_k hOK (fun j _ => congrFun (b51.trans z51) j) ((hh.1.1 52 (by decide) (by decide)).trans z52) ((hh.1.1 53 (by decide) (by decide)).trans z53) (RX_o hQ).2.2.2.2.2.2.2.2.2.2), ⟨(SA8_r hST.1 rf.2.1 rf.2.2 q d.1 yc z50), (TL8_k hST.2 ((congrFun (yc 1 (by decide)) 8).trans (rf.1 1 8 (by decide) (by decide) (by decide))) ((congrFun (yc 1 (by decide)) 10).trans (rf.1 1 10 (by decide) (by decide) (by decide))) ((yc 5 (by decide)).trans (Fw_row rf.1 5 (by decide) (by decide) (by decide))) (fun j _ => congrFun (b51.trans z51) j))⟩, (IM8_k hIM hC rfl ((hh.1.1 52 (by decide) (by decide)).trans z52) (fun k h1 _ => (yc k (Or.inr h1)).trans (h0.1 k (by omega)))), (DR8_k hDR ((congrFun (yc 0 (by decide)) 13).trans (h0.2.2.2.1 0 13 (by decide) (by decide) (by decide))) ((congrFun (yc 0 (by decide)) 14).trans (h0.2.2.2.1 0 14 (by decide) (by decide) (by decide))) ((yc 47 (by decide)).trans (Fw_row h0.2.2.2.1 47 (by decide) (by decide) (by decide))) ((hh.1.2 39 (by decide)).trans (congrFun z49 39)) ((hh.1.2 40 (by decide)).trans (congrFun z49 40)) ((hh.1.1 72 (by decide) (by decide)).trans z72))⟩
set_option maxHeartbeats 1000000 in
theorem CI8_read {I A B J JA JB : aI1} {R : aR1} {S : aS1} {a b x y v : Int} (hP : CPI I J R S v) (hC : CI I R S) (hQ : RX I) (h0 : (Kp 0 49 I A ∧ Kp 0 49 J JA ∧ CX A ∧ Fw [3, 18, 19, 20, 21, 22, 23, 24, 25, 26, 27, 28, 29, 30, 33, 48] [(0, 16)] I A ∧ (¬ (0 ≤ a ∧ a ≤ FU (I 1 5) ∧ (b = -1 ∨ (0 ≤ b ∧ b < I 1 6))) → x = -1 ∧ RFc I A (-1)) ∧ ((0 ≤ a ∧ a ≤ FU (I 1 5) ∧ (b = -1 ∨ (0 ≤ b ∧ b < I 1 6))) → x = I 3 a.toNat ∧ Fw [3, 18, 19, 20, 21, 22, 23, 24, 25, 26, 27, 28, 29, 30, 33] [(0, 16)] I A ∧ A 0 16 = 0 ∧ A 3 = up1 (I 3) a.toNat b)) ∧ FRk A JA) (hh : (Ch [50, 51] [0, 1] A B ∧ Kp 49 73 JA JB ∧ RX B ∧ (¬ (0 ≤ a ∧ a ≤ FU (A 51 304) ∧ (b = -1 ∨ (0 ≤ b ∧ b < A 51 305))) → y = -1 ∧ B 51 = A 51) ∧ ((0 ≤ a ∧ a ≤ FU (A 51 304) ∧ (b = -1 ∨ (0 ≤ b ∧ b < A 51 305))) → y = A 51 a.toNat ∧ B 51 = up1 (A 51) a.toNat b)) ∧ ((0 ≤ a ∧ a ≤ FU (A 51 304) ∧ (b = -1 ∨ (0 ≤ b ∧ b < A 51 305))) → GQ9 A B) ∧ (¬ (0 ≤ a ∧ a ≤ FU (A 51 304) ∧ (b = -1 ∨ (0 ≤ b ∧ b < A 51 305))) → RQ9 y A B JA JB)) : CPI B JB R S (v + 1) := by
  obtain ⟨hPH, ⟨-, hQF⟩, hOK, hST, hIM, hDR⟩ := id hP
  obtain ⟨h0, fr⟩ := h0
  obtain ⟨hh, qk⟩ := hh
  have g0 : Kp 0 49 I A ∧ Kp 0 49 J JA ∧ CX A ∧ Fw [3, 18, 19, 20, 21, 22, 23, 24, 25, 26, 27, 28, 29, 30, 31, 32, 33, 34, 35, 36, 48] [(0, 16)] I A ∧ (¬ (0 ≤ a ∧ a ≤ FU (I 1 5) ∧ (b = -1 ∨ (0 ≤ b ∧ b < I 1 6))) → x = -1 ∧ RFc I A (-1)) ∧ ((0 ≤ a ∧ a ≤ FU (I 1 5) ∧ (b = -1 ∨ (0 ≤ b ∧ b < I 1 6))) → x = I 3 a.toNat ∧ Fw [3, 18, 19, 20, 21, 22, 23, 24, 25, 26, 27, 28, 29, 30, 31, 32, 33, 34, 35, 36] [(0, 16)] I A ∧ A 0 16 = 0 ∧ A 3 = up1 (I 3) a.toNat b) := ⟨h0.1, h0.2.1, h0.2.2.1, (Fw_wd h0.2.2.2.1 (by decide) (by decide)), h0.2.2.2.2.1, (fun hq_ => ⟨(h0.2.2.2.2.2 hq_).1, (Fw_wd (h0.2.2.2.2.2 hq_).2.1 (by decide) (by decide)), (h0.2.2.2.2.2 hq_).2.2.1, (h0.2.2.2.2.2 hq_).2.2.2⟩)⟩
  have h1 : Ch [50, 51] [0, 1] A B ∧ Kp 49 73 JA JB ∧ RX B ∧ (¬ (0 ≤ a ∧ a ≤ FU (A 51 304) ∧ (b = -1 ∨ (0 ≤ b ∧ b < A 51 305))) → y = -1 ∧ B 51 = A 51) ∧ ((0 ≤ a ∧ a ≤ FU (A 51 304) ∧ (b = -1 ∨ (0 ≤ b ∧ b < A 51 305))) → y = A 51 a.toNat ∧ B 51 = up1 (A 51) a.toNat b) := hh
  have cp := CF_read hPH.1.1 hC g0 h1
  have cg := CG_read hPH.1.2 hC hQ g0 h1
  have ch := CH_read hPH.1 hPH.2 hC g0 h1
  have hph : CPH B R S := ⟨⟨cp, cg⟩, ch.1⟩
  clear cp cg ch g0 h1
  have zz : ∀ k, 49 ≤ k → k < 73 → A k = I k := fun k h1 _ => h0.1 k (by omega)
  have zj : ∀ k, 49 ≤ k → k < 73 → JA k = J k := fun k h1 _ => h0.2.1 k (by omega)
  have z49 := zz 49 (by decide) (by decide)
  have z50 := zz 50 (by decide) (by decide)
  have z51 := zz 51 (by decide) (by decide)
  have z52 := zz 52 (by decide) (by decide)
  have z53 := zz 53 (by decide) (by decide)
  have z61 := zz 61 (by decide) (by decide)
  have z72 := zz 72 (by decide) (by decide)
  have qa : QF A JA v := QF_kp hQF (congrFun z49 1) (congrFun z49 25) z51 z61 (zj 62 (by decide) (by decide)) (Int.le_refl _)
  have yc : ∀ k, k < 49 ∨ 73 ≤ k → B k = A k := Ch_kp hh.1 (by decide)
  have frB : FRk B JB := FRk_kp (a := 49) (b := 73) fr yc hh.2.1 (by decide)
  obtain ⟨⟨⟨q8, q15, q12, q5, q6, q7, q11⟩, tb, -⟩, ⟨⟨q9, q0⟩, -⟩⟩ := id hPH.1
  have x5 := XI_o hC.2.1.1
  have hfu := (RX_o hQ).2.2.2.2.2.2.2.2.2
  have ef : FU (A 51 304) = FU (I 1 5) := by rw [z51, ← q5]
  have e304 : A 51 304 = I 1 5 := by rw [z51, ← q5]
  have e305 : A 51 305 = I 1 6 := by rw [z51, ← q6]
  have e309 : A 51 309 = I 1 11 := by rw [z51, ← q11]
  have e310 : A 51 310 = I 1 9 := by rw [z51, ← q9]
  have e10 : A 49 10 = I 8 1 := (congrFun z49 10).trans q8.symm
  have hd := hh.2.2.2
  rw [ef, e305] at hd qk
  by_cases hv : 0 ≤ a ∧ a ≤ FU (I 1 5) ∧ (b = -1 ∨ (0 ≤ b ∧ b < I 1 6))
  · obtain ⟨g1, gw, g16, g2⟩ := h0.2.2.2.2.2 hv
    obtain ⟨d1, db⟩ := hd.2 hv
    have q := qk.1 hv
    have bo : ∀ j, j ≠ a.toNat → B 51 j = I 51 j := fun j hj => by rw [db, up1_n _ _ hj, z51]
    have hq5 := congrFun z51 305
    have ok : OKr (B 51) := ⟨fun l hl => by rw [bo _ (by omega)]; exact hOK.1.1 l hl, fun s hs => by
        rw [bo 304 (by omega)] at hs
        rw [bo 305 (by omega)]
        by_cases e9 : s = a.toNat
        · rw [db, e9, up1_s]; omega
        · rw [bo s e9]; exact hOK.1.2.1 s hs, by rw [bo 307 (by omega), bo 304 (by omega)]; exact hOK.1.2.2⟩
    exact ⟨hph, ⟨frB, (QF_tu qa q.2.2.1 q.2.2.2 (Int.le_refl _))⟩, (OK8_n hOK ok ((hh.1.1 52 (by decide) (by decide)).trans z52) ((hh.1.1 53 (by decide) (by decide)).trans z53)), ⟨(SA8_a hST.1 g16 (Fw_row gw 48 (by decide) (by decide) (by decide)) q yc z50), (TL8_k hST.2 ((congrFun (yc 1 (by decide)) 8).trans (h0.2.2.2.1 1 8 (by decide) (by decide) (by decide))) ((congrFun (yc 1 (by decide)) 10).trans (h0.2.2.2.1 1 10 (by decide) (by decide) (by decide))) ((yc 5 (by decide)).trans (Fw_row h0.2.2.2.1 5 (by decide) (by decide) (by decide))) (fun j hj => bo j (by omega)))⟩, (IM8_k hIM hC rfl ((hh.1.1 52 (by decide) (by decide)).trans z52) (fun k h1 _ => (yc k (Or.inr h1)).trans (h0.1 k (by omega)))), (DR8_k hDR ((congrFun (yc 0 (by decide)) 13).trans (h0.2.2.2.1 0 13 (by decide) (by decide) (by decide))) ((congrFun (yc 0 (by decide)) 14).trans (h0.2.2.2.1 0 14 (by decide) (by decide) (by decide))) ((yc 47 (by decide)).trans (Fw_row h0.2.2.2.1 47 (by decide) (by decide) (by decide))) ((hh.1.2 39 (by decide)).trans (congrFun z49 39)) ((hh.1.2 40 (by decide)).trans (congrFun z49 40)) ((hh.1.1 72 (by decide) (by decide)).trans z72))⟩
  · have g := h0.2.2.2.2.1 hv
    have d := hd.1 hv
    have b51 := d.2
    have rf := g.2
    have q := qk.2 hv
    exact ⟨hph, ⟨frB, (QF_tk qa q.2.2.1 q.2.2.2 b51 (by omega))⟩, (OK8_k hOK (fun j _ => congrFun (b51.trans z51) j) ((hh.1.1 52 (by decide) (by decide)).trans z52) ((hh.1.1 53 (by decide) (by decide)).trans z53) (RX_o hQ).2.2.2.2.2.2.2.2.2.2), ⟨(SA8_r hST.1 rf.2.1 rf.2.2 q d.1 yc z50), (TL8_k hST.2 ((congrFun (yc 1 (by decide)) 8).trans (rf.1 1 8 (by decide) (by decide) (by decide))) ((congrFun (yc 1 (by decide)) 10).trans (rf.1 1 10 (by decide) (by decide) (by decide))) ((yc 5 (by decide)).trans (Fw_row rf.1 5 (by decide) (by decide) (by decide))) (fun j _ => congrFun (b51.trans z51) j))⟩, (IM8_k hIM hC rfl ((hh.1.1 52 (by decide) (by decide)).trans z52) (fun k h1 _ => (yc k (Or.inr h1)).trans (h0.1 k (by omega)))), (DR8_k hDR ((congrFun (yc 0 (by decide)) 13).trans (h0.2.2.2.1 0 13 (by decide) (by decide) (by decide))) ((congrFun (yc 0 (by decide)) 14).trans (h0.2.2.2.1 0 14 (by decide) (by decide) (by decide))) ((yc 47 (by decide)).trans (Fw_row h0.2.2.2.1 47 (by decide) (by decide) (by decide))) ((hh.1.2 39 (by decide)).trans (congrFun z49 39)) ((hh.1.2 40 (by decide)).trans (congrFun z49 40)) ((hh.1.1 72 (by decide) (by decide)).trans z72))⟩
set_option maxHeartbeats 1000000 in
theorem CI8_row {I A B J JA JB : aI1} {R : aR1} {S : aS1} {x y v : Int} (hP : CPI I J R S v) (hC : CI I R S) (hQ : RX I) (h0 : (Kp 0 49 I A ∧ Kp 0 49 J JA ∧ CX A ∧ Fw [3, 18, 19, 20, 21, 22, 23, 24, 25, 26, 27, 28, 29, 30, 33, 48] [(0, 15), (0, 16), (8, 1)] I A ∧ (I 8 1 = 0 → x = -6 ∧ RFc I A (-6)) ∧ (¬ I 8 1 = 0 → Fw [3, 18, 19, 20, 21, 22, 23, 24, 25, 26, 27, 28, 29, 30, 33] [(0, 15), (0, 16), (8, 1)] I A ∧ A 0 16 = 0 ∧ A 8 1 = 0 ∧ A 0 15 = max 0 (I 8 1 - (FU (I 1 5) + 1)) ∧ (∀ j : Nat, A 3 j = if (j : Int) < FU (I 1 5) + 1 then RWv (I 9) (I 8 1) (I 1 6) j else I 3 j) ∧ x = cnR (A 3) (FU (I 1 5) + 1).toNat)) ∧ FRk A JA) (hh : (Ch [50, 51] [0, 1, 6, 10] A B ∧ Kp 49 73 JA JB ∧ RX B ∧ B 49 10 = 0 ∧ (A 49 10 = 0 → y = -6 ∧ B 49 6 = A 49 6 ∧ B 51 = A 51) ∧ (¬ A 49 10 = 0 → B 49 6 = max 0 (A 49 10 - (FU (A 51 304) + 1)) ∧ (∀ j : Nat, B 51 j = if (j : Int) < FU (A 51 304) + 1 then RWv (A 55) (A 49 10) (A 51 305) j else A 51 j) ∧ y = cnR (B 51) (FU (A 51 304) + 1).toNat)) ∧ ((¬ A 49 10 = 0) → GQ9 A B) ∧ (¬ (¬ A 49 10 = 0) → RQ9 y A B JA JB)) : CPI B JB R S (v + 1) := by
  obtain ⟨hPH, ⟨-, hQF⟩, hOK, hST, hIM, hDR⟩ := id hP
  obtain ⟨h0, fr⟩ := h0
  obtain ⟨hh, qk⟩ := hh
  have g0 : Kp 0 49 I A ∧ Kp 0 49 J JA ∧ CX A ∧ Fw [3, 18, 19, 20, 21, 22, 23, 24, 25, 26, 27, 28, 29, 30, 31, 32, 33, 34, 35, 36, 48] [(0, 15), (0, 16), (8, 1)] I A ∧ (I 8 1 = 0 → x = -6 ∧ RFc I A (-6)) ∧ (¬ I 8 1 = 0 → Fw [3, 18, 19, 20, 21, 22, 23, 24, 25, 26, 27, 28, 29, 30, 31, 32, 33, 34, 35, 36] [(0, 15), (0, 16), (8, 1)] I A ∧ A 0 16 = 0 ∧ A 8 1 = 0 ∧ A 0 15 = max 0 (I 8 1 - (FU (I 1 5) + 1)) ∧ (∀ j : Nat, A 3 j = if (j : Int) < FU (I 1 5) + 1 then RWv (I 9) (I 8 1) (I 1 6) j else I 3 j) ∧ x = cnR (A 3) (FU (I 1 5) + 1).toNat) := ⟨h0.1, h0.2.1, h0.2.2.1, (Fw_wd h0.2.2.2.1 (by decide) (by decide)), h0.2.2.2.2.1, (fun hq_ => ⟨(Fw_wd (h0.2.2.2.2.2 hq_).1 (by decide) (by decide)), (h0.2.2.2.2.2 hq_).2.1, (h0.2.2.2.2.2 hq_).2.2.1, (h0.2.2.2.2.2 hq_).2.2.2.1, (h0.2.2.2.2.2 hq_).2.2.2.2.1, (h0.2.2.2.2.2 hq_).2.2.2.2.2⟩)⟩
  have h1 : Ch [50, 51] [0, 1, 6, 10] A B ∧ Kp 49 73 JA JB ∧ RX B ∧ B 49 10 = 0 ∧ (A 49 10 = 0 → y = -6 ∧ B 49 6 = A 49 6 ∧ B 51 = A 51) ∧ (¬ A 49 10 = 0 → B 49 6 = max 0 (A 49 10 - (FU (A 51 304) + 1)) ∧ (∀ j : Nat, B 51 j = if (j : Int) < FU (A 51 304) + 1 then RWv (A 55) (A 49 10) (A 51 305) j else A 51 j) ∧ y = cnR (B 51) (FU (A 51 304) + 1).toNat) := hh
  have cp := CF_row hPH.1.1 hC g0 h1
  have cg := CG_row hPH.1.2 hC hQ g0 h1
  have ch := CH_row hPH.1 hPH.2 hC g0 h1
  have hph : CPH B R S := ⟨⟨cp.1, cg⟩, ch⟩
  clear cp cg ch g0 h1
  have zz : ∀ k, 49 ≤ k → k < 73 → A k = I k := fun k h1 _ => h0.1 k (by omega)
  have zj : ∀ k, 49 ≤ k → k < 73 → JA k = J k := fun k h1 _ => h0.2.1 k (by omega)
  have z49 := zz 49 (by decide) (by decide)
  have z50 := zz 50 (by decide) (by decide)
  have z51 := zz 51 (by decide) (by decide)
  have z52 := zz 52 (by decide) (by decide)
  have z53 := zz 53 (by decide) (by decide)
  have z61 := zz 61 (by decide) (by decide)
  have z72 := zz 72 (by decide) (by decide)
  have qa : QF A JA v := QF_kp hQF (congrFun z49 1) (congrFun z49 25) z51 z61 (zj 62 (by decide) (by decide)) (Int.le_refl _)
  have yc : ∀ k, k < 49 ∨ 73 ≤ k → B k = A k := Ch_kp hh.1 (by decide)
  have frB : FRk B JB := FRk_kp (a := 49) (b := 73) fr yc hh.2.1 (by decide)
  obtain ⟨⟨⟨q8, q15, q12, q5, q6, q7, q11⟩, tb, -⟩, ⟨⟨q9, q0⟩, -⟩⟩ := id hPH.1
  have x5 := XI_o hC.2.1.1
  have hfu := (RX_o hQ).2.2.2.2.2.2.2.2.2
  have ef : FU (A 51 304) = FU (I 1 5) := by rw [z51, ← q5]
  have e304 : A 51 304 = I 1 5 := by rw [z51, ← q5]
  have e305 : A 51 305 = I 1 6 := by rw [z51, ← q6]
  have e309 : A 51 309 = I 1 11 := by rw [z51, ← q11]
  have e310 : A 51 310 = I 1 9 := by rw [z51, ← q9]
  have e10 : A 49 10 = I 8 1 := (congrFun z49 10).trans q8.symm
  have hd := hh.2.2.2
  rw [e10, ef, e305] at hd
  rw [e10] at qk
  by_cases hv : ¬ I 8 1 = 0
  · obtain ⟨gw, g16, -, -, -, -⟩ := h0.2.2.2.2.2 hv
    obtain ⟨-, db, -⟩ := hd.2.2 hv
    have q := qk.1 hv
    have bo : ∀ j : Nat, ¬ (j : Int) < FU (I 1 5) + 1 → B 51 j = I 51 j := fun j hj => by rw [db j, if_neg hj, z51]
    have hb : FU (I 1 5) ≤ 255 := by have := FU_r x5.1.1 x5.1.2; omega
    have ok : OKr (B 51) := ⟨fun l hl => by rw [bo _ (by omega)]; exact hOK.1.1 l hl, fun s hs => by
        rw [bo 304 (by omega), ← q5] at hs
        rw [bo 305 (by omega), ← q6, db s, if_pos (by omega)]
        unfold RWv
        by_cases e9 : (s : Int) < I 8 1 ∧ 0 ≤ A 55 s ∧ A 55 s < I 1 6
        · rw [if_pos e9]; omega
        · rw [if_neg e9]; omega, by rw [bo 307 (by omega), bo 304 (by omega)]; exact hOK.1.2.2⟩
    exact ⟨hph, ⟨frB, (QF_tu qa q.2.2.1 q.2.2.2 (Int.le_refl _))⟩, (OK8_n hOK ok ((hh.1.1 52 (by decide) (by decide)).trans z52) ((hh.1.1 53 (by decide) (by decide)).trans z53)), ⟨(SA8_a hST.1 g16 (Fw_row gw 48 (by decide) (by decide) (by decide)) q yc z50), (TL8_k hST.2 ((congrFun (yc 1 (by decide)) 8).trans (h0.2.2.2.1 1 8 (by decide) (by decide) (by decide))) ((congrFun (yc 1 (by decide)) 10).trans (h0.2.2.2.1 1 10 (by decide) (by decide) (by decide))) ((yc 5 (by decide)).trans (Fw_row h0.2.2.2.1 5 (by decide) (by decide) (by decide))) (fun j hj => bo j (by omega)))⟩, (IM8_k hIM hC rfl ((hh.1.1 52 (by decide) (by decide)).trans z52) (fun k h1 _ => (yc k (Or.inr h1)).trans (h0.1 k (by omega)))), (DR8_k hDR ((congrFun (yc 0 (by decide)) 13).trans (h0.2.2.2.1 0 13 (by decide) (by decide) (by decide))) ((congrFun (yc 0 (by decide)) 14).trans (h0.2.2.2.1 0 14 (by decide) (by decide) (by decide))) ((yc 47 (by decide)).trans (Fw_row h0.2.2.2.1 47 (by decide) (by decide) (by decide))) ((hh.1.2 39 (by decide)).trans (congrFun z49 39)) ((hh.1.2 40 (by decide)).trans (congrFun z49 40)) ((hh.1.1 72 (by decide) (by decide)).trans z72))⟩
  · have hv0 : I 8 1 = 0 := by omega
    have g := h0.2.2.2.2.1 hv0
    have d := hd.2.1 hv0
    have b51 := d.2.2
    have rf := g.2
    have q := qk.2 hv
    exact ⟨hph, ⟨frB, (QF_tk qa q.2.2.1 q.2.2.2 b51 (by omega))⟩, (OK8_k hOK (fun j _ => congrFun (b51.trans z51) j) ((hh.1.1 52 (by decide) (by decide)).trans z52) ((hh.1.1 53 (by decide) (by decide)).trans z53) (RX_o hQ).2.2.2.2.2.2.2.2.2.2), ⟨(SA8_r hST.1 rf.2.1 rf.2.2 q d.1 yc z50), (TL8_k hST.2 ((congrFun (yc 1 (by decide)) 8).trans (rf.1 1 8 (by decide) (by decide) (by decide))) ((congrFun (yc 1 (by decide)) 10).trans (rf.1 1 10 (by decide) (by decide) (by decide))) ((yc 5 (by decide)).trans (Fw_row rf.1 5 (by decide) (by decide) (by decide))) (fun j _ => congrFun (b51.trans z51) j))⟩, (IM8_k hIM hC rfl ((hh.1.1 52 (by decide) (by decide)).trans z52) (fun k h1 _ => (yc k (Or.inr h1)).trans (h0.1 k (by omega)))), (DR8_k hDR ((congrFun (yc 0 (by decide)) 13).trans (h0.2.2.2.1 0 13 (by decide) (by decide) (by decide))) ((congrFun (yc 0 (by decide)) 14).trans (h0.2.2.2.1 0 14 (by decide) (by decide) (by decide))) ((yc 47 (by decide)).trans (Fw_row h0.2.2.2.1 47 (by decide) (by decide) (by decide))) ((hh.1.2 39 (by decide)).trans (congrFun z49 39)) ((hh.1.2 40 (by decide)).trans (congrFun z49 40)) ((hh.1.1 72 (by decide) (by decide)).trans z72))⟩
set_option maxHeartbeats 1000000 in
theorem CI8_learn {I A B J JA JB : aI1} {R : aR1} {S : aS1} {qsf : Nat → List zQ} {a x y v : Int} (hP : CPI I J R S v) (hC : CI I R S) (hQ : RX I) (h0 : (Kp 0 49 I A ∧ Kp 0 49 J JA ∧ CX A ∧ Fw [3, 15, 16, 17, 18, 19, 20, 21, 22, 23, 24, 25, 26, 27, 28, 29, 30, 33, 48] [(0, 16)] I A ∧ (¬ (0 ≤ a ∧ a < I 1 9) → x = -2 ∧ RFc I A (-2)) ∧ ((0 ≤ a ∧ a < I 1 9) → Fw [3, 15, 16, 17, 18, 19, 20, 21, 22, 23, 24, 25, 26, 27, 28, 29, 30, 33] [(0, 16)] I A ∧ A 0 16 = 0 ∧ (∀ j : Nat, A 3 j = if (j : Int) ≤ FU (I 1 5) then zLd (qsf a.toNat) (I 1 5) (I 1 6) j else I 3 j) ∧ x = cnR (A 3) (FU (I 1 5) + 1).toNat)) ∧ FRk A JA) (hh : (Ch [50, 51, 60] [0, 1, 19, 20, 21] A B ∧ Kp 49 73 JA JB ∧ RX B ∧ (0 ≤ a ∧ a < A 51 310 → (∀ s : Nat, (s : Int) ≤ FU (A 51 304) → B 51 s = zLd (qsf a.toNat) (A 51 304) (A 51 305) s) ∧ (∀ s : Nat, ¬ (s : Int) ≤ FU (A 51 304) → B 51 s = A 51 s) ∧ y = cnR (B 51) (FU (A 51 304) + 1).toNat) ∧ (¬ (0 ≤ a ∧ a < A 51 310) → y = -2 ∧ B 51 = A 51)) ∧ RGQ9 y A B JA JB) : CPI B JB R S (v + 1) := by
  obtain ⟨hPH, ⟨-, hQF⟩, hOK, hST, hIM, hDR⟩ := id hP
  obtain ⟨h0, fr⟩ := h0
  obtain ⟨hh, qk⟩ := hh
  have g0 : Kp 0 49 I A ∧ Kp 0 49 J JA ∧ CX A ∧ Fw [3, 15, 16, 17, 18, 19, 20, 21, 22, 23, 24, 25, 26, 27, 28, 29, 30, 31, 32, 33, 34, 35, 36, 48] [(0, 16)] I A ∧ (¬ (0 ≤ a ∧ a < I 1 9) → x = -2 ∧ RFc I A (-2)) ∧ ((0 ≤ a ∧ a < I 1 9) → Fw [3, 15, 16, 17, 18, 19, 20, 21, 22, 23, 24, 25, 26, 27, 28, 29, 30, 31, 32, 33, 34, 35, 36] [(0, 16)] I A ∧ A 0 16 = 0 ∧ (∀ j : Nat, A 3 j = if (j : Int) ≤ FU (I 1 5) then zLd (qsf a.toNat) (I 1 5) (I 1 6) j else I 3 j) ∧ x = cnR (A 3) (FU (I 1 5) + 1).toNat) := ⟨h0.1, h0.2.1, h0.2.2.1, (Fw_wd h0.2.2.2.1 (by decide) (by decide)), h0.2.2.2.2.1, (fun hq_ => ⟨(Fw_wd (h0.2.2.2.2.2 hq_).1 (by decide) (by decide)), (h0.2.2.2.2.2 hq_).2.1, (h0.2.2.2.2.2 hq_).2.2.1, (h0.2.2.2.2.2 hq_).2.2.2⟩)⟩
  have h1 : Ch [50, 51, 60] [0, 1, 19, 20, 21] A B ∧ Kp 49 73 JA JB ∧ RX B ∧ (0 ≤ a ∧ a < A 51 310 → (∀ s : Nat, (s : Int) ≤ FU (A 51 304) → B 51 s = zLd (qsf a.toNat) (A 51 304) (A 51 305) s) ∧ (∀ s : Nat, ¬ (s : Int) ≤ FU (A 51 304) → B 51 s = A 51 s) ∧ y = cnR (B 51) (FU (A 51 304) + 1).toNat) ∧ (¬ (0 ≤ a ∧ a < A 51 310) → y = -2 ∧ B 51 = A 51) := hh
  have cp := CF_learn hPH.1.1 hC ⟨g0.1, g0.2.1, g0.2.2.1, g0.2.2.2.1, trivial⟩ (R66_learn (RX_low hQ h0.1) h1)
  have cg := CG_learn hPH.1.2 hC hQ ⟨g0.1, g0.2.1, g0.2.2.1, g0.2.2.2.1, trivial⟩ (R66_learn (RX_low hQ h0.1) h1)
  have ch := CH_learn hPH.1 hPH.2 hC g0 h1
  have hph : CPH B R S := ⟨⟨cp, cg⟩, ch.1⟩
  clear cp cg ch g0 h1
  have zz : ∀ k, 49 ≤ k → k < 73 → A k = I k := fun k h1 _ => h0.1 k (by omega)
  have zj : ∀ k, 49 ≤ k → k < 73 → JA k = J k := fun k h1 _ => h0.2.1 k (by omega)
  have z49 := zz 49 (by decide) (by decide)
  have z50 := zz 50 (by decide) (by decide)
  have z51 := zz 51 (by decide) (by decide)
  have z52 := zz 52 (by decide) (by decide)
  have z53 := zz 53 (by decide) (by decide)
  have z61 := zz 61 (by decide) (by decide)
  have z72 := zz 72 (by decide) (by decide)
  have qa : QF A JA v := QF_kp hQF (congrFun z49 1) (congrFun z49 25) z51 z61 (zj 62 (by decide) (by decide)) (Int.le_refl _)
  have yc : ∀ k, k < 49 ∨ 73 ≤ k → B k = A k := Ch_kp hh.1 (by decide)
  have frB : FRk B JB := FRk_kp (a := 49) (b := 73) fr yc hh.2.1 (by decide)
  obtain ⟨⟨⟨q8, q15, q12, q5, q6, q7, q11⟩, tb, -⟩, ⟨⟨q9, q0⟩, -⟩⟩ := id hPH.1
  have x5 := XI_o hC.2.1.1
  have hfu := (RX_o hQ).2.2.2.2.2.2.2.2.2
  have ef : FU (A 51 304) = FU (I 1 5) := by rw [z51, ← q5]
  have e304 : A 51 304 = I 1 5 := by rw [z51, ← q5]
  have e305 : A 51 305 = I 1 6 := by rw [z51, ← q6]
  have e309 : A 51 309 = I 1 11 := by rw [z51, ← q11]
  have e310 : A 51 310 = I 1 9 := by rw [z51, ← q9]
  have e10 : A 49 10 = I 8 1 := (congrFun z49 10).trans q8.symm
  have hd := hh.2.2.2
  rw [e310, e304, e305] at hd
  by_cases hv : 0 ≤ a ∧ a < I 1 9
  · obtain ⟨gw, g16, -, -⟩ := h0.2.2.2.2.2 hv
    obtain ⟨d1, d2, d3⟩ := hd.1 hv
    have hr9 := cnR_0 (B 51) (FU (I 1 5) + 1).toNat
    have q := qk.2 (by omega)
    have bo : ∀ j : Nat, ¬ (j : Int) ≤ FU (I 1 5) → B 51 j = I 51 j := fun j hj => by rw [d2 j hj, z51]
    have hb : FU (I 1 5) ≤ 255 := by have := FU_r x5.1.1 x5.1.2; omega
    have ok : OKr (B 51) := ⟨fun l hl => by rw [bo _ (by omega)]; exact hOK.1.1 l hl, fun s hs => by
        rw [bo 304 (by omega), ← q5] at hs
        rw [bo 305 (by omega), ← q6, d1 s hs]
        exact zGv_k (by omega), by rw [bo 307 (by omega), bo 304 (by omega)]; exact hOK.1.2.2⟩
    exact ⟨hph, ⟨frB, (QF_tu qa q.2.2.1 q.2.2.2 (Int.le_refl _))⟩, (OK8_n hOK ok ((hh.1.1 52 (by decide) (by decide)).trans z52) ((hh.1.1 53 (by decide) (by decide)).trans z53)), ⟨(SA8_a hST.1 g16 (Fw_row gw 48 (by decide) (by decide) (by decide)) q yc z50), (TL8_k hST.2 ((congrFun (yc 1 (by decide)) 8).trans (h0.2.2.2.1 1 8 (by decide) (by decide) (by decide))) ((congrFun (yc 1 (by decide)) 10).trans (h0.2.2.2.1 1 10 (by decide) (by decide) (by decide))) ((yc 5 (by decide)).trans (Fw_row h0.2.2.2.1 5 (by decide) (by decide) (by decide))) (fun j hj => bo j (by omega)))⟩, (IM8_k hIM hC rfl ((hh.1.1 52 (by decide) (by decide)).trans z52) (fun k h1 _ => (yc k (Or.inr h1)).trans (h0.1 k (by omega)))), (DR8_k hDR ((congrFun (yc 0 (by decide)) 13).trans (h0.2.2.2.1 0 13 (by decide) (by decide) (by decide))) ((congrFun (yc 0 (by decide)) 14).trans (h0.2.2.2.1 0 14 (by decide) (by decide) (by decide))) ((yc 47 (by decide)).trans (Fw_row h0.2.2.2.1 47 (by decide) (by decide) (by decide))) ((hh.1.2 39 (by decide)).trans (congrFun z49 39)) ((hh.1.2 40 (by decide)).trans (congrFun z49 40)) ((hh.1.1 72 (by decide) (by decide)).trans z72))⟩
  · have g := h0.2.2.2.2.1 hv
    have d := hd.2 hv
    have b51 := d.2
    have rf := g.2
    have q := qk.1 (by have := d.1; omega)
    exact ⟨hph, ⟨frB, (QF_tk qa q.2.2.1 q.2.2.2 b51 (by omega))⟩, (OK8_k hOK (fun j _ => congrFun (b51.trans z51) j) ((hh.1.1 52 (by decide) (by decide)).trans z52) ((hh.1.1 53 (by decide) (by decide)).trans z53) (RX_o hQ).2.2.2.2.2.2.2.2.2.2), ⟨(SA8_r hST.1 rf.2.1 rf.2.2 q d.1 yc z50), (TL8_k hST.2 ((congrFun (yc 1 (by decide)) 8).trans (rf.1 1 8 (by decide) (by decide) (by decide))) ((congrFun (yc 1 (by decide)) 10).trans (rf.1 1 10 (by decide) (by decide) (by decide))) ((yc 5 (by decide)).trans (Fw_row rf.1 5 (by decide) (by decide) (by decide))) (fun j _ => congrFun (b51.trans z51) j))⟩, (IM8_k hIM hC rfl ((hh.1.1 52 (by decide) (by decide)).trans z52) (fun k h1 _ => (yc k (Or.inr h1)).trans (h0.1 k (by omega)))), (DR8_k hDR ((congrFun (yc 0 (by decide)) 13).trans (h0.2.2.2.1 0 13 (by decide) (by decide) (by decide))) ((congrFun (yc 0 (by decide)) 14).trans (h0.2.2.2.1 0 14 (by decide) (by decide) (by decide))) ((yc 47 (by decide)).trans (Fw_row h0.2.2.2.1 47 (by decide) (by decide) (by decide))) ((hh.1.2 39 (by decide)).trans (congrFun z49 39)) ((hh.1.2 40 (by decide)).trans (congrFun z49 40)) ((hh.1.1 72 (by decide) (by decide)).trans z72))⟩
set_option maxHeartbeats 1000000 in
theorem CI8_trail {I A B J JA JB : aI1} {R : aR1} {S : aS1} {x y v : Int} (hP : CPI I J R S v) (hC : CI I R S) (hQ : RX I) (h0 : (Kp 0 49 I A ∧ Kp 0 49 J JA ∧ CX A ∧ Fw [46, 48] [(0, 12), (0, 16), (8, 1)] I A ∧ (I 8 1 = 0 → x = -6 ∧ RFc I A (-6)) ∧ (¬ I 8 1 = 0 → x = min (I 8 1) 30 ∧ Fw [46] [(0, 12), (0, 16), (8, 1)] I A ∧ A 0 16 = 0 ∧ A 0 12 = min (I 8 1) 30 ∧ A 8 1 = 0 ∧ (∀ j : Nat, (j : Int) < min (I 8 1) 30 → A 46 j = I 9 j))) ∧ FRk A JA) (hh : (Ch [50, 67] [0, 1, 10, 33] A B ∧ Kp 49 73 JA JB ∧ RX B ∧ B 49 10 = 0 ∧ (A 49 10 = 0 → y = -6 ∧ B 49 33 = A 49 33 ∧ B 67 = A 67) ∧ (¬ A 49 10 = 0 → y = min (A 49 10) 30 ∧ B 49 33 = min (A 49 10) 30 ∧ (∀ j : Nat, (j : Int) < min (A 49 10) 30 → B 67 j = i_and (A 55 j) 255))) ∧ RGQ9 y A B JA JB) : CPI B JB R S (v + 1) := by
  obtain ⟨hPH, ⟨-, hQF⟩, hOK, hST, hIM, hDR⟩ := id hP
  obtain ⟨h0, fr⟩ := h0
  obtain ⟨hh, qk⟩ := hh
  have g0 : Kp 0 49 I A ∧ Kp 0 49 J JA ∧ CX A ∧ Fw [46, 48] [(0, 12), (0, 16), (8, 1)] I A ∧ (I 8 1 = 0 → x = -6 ∧ RFc I A (-6)) ∧ (¬ I 8 1 = 0 → x = min (I 8 1) 30 ∧ Fw [46] [(0, 12), (0, 16), (8, 1)] I A ∧ A 0 16 = 0 ∧ A 0 12 = min (I 8 1) 30 ∧ A 8 1 = 0 ∧ (∀ j : Nat, (j : Int) < min (I 8 1) 30 → A 46 j = I 9 j)) := h0
  have h1 : Ch [50, 67] [0, 1, 10, 33] A B ∧ Kp 49 73 JA JB ∧ RX B ∧ B 49 10 = 0 ∧ (A 49 10 = 0 → y = -6 ∧ B 49 33 = A 49 33 ∧ B 67 = A 67) ∧ (¬ A 49 10 = 0 → y = min (A 49 10) 30 ∧ B 49 33 = min (A 49 10) 30 ∧ (∀ j : Nat, (j : Int) < min (A 49 10) 30 → B 67 j = i_and (A 55 j) 255)) := hh
  have cp := CF_trail hPH.1.1 hC g0 h1
  have cg := CG_trail hPH.1.2 hC hQ g0 h1
  have ch := CH_trail hPH.1 hPH.2 hC g0 h1
  have hph : CPH B R S := ⟨⟨cp.1, cg⟩, ch⟩
  clear cp cg ch g0 h1
  have zz : ∀ k, 49 ≤ k → k < 73 → A k = I k := fun k h1 _ => h0.1 k (by omega)
  have zj : ∀ k, 49 ≤ k → k < 73 → JA k = J k := fun k h1 _ => h0.2.1 k (by omega)
  have z49 := zz 49 (by decide) (by decide)
  have z50 := zz 50 (by decide) (by decide)
  have z51 := zz 51 (by decide) (by decide)
  have z52 := zz 52 (by decide) (by decide)
  have z53 := zz 53 (by decide) (by decide)
  have z61 := zz 61 (by decide) (by decide)
  have z72 := zz 72 (by decide) (by decide)
  have qa : QF A JA v := QF_kp hQF (congrFun z49 1) (congrFun z49 25) z51 z61 (zj 62 (by decide) (by decide)) (Int.le_refl _)
  have yc : ∀ k, k < 49 ∨ 73 ≤ k → B k = A k := Ch_kp hh.1 (by decide)
  have frB : FRk B JB := FRk_kp (a := 49) (b := 73) fr yc hh.2.1 (by decide)
  obtain ⟨⟨⟨q8, q15, q12, q5, q6, q7, q11⟩, tb, -⟩, ⟨⟨q9, q0⟩, -⟩⟩ := id hPH.1
  have x5 := XI_o hC.2.1.1
  have hfu := (RX_o hQ).2.2.2.2.2.2.2.2.2
  have ef : FU (A 51 304) = FU (I 1 5) := by rw [z51, ← q5]
  have e304 : A 51 304 = I 1 5 := by rw [z51, ← q5]
  have e305 : A 51 305 = I 1 6 := by rw [z51, ← q6]
  have e309 : A 51 309 = I 1 11 := by rw [z51, ← q11]
  have e310 : A 51 310 = I 1 9 := by rw [z51, ← q9]
  have e10 : A 49 10 = I 8 1 := (congrFun z49 10).trans q8.symm
  have hd := hh.2.2.2
  rw [e10] at hd
  by_cases hv : ¬ I 8 1 = 0
  · obtain ⟨g1, gw, g16, -, -, -⟩ := h0.2.2.2.2.2 hv
    obtain ⟨d1, -, -⟩ := hd.2.2 hv
    have q := qk.2 (by omega)
    exact ⟨hph, ⟨frB, (QF_tu qa q.2.2.1 q.2.2.2 (Int.le_refl _))⟩, (OK8_k hOK (fun j _ => congrFun ((hh.1.1 51 (by decide) (by decide)).trans z51) j) ((hh.1.1 52 (by decide) (by decide)).trans z52) ((hh.1.1 53 (by decide) (by decide)).trans z53) (RX_o hQ).2.2.2.2.2.2.2.2.2.2), ⟨(SA8_a hST.1 g16 (Fw_row gw 48 (by decide) (by decide) (by decide)) q yc z50), (TL8_k hST.2 ((congrFun (yc 1 (by decide)) 8).trans (h0.2.2.2.1 1 8 (by decide) (by decide) (by decide))) ((congrFun (yc 1 (by decide)) 10).trans (h0.2.2.2.1 1 10 (by decide) (by decide) (by decide))) ((yc 5 (by decide)).trans (Fw_row h0.2.2.2.1 5 (by decide) (by decide) (by decide))) (fun j _ => congrFun ((hh.1.1 51 (by decide) (by decide)).trans z51) j))⟩, (IM8_k hIM hC rfl ((hh.1.1 52 (by decide) (by decide)).trans z52) (fun k h1 _ => (yc k (Or.inr h1)).trans (h0.1 k (by omega)))), (DR8_k hDR ((congrFun (yc 0 (by decide)) 13).trans (h0.2.2.2.1 0 13 (by decide) (by decide) (by decide))) ((congrFun (yc 0 (by decide)) 14).trans (h0.2.2.2.1 0 14 (by decide) (by decide) (by decide))) ((yc 47 (by decide)).trans (Fw_row h0.2.2.2.1 47 (by decide) (by decide) (by decide))) ((hh.1.2 39 (by decide)).trans (congrFun z49 39)) ((hh.1.2 40 (by decide)).trans (congrFun z49 40)) ((hh.1.1 72 (by decide) (by decide)).trans z72))⟩
  · have hv0 : I 8 1 = 0 := by omega
    have g := h0.2.2.2.2.1 hv0
    have d := hd.2.1 hv0
    have b51 : B 51 = A 51 := hh.1.1 51 (by decide) (by decide)
    have rf := g.2
    have q := qk.1 (by have := d.1; omega)
    exact ⟨hph, ⟨frB, (QF_tk qa q.2.2.1 q.2.2.2 b51 (by omega))⟩, (OK8_k hOK (fun j _ => congrFun (b51.trans z51) j) ((hh.1.1 52 (by decide) (by decide)).trans z52) ((hh.1.1 53 (by decide) (by decide)).trans z53) (RX_o hQ).2.2.2.2.2.2.2.2.2.2), ⟨(SA8_r hST.1 rf.2.1 rf.2.2 q d.1 yc z50), (TL8_k hST.2 ((congrFun (yc 1 (by decide)) 8).trans (rf.1 1 8 (by decide) (by decide) (by decide))) ((congrFun (yc 1 (by decide)) 10).trans (rf.1 1 10 (by decide) (by decide) (by decide))) ((yc 5 (by decide)).trans (Fw_row rf.1 5 (by decide) (by decide) (by decide))) (fun j _ => congrFun (b51.trans z51) j))⟩, (IM8_k hIM hC rfl ((hh.1.1 52 (by decide) (by decide)).trans z52) (fun k h1 _ => (yc k (Or.inr h1)).trans (h0.1 k (by omega)))), (DR8_k hDR ((congrFun (yc 0 (by decide)) 13).trans (h0.2.2.2.1 0 13 (by decide) (by decide) (by decide))) ((congrFun (yc 0 (by decide)) 14).trans (h0.2.2.2.1 0 14 (by decide) (by decide) (by decide))) ((yc 47 (by decide)).trans (Fw_row h0.2.2.2.1 47 (by decide) (by decide) (by decide))) ((hh.1.2 39 (by decide)).trans (congrFun z49 39)) ((hh.1.2 40 (by decide)).trans (congrFun z49 40)) ((hh.1.1 72 (by decide) (by decide)).trans z72))⟩
set_option maxHeartbeats 1000000 in
theorem CI8_want {I A B J JA JB : aI1} {R : aR1} {S : aS1} {a x y v : Int} (hP : CPI I J R S v) (hC : CI I R S) (hQ : RX I) (h0 : (Kp 0 49 I A ∧ Kp 0 49 J JA ∧ CX A ∧ Fw [6, 33, 48] [(0, 16), (1, 11)] I A ∧ (¬ (0 ≤ a ∧ a < I 1 6) → x = -1 ∧ RFc I A (-1)) ∧ ((0 ≤ a ∧ a < I 1 6) → (16 ≤ I 1 11 → x = -5 ∧ RFc I A (-5)) ∧ (I 1 11 < 16 → x = I 1 11 + 1 ∧ Fw [6, 33] [(0, 16), (1, 11)] I A ∧ A 0 16 = 0 ∧ A 1 11 = I 1 11 + 1 ∧ A 6 = up1 (I 6) (I 1 11).toNat a))) ∧ FRk A JA) (hh : (Ch [50, 51] [0, 1] A B ∧ Kp 49 73 JA JB ∧ RX B ∧ (¬ (0 ≤ a ∧ a < A 51 305) → y = -1 ∧ B 51 = A 51) ∧ ((0 ≤ a ∧ a < A 51 305) → (16 ≤ A 51 309 → y = -5 ∧ B 51 = A 51) ∧ (A 51 309 < 16 → y = A 51 309 + 1 ∧ B 51 = up1 (up1 (A 51) (288 + (A 51 309).toNat) a) 309 (A 51 309 + 1)))) ∧ RGQ9 y A B JA JB) : CPI B JB R S (v + 1) := by
  obtain ⟨hPH, ⟨-, hQF⟩, hOK, hST, hIM, hDR⟩ := id hP
  obtain ⟨h0, fr⟩ := h0
  obtain ⟨hh, qk⟩ := hh
  have g0 : Kp 0 49 I A ∧ Kp 0 49 J JA ∧ CX A ∧ Fw [6, 33, 48] [(0, 16), (1, 11)] I A ∧ (¬ (0 ≤ a ∧ a < I 1 6) → x = -1 ∧ RFc I A (-1)) ∧ ((0 ≤ a ∧ a < I 1 6) → (16 ≤ I 1 11 → x = -5 ∧ RFc I A (-5)) ∧ (I 1 11 < 16 → x = I 1 11 + 1 ∧ Fw [6, 33] [(0, 16), (1, 11)] I A ∧ A 0 16 = 0 ∧ A 1 11 = I 1 11 + 1 ∧ A 6 = up1 (I 6) (I 1 11).toNat a)) := h0
  have h1 : Ch [50, 51] [0, 1] A B ∧ Kp 49 73 JA JB ∧ RX B ∧ (¬ (0 ≤ a ∧ a < A 51 305) → y = -1 ∧ B 51 = A 51) ∧ ((0 ≤ a ∧ a < A 51 305) → (16 ≤ A 51 309 → y = -5 ∧ B 51 = A 51) ∧ (A 51 309 < 16 → y = A 51 309 + 1 ∧ B 51 = up1 (up1 (A 51) (288 + (A 51 309).toNat) a) 309 (A 51 309 + 1))) := hh
  have cp := CF_want hPH.1.1 hC g0 h1
  have cg := CG_want hPH.1.2 hC hQ g0 h1
  have ch := CH_want hPH.1 hPH.2 hC g0 h1
  have hph : CPH B R S := ⟨⟨cp.1, cg⟩, ch⟩
  clear cp cg ch g0 h1
  have zz : ∀ k, 49 ≤ k → k < 73 → A k = I k := fun k h1 _ => h0.1 k (by omega)
  have zj : ∀ k, 49 ≤ k → k < 73 → JA k = J k := fun k h1 _ => h0.2.1 k (by omega)
  have z49 := zz 49 (by decide) (by decide)
  have z50 := zz 50 (by decide) (by decide)
  have z51 := zz 51 (by decide) (by decide)
  have z52 := zz 52 (by decide) (by decide)
  have z53 := zz 53 (by decide) (by decide)
  have z61 := zz 61 (by decide) (by decide)
  have z72 := zz 72 (by decide) (by decide)
  have qa : QF A JA v := QF_kp hQF (congrFun z49 1) (congrFun z49 25) z51 z61 (zj 62 (by decide) (by decide)) (Int.le_refl _)
  have yc : ∀ k, k < 49 ∨ 73 ≤ k → B k = A k := Ch_kp hh.1 (by decide)
  have frB : FRk B JB := FRk_kp (a := 49) (b := 73) fr yc hh.2.1 (by decide)
  obtain ⟨⟨⟨q8, q15, q12, q5, q6, q7, q11⟩, tb, -⟩, ⟨⟨q9, q0⟩, -⟩⟩ := id hPH.1
  have x5 := XI_o hC.2.1.1
  have hfu := (RX_o hQ).2.2.2.2.2.2.2.2.2
  have ef : FU (A 51 304) = FU (I 1 5) := by rw [z51, ← q5]
  have e304 : A 51 304 = I 1 5 := by rw [z51, ← q5]
  have e305 : A 51 305 = I 1 6 := by rw [z51, ← q6]
  have e309 : A 51 309 = I 1 11 := by rw [z51, ← q11]
  have e310 : A 51 310 = I 1 9 := by rw [z51, ← q9]
  have e10 : A 49 10 = I 8 1 := (congrFun z49 10).trans q8.symm
  have hd := hh.2.2.2
  rw [e305, e309] at hd
  by_cases hv : 0 ≤ a ∧ a < I 1 6
  · have g := h0.2.2.2.2.2 hv
    have d := hd.2 hv
    by_cases hw : 16 ≤ I 1 11
    · have d := d.1 hw
      have b51 := d.2
      have rf := (g.1 hw).2
      have q := qk.1 (by have := d.1; omega)
      exact ⟨hph, ⟨frB, (QF_tk qa q.2.2.1 q.2.2.2 b51 (by omega))⟩, (OK8_k hOK (fun j _ => congrFun (b51.trans z51) j) ((hh.1.1 52 (by decide) (by decide)).trans z52) ((hh.1.1 53 (by decide) (by decide)).trans z53) (RX_o hQ).2.2.2.2.2.2.2.2.2.2), ⟨(SA8_r hST.1 rf.2.1 rf.2.2 q d.1 yc z50), (TL8_k hST.2 ((congrFun (yc 1 (by decide)) 8).trans (rf.1 1 8 (by decide) (by decide) (by decide))) ((congrFun (yc 1 (by decide)) 10).trans (rf.1 1 10 (by decide) (by decide) (by decide))) ((yc 5 (by decide)).trans (Fw_row rf.1 5 (by decide) (by decide) (by decide))) (fun j _ => congrFun (b51.trans z51) j))⟩, (IM8_k hIM hC rfl ((hh.1.1 52 (by decide) (by decide)).trans z52) (fun k h1 _ => (yc k (Or.inr h1)).trans (h0.1 k (by omega)))), (DR8_k hDR ((congrFun (yc 0 (by decide)) 13).trans (h0.2.2.2.1 0 13 (by decide) (by decide) (by decide))) ((congrFun (yc 0 (by decide)) 14).trans (h0.2.2.2.1 0 14 (by decide) (by decide) (by decide))) ((yc 47 (by decide)).trans (Fw_row h0.2.2.2.1 47 (by decide) (by decide) (by decide))) ((hh.1.2 39 (by decide)).trans (congrFun z49 39)) ((hh.1.2 40 (by decide)).trans (congrFun z49 40)) ((hh.1.1 72 (by decide) (by decide)).trans z72))⟩
    · obtain ⟨d1, db⟩ := d.2 (by omega)
      obtain ⟨g1, gw, g16, -, -⟩ := g.2 (by omega)
      have q := qk.2 (by omega)
      have bo : ∀ j, j < 288 ∨ 304 ≤ j → j ≠ 309 → B 51 j = I 51 j := fun j hj h9 => by rw [db, up1_n _ _ h9, up1_n _ _ (by omega), z51]
      exact ⟨hph, ⟨frB, (QF_tu qa q.2.2.1 q.2.2.2 (Int.le_refl _))⟩, (OK8_k hOK (fun j hj => bo j (by omega) (by omega)) ((hh.1.1 52 (by decide) (by decide)).trans z52) ((hh.1.1 53 (by decide) (by decide)).trans z53) (RX_o hQ).2.2.2.2.2.2.2.2.2.2), ⟨(SA8_a hST.1 g16 (Fw_row gw 48 (by decide) (by decide) (by decide)) q yc z50), (TL8_k hST.2 ((congrFun (yc 1 (by decide)) 8).trans (h0.2.2.2.1 1 8 (by decide) (by decide) (by decide))) ((congrFun (yc 1 (by decide)) 10).trans (h0.2.2.2.1 1 10 (by decide) (by decide) (by decide))) ((yc 5 (by decide)).trans (Fw_row h0.2.2.2.1 5 (by decide) (by decide) (by decide))) (fun j hj => bo j (by omega) (by omega)))⟩, (IM8_k hIM hC rfl ((hh.1.1 52 (by decide) (by decide)).trans z52) (fun k h1 _ => (yc k (Or.inr h1)).trans (h0.1 k (by omega)))), (DR8_k hDR ((congrFun (yc 0 (by decide)) 13).trans (h0.2.2.2.1 0 13 (by decide) (by decide) (by decide))) ((congrFun (yc 0 (by decide)) 14).trans (h0.2.2.2.1 0 14 (by decide) (by decide) (by decide))) ((yc 47 (by decide)).trans (Fw_row h0.2.2.2.1 47 (by decide) (by decide) (by decide))) ((hh.1.2 39 (by decide)).trans (congrFun z49 39)) ((hh.1.2 40 (by decide)).trans (congrFun z49 40)) ((hh.1.1 72 (by decide) (by decide)).trans z72))⟩
  · have g := h0.2.2.2.2.1 hv
    have d := hd.1 hv
    have b51 := d.2
    have rf := g.2
    have q := qk.1 (by have := d.1; omega)
    exact ⟨hph, ⟨frB, (QF_tk qa q.2.2.1 q.2.2.2 b51 (by omega))⟩, (OK8_k hOK (fun j _ => congrFun (b51.trans z51) j) ((hh.1.1 52 (by decide) (by decide)).trans z52) ((hh.1.1 53 (by decide) (by decide)).trans z53) (RX_o hQ).2.2.2.2.2.2.2.2.2.2), ⟨(SA8_r hST.1 rf.2.1 rf.2.2 q d.1 yc z50), (TL8_k hST.2 ((congrFun (yc 1 (by decide)) 8).trans (rf.1 1 8 (by decide) (by decide) (by decide))) ((congrFun (yc 1 (by decide)) 10).trans (rf.1 1 10 (by decide) (by decide) (by decide))) ((yc 5 (by decide)).trans (Fw_row rf.1 5 (by decide) (by decide) (by decide))) (fun j _ => congrFun (b51.trans z51) j))⟩, (IM8_k hIM hC rfl ((hh.1.1 52 (by decide) (by decide)).trans z52) (fun k h1 _ => (yc k (Or.inr h1)).trans (h0.1 k (by omega)))), (DR8_k hDR ((congrFun (yc 0 (by decide)) 13).trans (h0.2.2.2.1 0 13 (by decide) (by decide) (by decide))) ((congrFun (yc 0 (by decide)) 14).trans (h0.2.2.2.1 0 14 (by decide) (by decide) (by decide))) ((yc 47 (by decide)).trans (Fw_row h0.2.2.2.1 47 (by decide) (by decide) (by decide))) ((hh.1.2 39 (by decide)).trans (congrFun z49 39)) ((hh.1.2 40 (by decide)).trans (congrFun z49 40)) ((hh.1.1 72 (by decide) (by decide)).trans z72))⟩
