set_option maxHeartbeats 1000000 in
theorem CI8_log {I A B J JA JB : aI1} {R : aR1} {S : aS1} {a x y v : Int} (hP : CPI I J R S v) (hC : CI I R S) (hQ : RX I) (h0 : (Kp 0 49 I A ∧ Kp 0 49 J JA ∧ CX A ∧ Fw [] [] I A ∧ x = if a = -1 then I 1 8 else if 0 ≤ a ∧ a < I 1 10 then I 5 a.toNat else -1) ∧ FRk A JA) (hh : A = B ∧ JA = JB ∧ y = if a = -1 then A 51 307 else if 0 ≤ a ∧ a < A 51 308 then A 51 (264 + a).toNat else -1) : CPI B JB R S (v + 1) := by
  obtain ⟨hPH, ⟨-, hQF⟩, hOK, hST, hIM, hDR⟩ := id hP
  obtain ⟨h0, fr⟩ := h0
  obtain ⟨rfl, rfl, hh⟩ := hh
  have g0 : Kp 0 49 I A ∧ Kp 0 49 J JA ∧ CX A ∧ Fw [] [] I A ∧ True := ⟨h0.1, h0.2.1, h0.2.2.1, h0.2.2.2.1, trivial⟩
  have h1 : A = A ∧ JA = JA ∧ True := ⟨rfl, rfl, trivial⟩
  have cp := CF_log hPH.1.1 hC g0 h1
  have cg := CG_log hPH.1.2 hC hQ g0 h1
  have ch := CH_log hPH.1 hPH.2 hC g0 h1
  have hph : CPH A R S := ⟨⟨cp, cg⟩, ch⟩
  clear cp cg ch g0 h1
  have zz : ∀ k, 49 ≤ k → k < 73 → A k = I k := fun k h1 _ => h0.1 k (by omega)
  have zj : ∀ k, 49 ≤ k → k < 73 → JA k = J k := fun k h1 _ => h0.2.1 k (by omega)
  have z49 := zz 49 (by decide) (by decide)
  have z50 := zz 50 (by decide) (by decide)
  have z51 := zz 51 (by decide) (by decide)
  have z52 := zz 52 (by decide) (by decide)
  have z53 := zz 53 (by decide) (by decide)
  have z61 := zz 61 (by decide) (by decide)
  have z72 := zz 72 (by decide) (by decide)
  have qa : QF A JA v := QF_kp hQF (congrFun z49 1) (congrFun z49 25) z51 z61 (zj 62 (by decide) (by decide)) (Int.le_refl _)
  exact ⟨hph, ⟨fr, (QF_mn qa (by omega))⟩, (OK8_k hOK (fun j _ => congrFun z51 j) z52 z53 (RX_o hQ).2.2.2.2.2.2.2.2.2.2), ⟨(SA8_k hST.1 (h0.2.2.2.1 0 16 (by decide) (by decide) (by decide)) (Fw_row h0.2.2.2.1 48 (by decide) (by decide) (by decide)) (congrFun z49 0) z50), (TL8_k hST.2 (h0.2.2.2.1 1 8 (by decide) (by decide) (by decide)) (h0.2.2.2.1 1 10 (by decide) (by decide) (by decide)) (Fw_row h0.2.2.2.1 5 (by decide) (by decide) (by decide)) (fun j _ => congrFun z51 j))⟩, (IM8_k hIM hC rfl z52 (fun k h1 _ => h0.1 k (by omega))), (DR8_k hDR (h0.2.2.2.1 0 13 (by decide) (by decide) (by decide)) (h0.2.2.2.1 0 14 (by decide) (by decide) (by decide)) (Fw_row h0.2.2.2.1 47 (by decide) (by decide) (by decide)) (congrFun z49 39) (congrFun z49 40) z72)⟩
set_option maxHeartbeats 1000000 in
theorem CI8_burnt {I A B J JA JB : aI1} {R : aR1} {S : aS1} {x y v : Int} (hP : CPI I J R S v) (hC : CI I R S) (hQ : RX I) (h0 : (Kp 0 49 I A ∧ Kp 0 49 J JA ∧ CX A ∧ Fw [18, 19, 20, 21, 22, 23, 24, 25, 26, 27, 28, 29, 30] [] I A ∧ x = oilS (I 2) (I 1 8).toNat (I 1 5).toNat) ∧ FRk A JA) (hh : A = B ∧ JA = JB ∧ y = oilF (A 51) (A 51 307) (A 51 304).toNat) : CPI B JB R S (v + 1) := by
  obtain ⟨hPH, ⟨-, hQF⟩, hOK, hST, hIM, hDR⟩ := id hP
  obtain ⟨h0, fr⟩ := h0
  obtain ⟨rfl, rfl, hh⟩ := hh
  have g0 : Kp 0 49 I A ∧ Kp 0 49 J JA ∧ CX A ∧ Fw [18, 19, 20, 21, 22, 23, 24, 25, 26, 27, 28, 29, 30, 31, 32, 33, 34, 35, 36] [] I A ∧ True := ⟨h0.1, h0.2.1, h0.2.2.1, (Fw_wd h0.2.2.2.1 (by decide) (by decide)), trivial⟩
  have h1 : A = A ∧ JA = JA ∧ True := ⟨rfl, rfl, trivial⟩
  have cp := CF_burnt hPH.1.1 hC g0 h1
  have cg := CG_burnt hPH.1.2 hC hQ g0 h1
  have ch := CH_burnt hPH.1 hPH.2 hC g0 h1
  have hph : CPH A R S := ⟨⟨cp, cg⟩, ch⟩
  clear cp cg ch g0 h1
  have zz : ∀ k, 49 ≤ k → k < 73 → A k = I k := fun k h1 _ => h0.1 k (by omega)
  have zj : ∀ k, 49 ≤ k → k < 73 → JA k = J k := fun k h1 _ => h0.2.1 k (by omega)
  have z49 := zz 49 (by decide) (by decide)
  have z50 := zz 50 (by decide) (by decide)
  have z51 := zz 51 (by decide) (by decide)
  have z52 := zz 52 (by decide) (by decide)
  have z53 := zz 53 (by decide) (by decide)
  have z61 := zz 61 (by decide) (by decide)
  have z72 := zz 72 (by decide) (by decide)
  have qa : QF A JA v := QF_kp hQF (congrFun z49 1) (congrFun z49 25) z51 z61 (zj 62 (by decide) (by decide)) (Int.le_refl _)
  exact ⟨hph, ⟨fr, (QF_mn qa (by omega))⟩, (OK8_k hOK (fun j _ => congrFun z51 j) z52 z53 (RX_o hQ).2.2.2.2.2.2.2.2.2.2), ⟨(SA8_k hST.1 (h0.2.2.2.1 0 16 (by decide) (by decide) (by decide)) (Fw_row h0.2.2.2.1 48 (by decide) (by decide) (by decide)) (congrFun z49 0) z50), (TL8_k hST.2 (h0.2.2.2.1 1 8 (by decide) (by decide) (by decide)) (h0.2.2.2.1 1 10 (by decide) (by decide) (by decide)) (Fw_row h0.2.2.2.1 5 (by decide) (by decide) (by decide)) (fun j _ => congrFun z51 j))⟩, (IM8_k hIM hC rfl z52 (fun k h1 _ => h0.1 k (by omega))), (DR8_k hDR (h0.2.2.2.1 0 13 (by decide) (by decide) (by decide)) (h0.2.2.2.1 0 14 (by decide) (by decide) (by decide)) (Fw_row h0.2.2.2.1 47 (by decide) (by decide) (by decide)) (congrFun z49 39) (congrFun z49 40) z72)⟩
set_option maxHeartbeats 1000000 in
theorem CI8_judge {I A B J JA JB : aI1} {R : aR1} {S : aS1} {a x y v : Int} (hP : CPI I J R S v) (hC : CI I R S) (hQ : RX I) (h0 : (Kp 0 49 I A ∧ Kp 0 49 J JA ∧ CX A ∧ Fw [18, 19, 20, 21, 22, 23, 24, 25, 26, 27, 28, 29, 30] [] I A ∧ ((0 ≤ a ∧ a ≤ 3) → ∃ o L T, KT a I o L T ∧ JG (fun s t => 0 ≤ s ∧ s ≤ FU (I 1 5) ∧ 0 ≤ t ∧ t ≤ FU (I 1 5) ∧ ¬ I 3 t.toNat = -1 ∧ NX (bC a o L T) (I 3) (I 1 7) s (FU (I 1 5) + 1) (I 3 t.toNat) = t) (I 46) (I 0 12) x) ∧ (¬ (0 ≤ a ∧ a ≤ 3) → x = -1)) ∧ FRk A JA) (hh : Ch [61] [25] A B ∧ Kp 49 73 JA JB ∧ RX B ∧ B 51 = A 51 ∧ QF B JB v ∧ ((0 ≤ a ∧ a ≤ 3) → ∃ L M, zLV (A 51) (A 51 306) (FU (A 51 304) + 1) (A 51 305) (-1) L ∧ MRc (A 51) (A 51 306) (A 51 304) (A 51 305) M ∧ JG (JOk (fun s => bR a s (A 51 304) (A 51 305) (A 51) L M) (A 51) (A 51 306) (A 51 304)) (A 67) (A 49 33) y) ∧ (¬ (0 ≤ a ∧ a ≤ 3) → y = -1)) : CPI B JB R S (v + 1) := by
  obtain ⟨hPH, ⟨-, hQF⟩, hOK, hST, hIM, hDR⟩ := id hP
  obtain ⟨h0, fr⟩ := h0
  have g0 : Kp 0 49 I A ∧ Kp 0 49 J JA ∧ CX A ∧ Fw [18, 19, 20, 21, 22, 23, 24, 25, 26, 27, 28, 29, 30, 31, 32, 33, 34, 35, 36] [] I A ∧ True := ⟨h0.1, h0.2.1, h0.2.2.1, (Fw_wd h0.2.2.2.1 (by decide) (by decide)), trivial⟩
  have h1 : Ch [61] [25] A B ∧ Kp 49 73 JA JB ∧ RX B ∧ True := ⟨hh.1, hh.2.1, hh.2.2.1, trivial⟩
  have cp := CF_judge hPH.1.1 hC g0 h1
  have cg := CG_judge hPH.1.2 hC hQ g0 h1
  have ch := CH_judge hPH.1 hPH.2 hC g0 h1
  have hph : CPH B R S := ⟨⟨cp, cg⟩, ch⟩
  clear cp cg ch g0 h1
  have zz : ∀ k, 49 ≤ k → k < 73 → A k = I k := fun k h1 _ => h0.1 k (by omega)
  have zj : ∀ k, 49 ≤ k → k < 73 → JA k = J k := fun k h1 _ => h0.2.1 k (by omega)
  have z49 := zz 49 (by decide) (by decide)
  have z50 := zz 50 (by decide) (by decide)
  have z51 := zz 51 (by decide) (by decide)
  have z52 := zz 52 (by decide) (by decide)
  have z53 := zz 53 (by decide) (by decide)
  have z61 := zz 61 (by decide) (by decide)
  have z72 := zz 72 (by decide) (by decide)
  have qa : QF A JA v := QF_kp hQF (congrFun z49 1) (congrFun z49 25) z51 z61 (zj 62 (by decide) (by decide)) (Int.le_refl _)
  have yc : ∀ k, k < 49 ∨ 73 ≤ k → B k = A k := Ch_kp hh.1 (by decide)
  have frB : FRk B JB := FRk_kp (a := 49) (b := 73) fr yc hh.2.1 (by decide)
  have b51 : B 51 = A 51 := (hh.1.1 51 (by decide) (by decide))
  have y51 : B 51 = I 51 := b51.trans z51
  have hqB : QF B JB v := hh.2.2.2.2.1
  exact ⟨hph, ⟨frB, (QF_mn hqB (by omega))⟩, (OK8_k hOK (fun j _ => congrFun y51 j) ((hh.1.1 52 (by decide) (by decide)).trans z52) ((hh.1.1 53 (by decide) (by decide)).trans z53) (RX_o hQ).2.2.2.2.2.2.2.2.2.2), ⟨(SA8_k hST.1 ((congrFun (yc 0 (by decide)) 16).trans (h0.2.2.2.1 0 16 (by decide) (by decide) (by decide))) ((yc 48 (by decide)).trans (Fw_row h0.2.2.2.1 48 (by decide) (by decide) (by decide))) ((hh.1.2 0 (by decide)).trans (congrFun z49 0)) ((hh.1.1 50 (by decide) (by decide)).trans z50)), (TL8_k hST.2 ((congrFun (yc 1 (by decide)) 8).trans (h0.2.2.2.1 1 8 (by decide) (by decide) (by decide))) ((congrFun (yc 1 (by decide)) 10).trans (h0.2.2.2.1 1 10 (by decide) (by decide) (by decide))) ((yc 5 (by decide)).trans (Fw_row h0.2.2.2.1 5 (by decide) (by decide) (by decide))) (fun j _ => congrFun y51 j))⟩, (IM8_k hIM hC rfl ((hh.1.1 52 (by decide) (by decide)).trans z52) (fun k h1 _ => (yc k (Or.inr h1)).trans (h0.1 k (by omega)))), (DR8_k hDR ((congrFun (yc 0 (by decide)) 13).trans (h0.2.2.2.1 0 13 (by decide) (by decide) (by decide))) ((congrFun (yc 0 (by decide)) 14).trans (h0.2.2.2.1 0 14 (by decide) (by decide) (by decide))) ((yc 47 (by decide)).trans (Fw_row h0.2.2.2.1 47 (by decide) (by decide) (by decide))) ((hh.1.2 39 (by decide)).trans (congrFun z49 39)) ((hh.1.2 40 (by decide)).trans (congrFun z49 40)) ((hh.1.1 72 (by decide) (by decide)).trans z72))⟩
set_option maxHeartbeats 1000000 in
theorem CI8_rows {I A B J JA JB : aI1} {R : aR1} {S : aS1} {a b c x y v : Int} (hP : CPI I J R S v) (hC : CI I R S) (hQ : RX I) (h0 : (Kp 0 49 I A ∧ Kp 0 49 J JA ∧ CX A ∧ Fw [18, 19, 20, 21, 22, 23, 24, 25, 26, 27, 28, 29, 30, 31, 32] [] I A ∧ ((0 ≤ a ∧ a ≤ 8 ∧ 0 ≤ b ∧ b ≤ FU (I 1 5) ∧ 0 ≤ c ∧ c ≤ 3) → ∃ o L T, KT c I o L T ∧ x = RW (I 3) (nxD c I o L T) (-1) (-1) (I 1 6).toNat (FU (I 1 5) + 1).toNat a.toNat b.toNat) ∧ (¬ (0 ≤ a ∧ a ≤ 8 ∧ 0 ≤ b ∧ b ≤ FU (I 1 5) ∧ 0 ≤ c ∧ c ≤ 3) → x = -1)) ∧ FRk A JA) (hh : Ch [61] [25] A B ∧ Kp 49 73 JA JB ∧ RX B ∧ B 51 = A 51 ∧ QF B JB v ∧ ((0 ≤ a ∧ a ≤ 8 ∧ 0 ≤ b ∧ b ≤ FU (A 51 304) ∧ 0 ≤ c ∧ c ≤ 3) → ∃ L M, (zLV (A 51) (A 51 306) (FU (A 51 304) + 1) (A 51 305) (-1) L ∧ MRc (A 51) (A 51 306) (A 51 304) (A 51 305) M) ∧ y = RW (A 51) (nxRf c A L M) (-1) 0 (A 51 305).toNat (FU (A 51 304) + 1).toNat a.toNat b.toNat) ∧ (¬ (0 ≤ a ∧ a ≤ 8 ∧ 0 ≤ b ∧ b ≤ FU (A 51 304) ∧ 0 ≤ c ∧ c ≤ 3) → y = -1)) : CPI B JB R S (v + 1) := by
  obtain ⟨hPH, ⟨-, hQF⟩, hOK, hST, hIM, hDR⟩ := id hP
  obtain ⟨h0, fr⟩ := h0
  have g0 : Kp 0 49 I A ∧ Kp 0 49 J JA ∧ CX A ∧ Fw [18, 19, 20, 21, 22, 23, 24, 25, 26, 27, 28, 29, 30, 31, 32, 33, 34, 35, 36] [] I A ∧ True := ⟨h0.1, h0.2.1, h0.2.2.1, (Fw_wd h0.2.2.2.1 (by decide) (by decide)), trivial⟩
  have h1 : Ch [61] [25] A B ∧ Kp 49 73 JA JB ∧ RX B ∧ True := ⟨hh.1, hh.2.1, hh.2.2.1, trivial⟩
  have cp := CF_rows hPH.1.1 hC g0 h1
  have cg := CG_rows hPH.1.2 hC hQ g0 h1
  have ch := CH_rows hPH.1 hPH.2 hC g0 h1
  have hph : CPH B R S := ⟨⟨cp, cg⟩, ch⟩
  clear cp cg ch g0 h1
  have zz : ∀ k, 49 ≤ k → k < 73 → A k = I k := fun k h1 _ => h0.1 k (by omega)
  have zj : ∀ k, 49 ≤ k → k < 73 → JA k = J k := fun k h1 _ => h0.2.1 k (by omega)
  have z49 := zz 49 (by decide) (by decide)
  have z50 := zz 50 (by decide) (by decide)
  have z51 := zz 51 (by decide) (by decide)
  have z52 := zz 52 (by decide) (by decide)
  have z53 := zz 53 (by decide) (by decide)
  have z61 := zz 61 (by decide) (by decide)
  have z72 := zz 72 (by decide) (by decide)
  have qa : QF A JA v := QF_kp hQF (congrFun z49 1) (congrFun z49 25) z51 z61 (zj 62 (by decide) (by decide)) (Int.le_refl _)
  have yc : ∀ k, k < 49 ∨ 73 ≤ k → B k = A k := Ch_kp hh.1 (by decide)
  have frB : FRk B JB := FRk_kp (a := 49) (b := 73) fr yc hh.2.1 (by decide)
  have b51 : B 51 = A 51 := (hh.1.1 51 (by decide) (by decide))
  have y51 : B 51 = I 51 := b51.trans z51
  have hqB : QF B JB v := hh.2.2.2.2.1
  exact ⟨hph, ⟨frB, (QF_mn hqB (by omega))⟩, (OK8_k hOK (fun j _ => congrFun y51 j) ((hh.1.1 52 (by decide) (by decide)).trans z52) ((hh.1.1 53 (by decide) (by decide)).trans z53) (RX_o hQ).2.2.2.2.2.2.2.2.2.2), ⟨(SA8_k hST.1 ((congrFun (yc 0 (by decide)) 16).trans (h0.2.2.2.1 0 16 (by decide) (by decide) (by decide))) ((yc 48 (by decide)).trans (Fw_row h0.2.2.2.1 48 (by decide) (by decide) (by decide))) ((hh.1.2 0 (by decide)).trans (congrFun z49 0)) ((hh.1.1 50 (by decide) (by decide)).trans z50)), (TL8_k hST.2 ((congrFun (yc 1 (by decide)) 8).trans (h0.2.2.2.1 1 8 (by decide) (by decide) (by decide))) ((congrFun (yc 1 (by decide)) 10).trans (h0.2.2.2.1 1 10 (by decide) (by decide) (by decide))) ((yc 5 (by decide)).trans (Fw_row h0.2.2.2.1 5 (by decide) (by decide) (by decide))) (fun j _ => congrFun y51 j))⟩, (IM8_k hIM hC rfl ((hh.1.1 52 (by decide) (by decide)).trans z52) (fun k h1 _ => (yc k (Or.inr h1)).trans (h0.1 k (by omega)))), (DR8_k hDR ((congrFun (yc 0 (by decide)) 13).trans (h0.2.2.2.1 0 13 (by decide) (by decide) (by decide))) ((congrFun (yc 0 (by decide)) 14).trans (h0.2.2.2.1 0 14 (by decide) (by decide) (by decide))) ((yc 47 (by decide)).trans (Fw_row h0.2.2.2.1 47 (by decide) (by decide) (by decide))) ((hh.1.2 39 (by decide)).trans (congrFun z49 39)) ((hh.1.2 40 (by decide)).trans (congrFun z49 40)) ((hh.1.1 72 (by decide) (by decide)).trans z72))⟩
set_option maxHeartbeats 1000000 in
theorem CI8_could {I A B J JA JB : aI1} {R : aR1} {S : aS1} {a b c e f x y v : Int} (hP : CPI I J R S v) (hC : CI I R S) (hQ : RX I) (h0 : (Kp 0 49 I A ∧ Kp 0 49 J JA ∧ CX A ∧ Fw [18, 19, 20, 21, 22, 23, 24, 25, 26, 27, 28, 29, 30, 31, 32] [] I A ∧ ((0 ≤ a ∧ a ≤ 8 ∧ 0 ≤ b ∧ b ≤ FU (I 1 5) ∧ 0 ≤ c ∧ c ≤ 3 ∧ 0 ≤ e ∧ e < a ∧ 0 ≤ f ∧ f < I 1 6) → ∃ o L T, KT c I o L T ∧ x = RW (I 3) (nxD c I o L T) e f (I 1 6).toNat (FU (I 1 5) + 1).toNat a.toNat b.toNat) ∧ (¬ (0 ≤ a ∧ a ≤ 8 ∧ 0 ≤ b ∧ b ≤ FU (I 1 5) ∧ 0 ≤ c ∧ c ≤ 3 ∧ 0 ≤ e ∧ e < a ∧ 0 ≤ f ∧ f < I 1 6) → x = -1)) ∧ FRk A JA) (hh : Ch [61] [25] A B ∧ Kp 49 73 JA JB ∧ RX B ∧ B 51 = A 51 ∧ QF B JB v ∧ ((0 ≤ a ∧ a ≤ 8 ∧ 0 ≤ b ∧ b ≤ FU (A 51 304) ∧ 0 ≤ c ∧ c ≤ 3 ∧ 0 ≤ e ∧ e < a ∧ 0 ≤ f ∧ f < A 51 305) → ∃ L M, (zLV (A 51) (A 51 306) (FU (A 51 304) + 1) (A 51 305) (-1) L ∧ MRc (A 51) (A 51 306) (A 51 304) (A 51 305) M) ∧ y = RW (A 51) (nxRf c A L M) e f (A 51 305).toNat (FU (A 51 304) + 1).toNat a.toNat b.toNat) ∧ (¬ (0 ≤ a ∧ a ≤ 8 ∧ 0 ≤ b ∧ b ≤ FU (A 51 304) ∧ 0 ≤ c ∧ c ≤ 3 ∧ 0 ≤ e ∧ e < a ∧ 0 ≤ f ∧ f < A 51 305) → y = -1)) : CPI B JB R S (v + 1) := by
  obtain ⟨hPH, ⟨-, hQF⟩, hOK, hST, hIM, hDR⟩ := id hP
  obtain ⟨h0, fr⟩ := h0
  have g0 : Kp 0 49 I A ∧ Kp 0 49 J JA ∧ CX A ∧ Fw [18, 19, 20, 21, 22, 23, 24, 25, 26, 27, 28, 29, 30, 31, 32, 33, 34, 35, 36] [] I A ∧ True := ⟨h0.1, h0.2.1, h0.2.2.1, (Fw_wd h0.2.2.2.1 (by decide) (by decide)), trivial⟩
  have h1 : Ch [61] [25] A B ∧ Kp 49 73 JA JB ∧ RX B ∧ True := ⟨hh.1, hh.2.1, hh.2.2.1, trivial⟩
  have cp := CF_could hPH.1.1 hC g0 h1
  have cg := CG_could hPH.1.2 hC hQ g0 h1
  have ch := CH_could hPH.1 hPH.2 hC g0 h1
  have hph : CPH B R S := ⟨⟨cp, cg⟩, ch⟩
  clear cp cg ch g0 h1
  have zz : ∀ k, 49 ≤ k → k < 73 → A k = I k := fun k h1 _ => h0.1 k (by omega)
  have zj : ∀ k, 49 ≤ k → k < 73 → JA k = J k := fun k h1 _ => h0.2.1 k (by omega)
  have z49 := zz 49 (by decide) (by decide)
  have z50 := zz 50 (by decide) (by decide)
  have z51 := zz 51 (by decide) (by decide)
  have z52 := zz 52 (by decide) (by decide)
  have z53 := zz 53 (by decide) (by decide)
  have z61 := zz 61 (by decide) (by decide)
  have z72 := zz 72 (by decide) (by decide)
  have qa : QF A JA v := QF_kp hQF (congrFun z49 1) (congrFun z49 25) z51 z61 (zj 62 (by decide) (by decide)) (Int.le_refl _)
  have yc : ∀ k, k < 49 ∨ 73 ≤ k → B k = A k := Ch_kp hh.1 (by decide)
  have frB : FRk B JB := FRk_kp (a := 49) (b := 73) fr yc hh.2.1 (by decide)
  have b51 : B 51 = A 51 := (hh.1.1 51 (by decide) (by decide))
  have y51 : B 51 = I 51 := b51.trans z51
  have hqB : QF B JB v := hh.2.2.2.2.1
  exact ⟨hph, ⟨frB, (QF_mn hqB (by omega))⟩, (OK8_k hOK (fun j _ => congrFun y51 j) ((hh.1.1 52 (by decide) (by decide)).trans z52) ((hh.1.1 53 (by decide) (by decide)).trans z53) (RX_o hQ).2.2.2.2.2.2.2.2.2.2), ⟨(SA8_k hST.1 ((congrFun (yc 0 (by decide)) 16).trans (h0.2.2.2.1 0 16 (by decide) (by decide) (by decide))) ((yc 48 (by decide)).trans (Fw_row h0.2.2.2.1 48 (by decide) (by decide) (by decide))) ((hh.1.2 0 (by decide)).trans (congrFun z49 0)) ((hh.1.1 50 (by decide) (by decide)).trans z50)), (TL8_k hST.2 ((congrFun (yc 1 (by decide)) 8).trans (h0.2.2.2.1 1 8 (by decide) (by decide) (by decide))) ((congrFun (yc 1 (by decide)) 10).trans (h0.2.2.2.1 1 10 (by decide) (by decide) (by decide))) ((yc 5 (by decide)).trans (Fw_row h0.2.2.2.1 5 (by decide) (by decide) (by decide))) (fun j _ => congrFun y51 j))⟩, (IM8_k hIM hC rfl ((hh.1.1 52 (by decide) (by decide)).trans z52) (fun k h1 _ => (yc k (Or.inr h1)).trans (h0.1 k (by omega)))), (DR8_k hDR ((congrFun (yc 0 (by decide)) 13).trans (h0.2.2.2.1 0 13 (by decide) (by decide) (by decide))) ((congrFun (yc 0 (by decide)) 14).trans (h0.2.2.2.1 0 14 (by decide) (by decide) (by decide))) ((yc 47 (by decide)).trans (Fw_row h0.2.2.2.1 47 (by decide) (by decide) (by decide))) ((hh.1.2 39 (by decide)).trans (congrFun z49 39)) ((hh.1.2 40 (by decide)).trans (congrFun z49 40)) ((hh.1.1 72 (by decide) (by decide)).trans z72))⟩
set_option maxHeartbeats 1000000 in
theorem CI8_maybe {I A B J JA JB : aI1} {R : aR1} {S : aS1} {a b x y v : Int} (hP : CPI I J R S v) (hC : CI I R S) (hQ : RX I) (h0 : (Kp 0 49 I A ∧ Kp 0 49 J JA ∧ CX A ∧ Fw [] [] I A ∧ ((0 ≤ a ∧ a ≤ FU (I 1 5) ∧ 0 ≤ b ∧ b ≤ 8) → x = fW (mbF (I 3) (I 1 7) a (FU (I 1 5) + 1) b) 0 (FU (I 1 5) + 1).toNat) ∧ (¬ (0 ≤ a ∧ a ≤ FU (I 1 5) ∧ 0 ≤ b ∧ b ≤ 8) → x = -1)) ∧ FRk A JA) (hh : (Ch [63] [] A B ∧ Kp 49 73 JA JB ∧ RX B ∧ ((0 ≤ a ∧ a ≤ FU (A 51 304) ∧ 0 ≤ b ∧ b ≤ 8) → y = fW (mbF (A 51) (A 51 306) a (FU (A 51 304) + 1) b) 0 (FU (A 51 304) + 1).toNat) ∧ (¬ (0 ≤ a ∧ a ≤ FU (A 51 304) ∧ 0 ≤ b ∧ b ≤ 8) → y = -1)) ∧ QK9 A B JA JB) : CPI B JB R S (v + 1) := by
  obtain ⟨hPH, ⟨-, hQF⟩, hOK, hST, hIM, hDR⟩ := id hP
  obtain ⟨h0, fr⟩ := h0
  obtain ⟨hh, qk⟩ := hh
  have g0 : Kp 0 49 I A ∧ Kp 0 49 J JA ∧ CX A ∧ Fw [] [] I A ∧ True := ⟨h0.1, h0.2.1, h0.2.2.1, h0.2.2.2.1, trivial⟩
  have h1 : Ch [63] [] A B ∧ Kp 49 73 JA JB ∧ RX B ∧ True := ⟨hh.1, hh.2.1, hh.2.2.1, trivial⟩
  have cp := CF_maybe hPH.1.1 hC g0 h1
  have cg := CG_maybe hPH.1.2 hC hQ g0 h1
  have ch := CH_maybe hPH.1 hPH.2 hC g0 h1
  have hph : CPH B R S := ⟨⟨cp, cg⟩, ch⟩
  clear cp cg ch g0 h1
  have zz : ∀ k, 49 ≤ k → k < 73 → A k = I k := fun k h1 _ => h0.1 k (by omega)
  have zj : ∀ k, 49 ≤ k → k < 73 → JA k = J k := fun k h1 _ => h0.2.1 k (by omega)
  have z49 := zz 49 (by decide) (by decide)
  have z50 := zz 50 (by decide) (by decide)
  have z51 := zz 51 (by decide) (by decide)
  have z52 := zz 52 (by decide) (by decide)
  have z53 := zz 53 (by decide) (by decide)
  have z61 := zz 61 (by decide) (by decide)
  have z72 := zz 72 (by decide) (by decide)
  have qa : QF A JA v := QF_kp hQF (congrFun z49 1) (congrFun z49 25) z51 z61 (zj 62 (by decide) (by decide)) (Int.le_refl _)
  have yc : ∀ k, k < 49 ∨ 73 ≤ k → B k = A k := Ch_kp hh.1 (by decide)
  have frB : FRk B JB := FRk_kp (a := 49) (b := 73) fr yc hh.2.1 (by decide)
  have b51 : B 51 = A 51 := (hh.1.1 51 (by decide) (by decide))
  have y51 : B 51 = I 51 := b51.trans z51
  exact ⟨hph, ⟨frB, (QF_tk qa qk.1.2.2.1 qk.2 b51 (by omega))⟩, (OK8_k hOK (fun j _ => congrFun y51 j) ((hh.1.1 52 (by decide) (by decide)).trans z52) ((hh.1.1 53 (by decide) (by decide)).trans z53) (RX_o hQ).2.2.2.2.2.2.2.2.2.2), ⟨(SA8_k hST.1 ((congrFun (yc 0 (by decide)) 16).trans (h0.2.2.2.1 0 16 (by decide) (by decide) (by decide))) ((yc 48 (by decide)).trans (Fw_row h0.2.2.2.1 48 (by decide) (by decide) (by decide))) ((hh.1.2 0 (by decide)).trans (congrFun z49 0)) ((hh.1.1 50 (by decide) (by decide)).trans z50)), (TL8_k hST.2 ((congrFun (yc 1 (by decide)) 8).trans (h0.2.2.2.1 1 8 (by decide) (by decide) (by decide))) ((congrFun (yc 1 (by decide)) 10).trans (h0.2.2.2.1 1 10 (by decide) (by decide) (by decide))) ((yc 5 (by decide)).trans (Fw_row h0.2.2.2.1 5 (by decide) (by decide) (by decide))) (fun j _ => congrFun y51 j))⟩, (IM8_k hIM hC rfl ((hh.1.1 52 (by decide) (by decide)).trans z52) (fun k h1 _ => (yc k (Or.inr h1)).trans (h0.1 k (by omega)))), (DR8_k hDR ((congrFun (yc 0 (by decide)) 13).trans (h0.2.2.2.1 0 13 (by decide) (by decide) (by decide))) ((congrFun (yc 0 (by decide)) 14).trans (h0.2.2.2.1 0 14 (by decide) (by decide) (by decide))) ((yc 47 (by decide)).trans (Fw_row h0.2.2.2.1 47 (by decide) (by decide) (by decide))) ((hh.1.2 39 (by decide)).trans (congrFun z49 39)) ((hh.1.2 40 (by decide)).trans (congrFun z49 40)) ((hh.1.1 72 (by decide) (by decide)).trans z72))⟩
set_option maxHeartbeats 1000000 in
theorem CI8_safe {I A B J JA JB : aI1} {R : aR1} {S : aS1} {x y v : Int} (hP : CPI I J R S v) (hC : CI I R S) (hQ : RX I) (h0 : (Kp 0 49 I A ∧ Kp 0 49 J JA ∧ CX A ∧ Fw [18, 19, 20, 21, 22, 23, 24, 25, 26, 27, 28, 29, 30] [] I A ∧ SFE (I 3) (I 1 7) (FU (I 1 5) + 1) x) ∧ FRk A JA) (hh : (Ch [63] [] A B ∧ Kp 49 73 JA JB ∧ RX B ∧ SFE (A 51) (A 51 306) (FU (A 51 304) + 1) y) ∧ QK9 A B JA JB) : CPI B JB R S (v + 1) := by
  obtain ⟨hPH, ⟨-, hQF⟩, hOK, hST, hIM, hDR⟩ := id hP
  obtain ⟨h0, fr⟩ := h0
  obtain ⟨hh, qk⟩ := hh
  have g0 : Kp 0 49 I A ∧ Kp 0 49 J JA ∧ CX A ∧ Fw [18, 19, 20, 21, 22, 23, 24, 25, 26, 27, 28, 29, 30, 31, 32, 33, 34, 35, 36] [] I A ∧ True := ⟨h0.1, h0.2.1, h0.2.2.1, (Fw_wd h0.2.2.2.1 (by decide) (by decide)), trivial⟩
  have h1 : Ch [63] [] A B ∧ Kp 49 73 JA JB ∧ RX B ∧ True := ⟨hh.1, hh.2.1, hh.2.2.1, trivial⟩
  have cp := CF_safe hPH.1.1 hC g0 h1
  have cg := CG_safe hPH.1.2 hC hQ g0 h1
  have ch := CH_safe hPH.1 hPH.2 hC g0 h1
  have hph : CPH B R S := ⟨⟨cp, cg⟩, ch⟩
  clear cp cg ch g0 h1
  have zz : ∀ k, 49 ≤ k → k < 73 → A k = I k := fun k h1 _ => h0.1 k (by omega)
  have zj : ∀ k, 49 ≤ k → k < 73 → JA k = J k := fun k h1 _ => h0.2.1 k (by omega)
  have z49 := zz 49 (by decide) (by decide)
  have z50 := zz 50 (by decide) (by decide)
  have z51 := zz 51 (by decide) (by decide)
  have z52 := zz 52 (by decide) (by decide)
  have z53 := zz 53 (by decide) (by decide)
  have z61 := zz 61 (by decide) (by decide)
  have z72 := zz 72 (by decide) (by decide)
  have qa : QF A JA v := QF_kp hQF (congrFun z49 1) (congrFun z49 25) z51 z61 (zj 62 (by decide) (by decide)) (Int.le_refl _)
  have yc : ∀ k, k < 49 ∨ 73 ≤ k → B k = A k := Ch_kp hh.1 (by decide)
  have frB : FRk B JB := FRk_kp (a := 49) (b := 73) fr yc hh.2.1 (by decide)
  have b51 : B 51 = A 51 := (hh.1.1 51 (by decide) (by decide))
  have y51 : B 51 = I 51 := b51.trans z51
  exact ⟨hph, ⟨frB, (QF_tk qa qk.1.2.2.1 qk.2 b51 (by omega))⟩, (OK8_k hOK (fun j _ => congrFun y51 j) ((hh.1.1 52 (by decide) (by decide)).trans z52) ((hh.1.1 53 (by decide) (by decide)).trans z53) (RX_o hQ).2.2.2.2.2.2.2.2.2.2), ⟨(SA8_k hST.1 ((congrFun (yc 0 (by decide)) 16).trans (h0.2.2.2.1 0 16 (by decide) (by decide) (by decide))) ((yc 48 (by decide)).trans (Fw_row h0.2.2.2.1 48 (by decide) (by decide) (by decide))) ((hh.1.2 0 (by decide)).trans (congrFun z49 0)) ((hh.1.1 50 (by decide) (by decide)).trans z50)), (TL8_k hST.2 ((congrFun (yc 1 (by decide)) 8).trans (h0.2.2.2.1 1 8 (by decide) (by decide) (by decide))) ((congrFun (yc 1 (by decide)) 10).trans (h0.2.2.2.1 1 10 (by decide) (by decide) (by decide))) ((yc 5 (by decide)).trans (Fw_row h0.2.2.2.1 5 (by decide) (by decide) (by decide))) (fun j _ => congrFun y51 j))⟩, (IM8_k hIM hC rfl ((hh.1.1 52 (by decide) (by decide)).trans z52) (fun k h1 _ => (yc k (Or.inr h1)).trans (h0.1 k (by omega)))), (DR8_k hDR ((congrFun (yc 0 (by decide)) 13).trans (h0.2.2.2.1 0 13 (by decide) (by decide) (by decide))) ((congrFun (yc 0 (by decide)) 14).trans (h0.2.2.2.1 0 14 (by decide) (by decide) (by decide))) ((yc 47 (by decide)).trans (Fw_row h0.2.2.2.1 47 (by decide) (by decide) (by decide))) ((hh.1.2 39 (by decide)).trans (congrFun z49 39)) ((hh.1.2 40 (by decide)).trans (congrFun z49 40)) ((hh.1.1 72 (by decide) (by decide)).trans z72))⟩
set_option maxHeartbeats 1000000 in
theorem CI8_spy {I A B J JA JB : aI1} {R : aR1} {S : aS1} {v : Int} (hP : CPI I J R S v) (hC : CI I R S) (hQ : RX I) (h0 : (Kp 0 49 I A ∧ Kp 0 49 J JA ∧ CX A ∧ Fw [] [] I A ∧ True) ∧ FRk A JA) (hh : (Ch [63] [] A B ∧ Kp 49 73 JA JB ∧ RX B ∧ True) ∧ QK9 A B JA JB) : CPI B JB R S (v + 1) := by
  obtain ⟨hPH, ⟨-, hQF⟩, hOK, hST, hIM, hDR⟩ := id hP
  obtain ⟨h0, fr⟩ := h0
  obtain ⟨hh, qk⟩ := hh
  have g0 : Kp 0 49 I A ∧ Kp 0 49 J JA ∧ CX A ∧ Fw [] [] I A ∧ True := h0
  have h1 : Ch [63] [] A B ∧ Kp 49 73 JA JB ∧ RX B ∧ True := hh
  have cp := CF_spy hPH.1.1 hC g0 h1
  have cg := CG_spy hPH.1.2 hC hQ g0 h1
  have ch := CH_spy hPH.1 hPH.2 hC g0 h1
  have hph : CPH B R S := ⟨⟨cp, cg⟩, ch⟩
  clear cp cg ch g0 h1
  have zz : ∀ k, 49 ≤ k → k < 73 → A k = I k := fun k h1 _ => h0.1 k (by omega)
  have zj : ∀ k, 49 ≤ k → k < 73 → JA k = J k := fun k h1 _ => h0.2.1 k (by omega)
  have z49 := zz 49 (by decide) (by decide)
  have z50 := zz 50 (by decide) (by decide)
  have z51 := zz 51 (by decide) (by decide)
  have z52 := zz 52 (by decide) (by decide)
  have z53 := zz 53 (by decide) (by decide)
  have z61 := zz 61 (by decide) (by decide)
  have z72 := zz 72 (by decide) (by decide)
  have qa : QF A JA v := QF_kp hQF (congrFun z49 1) (congrFun z49 25) z51 z61 (zj 62 (by decide) (by decide)) (Int.le_refl _)
  have yc : ∀ k, k < 49 ∨ 73 ≤ k → B k = A k := Ch_kp hh.1 (by decide)
  have frB : FRk B JB := FRk_kp (a := 49) (b := 73) fr yc hh.2.1 (by decide)
  have b51 : B 51 = A 51 := (hh.1.1 51 (by decide) (by decide))
  have y51 : B 51 = I 51 := b51.trans z51
  exact ⟨hph, ⟨frB, (QF_tk qa qk.1.2.2.1 qk.2 b51 (by omega))⟩, (OK8_k hOK (fun j _ => congrFun y51 j) ((hh.1.1 52 (by decide) (by decide)).trans z52) ((hh.1.1 53 (by decide) (by decide)).trans z53) (RX_o hQ).2.2.2.2.2.2.2.2.2.2), ⟨(SA8_k hST.1 ((congrFun (yc 0 (by decide)) 16).trans (h0.2.2.2.1 0 16 (by decide) (by decide) (by decide))) ((yc 48 (by decide)).trans (Fw_row h0.2.2.2.1 48 (by decide) (by decide) (by decide))) ((hh.1.2 0 (by decide)).trans (congrFun z49 0)) ((hh.1.1 50 (by decide) (by decide)).trans z50)), (TL8_k hST.2 ((congrFun (yc 1 (by decide)) 8).trans (h0.2.2.2.1 1 8 (by decide) (by decide) (by decide))) ((congrFun (yc 1 (by decide)) 10).trans (h0.2.2.2.1 1 10 (by decide) (by decide) (by decide))) ((yc 5 (by decide)).trans (Fw_row h0.2.2.2.1 5 (by decide) (by decide) (by decide))) (fun j _ => congrFun y51 j))⟩, (IM8_k hIM hC rfl ((hh.1.1 52 (by decide) (by decide)).trans z52) (fun k h1 _ => (yc k (Or.inr h1)).trans (h0.1 k (by omega)))), (DR8_k hDR ((congrFun (yc 0 (by decide)) 13).trans (h0.2.2.2.1 0 13 (by decide) (by decide) (by decide))) ((congrFun (yc 0 (by decide)) 14).trans (h0.2.2.2.1 0 14 (by decide) (by decide) (by decide))) ((yc 47 (by decide)).trans (Fw_row h0.2.2.2.1 47 (by decide) (by decide) (by decide))) ((hh.1.2 39 (by decide)).trans (congrFun z49 39)) ((hh.1.2 40 (by decide)).trans (congrFun z49 40)) ((hh.1.1 72 (by decide) (by decide)).trans z72))⟩
set_option maxHeartbeats 1000000 in
theorem CI8_cheap {I A B J JA JB : aI1} {R : aR1} {S : aS1} {v : Int} (hP : CPI I J R S v) (hC : CI I R S) (hQ : RX I) (h0 : (Kp 0 49 I A ∧ Kp 0 49 J JA ∧ CX A ∧ Fw [18, 19, 20, 21, 22, 23, 24, 25, 26, 27, 28, 29, 30, 31, 32, 33, 34, 35, 36] [] I A ∧ True) ∧ FRk A JA) (hh : (Ch [70, 71] [] A B ∧ Kp 49 73 JA JB ∧ RX B ∧ True) ∧ QK9 A B JA JB) : CPI B JB R S (v + 1) := by
  obtain ⟨hPH, ⟨-, hQF⟩, hOK, hST, hIM, hDR⟩ := id hP
  obtain ⟨h0, fr⟩ := h0
  obtain ⟨hh, qk⟩ := hh
  have g0 : Kp 0 49 I A ∧ Kp 0 49 J JA ∧ CX A ∧ Fw [18, 19, 20, 21, 22, 23, 24, 25, 26, 27, 28, 29, 30, 31, 32, 33, 34, 35, 36] [] I A ∧ True := h0
  have h1 : Ch [70, 71] [] A B ∧ Kp 49 73 JA JB ∧ RX B ∧ True := hh
  have cp := CF_cheap hPH.1.1 hC g0 h1
  have cg := CG_cheap hPH.1.2 hC hQ g0 h1
  have ch := CH_cheap hPH.1 hPH.2 hC g0 h1
  have hph : CPH B R S := ⟨⟨cp, cg⟩, ch⟩
  clear cp cg ch g0 h1
  have zz : ∀ k, 49 ≤ k → k < 73 → A k = I k := fun k h1 _ => h0.1 k (by omega)
  have zj : ∀ k, 49 ≤ k → k < 73 → JA k = J k := fun k h1 _ => h0.2.1 k (by omega)
  have z49 := zz 49 (by decide) (by decide)
  have z50 := zz 50 (by decide) (by decide)
  have z51 := zz 51 (by decide) (by decide)
  have z52 := zz 52 (by decide) (by decide)
  have z53 := zz 53 (by decide) (by decide)
  have z61 := zz 61 (by decide) (by decide)
  have z72 := zz 72 (by decide) (by decide)
  have qa : QF A JA v := QF_kp hQF (congrFun z49 1) (congrFun z49 25) z51 z61 (zj 62 (by decide) (by decide)) (Int.le_refl _)
  have yc : ∀ k, k < 49 ∨ 73 ≤ k → B k = A k := Ch_kp hh.1 (by decide)
  have frB : FRk B JB := FRk_kp (a := 49) (b := 73) fr yc hh.2.1 (by decide)
  have b51 : B 51 = A 51 := (hh.1.1 51 (by decide) (by decide))
  have y51 : B 51 = I 51 := b51.trans z51
  exact ⟨hph, ⟨frB, (QF_tk qa qk.1.2.2.1 qk.2 b51 (by omega))⟩, (OK8_k hOK (fun j _ => congrFun y51 j) ((hh.1.1 52 (by decide) (by decide)).trans z52) ((hh.1.1 53 (by decide) (by decide)).trans z53) (RX_o hQ).2.2.2.2.2.2.2.2.2.2), ⟨(SA8_k hST.1 ((congrFun (yc 0 (by decide)) 16).trans (h0.2.2.2.1 0 16 (by decide) (by decide) (by decide))) ((yc 48 (by decide)).trans (Fw_row h0.2.2.2.1 48 (by decide) (by decide) (by decide))) ((hh.1.2 0 (by decide)).trans (congrFun z49 0)) ((hh.1.1 50 (by decide) (by decide)).trans z50)), (TL8_k hST.2 ((congrFun (yc 1 (by decide)) 8).trans (h0.2.2.2.1 1 8 (by decide) (by decide) (by decide))) ((congrFun (yc 1 (by decide)) 10).trans (h0.2.2.2.1 1 10 (by decide) (by decide) (by decide))) ((yc 5 (by decide)).trans (Fw_row h0.2.2.2.1 5 (by decide) (by decide) (by decide))) (fun j _ => congrFun y51 j))⟩, (IM8_k hIM hC rfl ((hh.1.1 52 (by decide) (by decide)).trans z52) (fun k h1 _ => (yc k (Or.inr h1)).trans (h0.1 k (by omega)))), (DR8_k hDR ((congrFun (yc 0 (by decide)) 13).trans (h0.2.2.2.1 0 13 (by decide) (by decide) (by decide))) ((congrFun (yc 0 (by decide)) 14).trans (h0.2.2.2.1 0 14 (by decide) (by decide) (by decide))) ((yc 47 (by decide)).trans (Fw_row h0.2.2.2.1 47 (by decide) (by decide) (by decide))) ((hh.1.2 39 (by decide)).trans (congrFun z49 39)) ((hh.1.2 40 (by decide)).trans (congrFun z49 40)) ((hh.1.1 72 (by decide) (by decide)).trans z72))⟩
set_option maxHeartbeats 1000000 in
theorem CI8_plan {I A B J JA JB : aI1} {R : aR1} {S : aS1} {v : Int} (hP : CPI I J R S v) (hC : CI I R S) (hQ : RX I) (h0 : (Kp 0 49 I A ∧ Kp 0 49 J JA ∧ CX A ∧ Fw [18, 19, 20, 21, 22, 23, 24, 25, 26, 27, 28, 29, 30, 31, 32, 33, 34, 35, 36] [] I A ∧ True) ∧ FRk A JA) (hh : (Ch [70, 71] [] A B ∧ Kp 49 73 JA JB ∧ RX B ∧ True) ∧ QK9 A B JA JB) : CPI B JB R S (v + 1) := by
  obtain ⟨hPH, ⟨-, hQF⟩, hOK, hST, hIM, hDR⟩ := id hP
  obtain ⟨h0, fr⟩ := h0
  obtain ⟨hh, qk⟩ := hh
  have g0 : Kp 0 49 I A ∧ Kp 0 49 J JA ∧ CX A ∧ Fw [18, 19, 20, 21, 22, 23, 24, 25, 26, 27, 28, 29, 30, 31, 32, 33, 34, 35, 36] [] I A ∧ True := h0
  have h1 : Ch [70, 71] [] A B ∧ Kp 49 73 JA JB ∧ RX B ∧ True := hh
  have cp := CF_plan hPH.1.1 hC g0 h1
  have cg := CG_plan hPH.1.2 hC hQ g0 h1
  have ch := CH_plan hPH.1 hPH.2 hC g0 h1
  have hph : CPH B R S := ⟨⟨cp, cg⟩, ch⟩
  clear cp cg ch g0 h1
  have zz : ∀ k, 49 ≤ k → k < 73 → A k = I k := fun k h1 _ => h0.1 k (by omega)
  have zj : ∀ k, 49 ≤ k → k < 73 → JA k = J k := fun k h1 _ => h0.2.1 k (by omega)
  have z49 := zz 49 (by decide) (by decide)
  have z50 := zz 50 (by decide) (by decide)
  have z51 := zz 51 (by decide) (by decide)
  have z52 := zz 52 (by decide) (by decide)
  have z53 := zz 53 (by decide) (by decide)
  have z61 := zz 61 (by decide) (by decide)
  have z72 := zz 72 (by decide) (by decide)
  have qa : QF A JA v := QF_kp hQF (congrFun z49 1) (congrFun z49 25) z51 z61 (zj 62 (by decide) (by decide)) (Int.le_refl _)
  have yc : ∀ k, k < 49 ∨ 73 ≤ k → B k = A k := Ch_kp hh.1 (by decide)
  have frB : FRk B JB := FRk_kp (a := 49) (b := 73) fr yc hh.2.1 (by decide)
  have b51 : B 51 = A 51 := (hh.1.1 51 (by decide) (by decide))
  have y51 : B 51 = I 51 := b51.trans z51
  exact ⟨hph, ⟨frB, (QF_tk qa qk.1.2.2.1 qk.2 b51 (by omega))⟩, (OK8_k hOK (fun j _ => congrFun y51 j) ((hh.1.1 52 (by decide) (by decide)).trans z52) ((hh.1.1 53 (by decide) (by decide)).trans z53) (RX_o hQ).2.2.2.2.2.2.2.2.2.2), ⟨(SA8_k hST.1 ((congrFun (yc 0 (by decide)) 16).trans (h0.2.2.2.1 0 16 (by decide) (by decide) (by decide))) ((yc 48 (by decide)).trans (Fw_row h0.2.2.2.1 48 (by decide) (by decide) (by decide))) ((hh.1.2 0 (by decide)).trans (congrFun z49 0)) ((hh.1.1 50 (by decide) (by decide)).trans z50)), (TL8_k hST.2 ((congrFun (yc 1 (by decide)) 8).trans (h0.2.2.2.1 1 8 (by decide) (by decide) (by decide))) ((congrFun (yc 1 (by decide)) 10).trans (h0.2.2.2.1 1 10 (by decide) (by decide) (by decide))) ((yc 5 (by decide)).trans (Fw_row h0.2.2.2.1 5 (by decide) (by decide) (by decide))) (fun j _ => congrFun y51 j))⟩, (IM8_k hIM hC rfl ((hh.1.1 52 (by decide) (by decide)).trans z52) (fun k h1 _ => (yc k (Or.inr h1)).trans (h0.1 k (by omega)))), (DR8_k hDR ((congrFun (yc 0 (by decide)) 13).trans (h0.2.2.2.1 0 13 (by decide) (by decide) (by decide))) ((congrFun (yc 0 (by decide)) 14).trans (h0.2.2.2.1 0 14 (by decide) (by decide) (by decide))) ((yc 47 (by decide)).trans (Fw_row h0.2.2.2.1 47 (by decide) (by decide) (by decide))) ((hh.1.2 39 (by decide)).trans (congrFun z49 39)) ((hh.1.2 40 (by decide)).trans (congrFun z49 40)) ((hh.1.1 72 (by decide) (by decide)).trans z72))⟩
set_option maxHeartbeats 1000000 in
theorem CI8_drawn {I A B J JA JB : aI1} {R : aR1} {S : aS1} {a x y v : Int} (hP : CPI I J R S v) (hC : CI I R S) (hQ : RX I) (h0 : (Kp 0 49 I A ∧ Kp 0 49 J JA ∧ CX A ∧ Fw [] [] I A ∧ x = if a = -1 then I 0 14 else if 0 ≤ a ∧ a < I 0 13 then I 47 a.toNat else -1) ∧ FRk A JA) (hh : A = B ∧ JA = JB ∧ y = if A 49 39 = -1 then -1 else if a = -1 then A 49 40 else if 0 ≤ a ∧ a < A 49 39 then A 72 a.toNat else -1) : CPI B JB R S (v + 1) := by
  obtain ⟨hPH, ⟨-, hQF⟩, hOK, hST, hIM, hDR⟩ := id hP
  obtain ⟨h0, fr⟩ := h0
  obtain ⟨rfl, rfl, hh⟩ := hh
  have g0 : Kp 0 49 I A ∧ Kp 0 49 J JA ∧ CX A ∧ Fw [] [] I A ∧ True := ⟨h0.1, h0.2.1, h0.2.2.1, h0.2.2.2.1, trivial⟩
  have h1 : A = A ∧ JA = JA ∧ True := ⟨rfl, rfl, trivial⟩
  have cp := CF_drawn hPH.1.1 hC g0 h1
  have cg := CG_drawn hPH.1.2 hC hQ g0 h1
  have ch := CH_drawn hPH.1 hPH.2 hC g0 h1
  have hph : CPH A R S := ⟨⟨cp, cg⟩, ch⟩
  clear cp cg ch g0 h1
  have zz : ∀ k, 49 ≤ k → k < 73 → A k = I k := fun k h1 _ => h0.1 k (by omega)
  have zj : ∀ k, 49 ≤ k → k < 73 → JA k = J k := fun k h1 _ => h0.2.1 k (by omega)
  have z49 := zz 49 (by decide) (by decide)
  have z50 := zz 50 (by decide) (by decide)
  have z51 := zz 51 (by decide) (by decide)
  have z52 := zz 52 (by decide) (by decide)
  have z53 := zz 53 (by decide) (by decide)
  have z61 := zz 61 (by decide) (by decide)
  have z72 := zz 72 (by decide) (by decide)
  have qa : QF A JA v := QF_kp hQF (congrFun z49 1) (congrFun z49 25) z51 z61 (zj 62 (by decide) (by decide)) (Int.le_refl _)
  exact ⟨hph, ⟨fr, (QF_mn qa (by omega))⟩, (OK8_k hOK (fun j _ => congrFun z51 j) z52 z53 (RX_o hQ).2.2.2.2.2.2.2.2.2.2), ⟨(SA8_k hST.1 (h0.2.2.2.1 0 16 (by decide) (by decide) (by decide)) (Fw_row h0.2.2.2.1 48 (by decide) (by decide) (by decide)) (congrFun z49 0) z50), (TL8_k hST.2 (h0.2.2.2.1 1 8 (by decide) (by decide) (by decide)) (h0.2.2.2.1 1 10 (by decide) (by decide) (by decide)) (Fw_row h0.2.2.2.1 5 (by decide) (by decide) (by decide)) (fun j _ => congrFun z51 j))⟩, (IM8_k hIM hC rfl z52 (fun k h1 _ => h0.1 k (by omega))), (DR8_k hDR (h0.2.2.2.1 0 13 (by decide) (by decide) (by decide)) (h0.2.2.2.1 0 14 (by decide) (by decide) (by decide)) (Fw_row h0.2.2.2.1 47 (by decide) (by decide) (by decide)) (congrFun z49 39) (congrFun z49 40) z72)⟩
set_option maxHeartbeats 1000000 in
theorem CI8_count {I A B J JA JB : aI1} {R : aR1} {S : aS1} {a x y v : Int} (hP : CPI I J R S v) (hC : CI I R S) (hQ : RX I) (h0 : (Kp 0 49 I A ∧ Kp 0 49 J JA ∧ CX A ∧ Fw [] [] I A ∧ x = CNc I (cnR (I 3) (FU (I 1 5) + 1).toNat) a) ∧ FRk A JA) (hh : A = B ∧ JA = JB ∧ y = CNr A (cnR (A 51) (FU (A 51 304) + 1).toNat) a) : CPI B JB R S (v + 1) := by
  obtain ⟨hPH, ⟨-, hQF⟩, hOK, hST, hIM, hDR⟩ := id hP
  obtain ⟨h0, fr⟩ := h0
  obtain ⟨rfl, rfl, hh⟩ := hh
  have g0 : Kp 0 49 I A ∧ Kp 0 49 J JA ∧ CX A ∧ Fw [] [] I A ∧ True := ⟨h0.1, h0.2.1, h0.2.2.1, h0.2.2.2.1, trivial⟩
  have h1 : A = A ∧ JA = JA ∧ True := ⟨rfl, rfl, trivial⟩
  have cp := CF_count hPH.1.1 hC g0 h1
  have cg := CG_count hPH.1.2 hC hQ g0 h1
  have ch := CH_count hPH.1 hPH.2 hC g0 h1
  have hph : CPH A R S := ⟨⟨cp, cg⟩, ch⟩
  clear cp cg ch g0 h1
  have zz : ∀ k, 49 ≤ k → k < 73 → A k = I k := fun k h1 _ => h0.1 k (by omega)
  have zj : ∀ k, 49 ≤ k → k < 73 → JA k = J k := fun k h1 _ => h0.2.1 k (by omega)
  have z49 := zz 49 (by decide) (by decide)
  have z50 := zz 50 (by decide) (by decide)
  have z51 := zz 51 (by decide) (by decide)
  have z52 := zz 52 (by decide) (by decide)
  have z53 := zz 53 (by decide) (by decide)
  have z61 := zz 61 (by decide) (by decide)
  have z72 := zz 72 (by decide) (by decide)
  have qa : QF A JA v := QF_kp hQF (congrFun z49 1) (congrFun z49 25) z51 z61 (zj 62 (by decide) (by decide)) (Int.le_refl _)
  exact ⟨hph, ⟨fr, (QF_mn qa (by omega))⟩, (OK8_k hOK (fun j _ => congrFun z51 j) z52 z53 (RX_o hQ).2.2.2.2.2.2.2.2.2.2), ⟨(SA8_k hST.1 (h0.2.2.2.1 0 16 (by decide) (by decide) (by decide)) (Fw_row h0.2.2.2.1 48 (by decide) (by decide) (by decide)) (congrFun z49 0) z50), (TL8_k hST.2 (h0.2.2.2.1 1 8 (by decide) (by decide) (by decide)) (h0.2.2.2.1 1 10 (by decide) (by decide) (by decide)) (Fw_row h0.2.2.2.1 5 (by decide) (by decide) (by decide)) (fun j _ => congrFun z51 j))⟩, (IM8_k hIM hC rfl z52 (fun k h1 _ => h0.1 k (by omega))), (DR8_k hDR (h0.2.2.2.1 0 13 (by decide) (by decide) (by decide)) (h0.2.2.2.1 0 14 (by decide) (by decide) (by decide)) (Fw_row h0.2.2.2.1 47 (by decide) (by decide) (by decide)) (congrFun z49 39) (congrFun z49 40) z72)⟩
set_option maxHeartbeats 1000000 in
theorem CI8_status {I A B J JA JB : aI1} {R : aR1} {S : aS1} {x y v : Int} (hP : CPI I J R S v) (hC : CI I R S) (hQ : RX I) (h0 : (Kp 0 49 I A ∧ Kp 0 49 J JA ∧ CX A ∧ Fw [] [] I A ∧ x = I 0 16) ∧ FRk A JA) (hh : A = B ∧ JA = JB ∧ y = A 49 0) : CPI B JB R S (v + 1) := by
  obtain ⟨hPH, ⟨-, hQF⟩, hOK, hST, hIM, hDR⟩ := id hP
  obtain ⟨h0, fr⟩ := h0
  obtain ⟨rfl, rfl, hh⟩ := hh
  have g0 : Kp 0 49 I A ∧ Kp 0 49 J JA ∧ CX A ∧ Fw [] [] I A ∧ True := ⟨h0.1, h0.2.1, h0.2.2.1, h0.2.2.2.1, trivial⟩
  have h1 : A = A ∧ JA = JA ∧ True := ⟨rfl, rfl, trivial⟩
  have cp := CF_status hPH.1.1 hC g0 h1
  have cg := CG_status hPH.1.2 hC hQ g0 h1
  have ch := CH_status hPH.1 hPH.2 hC g0 h1
  have hph : CPH A R S := ⟨⟨cp, cg⟩, ch⟩
  clear cp cg ch g0 h1
  have zz : ∀ k, 49 ≤ k → k < 73 → A k = I k := fun k h1 _ => h0.1 k (by omega)
  have zj : ∀ k, 49 ≤ k → k < 73 → JA k = J k := fun k h1 _ => h0.2.1 k (by omega)
  have z49 := zz 49 (by decide) (by decide)
  have z50 := zz 50 (by decide) (by decide)
  have z51 := zz 51 (by decide) (by decide)
  have z52 := zz 52 (by decide) (by decide)
  have z53 := zz 53 (by decide) (by decide)
  have z61 := zz 61 (by decide) (by decide)
  have z72 := zz 72 (by decide) (by decide)
  have qa : QF A JA v := QF_kp hQF (congrFun z49 1) (congrFun z49 25) z51 z61 (zj 62 (by decide) (by decide)) (Int.le_refl _)
  exact ⟨hph, ⟨fr, (QF_mn qa (by omega))⟩, (OK8_k hOK (fun j _ => congrFun z51 j) z52 z53 (RX_o hQ).2.2.2.2.2.2.2.2.2.2), ⟨(SA8_k hST.1 (h0.2.2.2.1 0 16 (by decide) (by decide) (by decide)) (Fw_row h0.2.2.2.1 48 (by decide) (by decide) (by decide)) (congrFun z49 0) z50), (TL8_k hST.2 (h0.2.2.2.1 1 8 (by decide) (by decide) (by decide)) (h0.2.2.2.1 1 10 (by decide) (by decide) (by decide)) (Fw_row h0.2.2.2.1 5 (by decide) (by decide) (by decide)) (fun j _ => congrFun z51 j))⟩, (IM8_k hIM hC rfl z52 (fun k h1 _ => h0.1 k (by omega))), (DR8_k hDR (h0.2.2.2.1 0 13 (by decide) (by decide) (by decide)) (h0.2.2.2.1 0 14 (by decide) (by decide) (by decide)) (Fw_row h0.2.2.2.1 47 (by decide) (by decide) (by decide)) (congrFun z49 39) (congrFun z49 40) z72)⟩
set_option maxHeartbeats 1000000 in
theorem CI8_unwant {I A B J JA JB : aI1} {R : aR1} {S : aS1} {x y v : Int} (hP : CPI I J R S v) (hC : CI I R S) (hQ : RX I) (h0 : (Kp 0 49 I A ∧ Kp 0 49 J JA ∧ CX A ∧ Fw [33] [(1, 11)] I A ∧ x = I 1 11 ∧ A 1 11 = 0) ∧ FRk A JA) (hh : (Ch [51] [1] A B ∧ Kp 49 73 JA JB ∧ RX B ∧ y = A 51 309 ∧ B 51 = up1 (A 51) 309 0) ∧ VQ9 A B) : CPI B JB R S (v + 1) := by
  obtain ⟨hPH, ⟨-, hQF⟩, hOK, hST, hIM, hDR⟩ := id hP
  obtain ⟨h0, fr⟩ := h0
  obtain ⟨hh, qk⟩ := hh
  have g0 : Kp 0 49 I A ∧ Kp 0 49 J JA ∧ CX A ∧ Fw [33] [(1, 11)] I A ∧ x = I 1 11 ∧ A 1 11 = 0 := h0
  have h1 : Ch [51] [1] A B ∧ Kp 49 73 JA JB ∧ RX B ∧ y = A 51 309 ∧ B 51 = up1 (A 51) 309 0 := hh
  have cp := CF_unwant hPH.1.1 hC g0 h1
  have cg := CG_unwant hPH.1.2 hC hQ g0 h1
  have ch := CH_unwant hPH.1 hPH.2 hC g0 h1
  have hph : CPH B R S := ⟨⟨cp.1, cg⟩, ch⟩
  clear cp cg ch g0 h1
  have zz : ∀ k, 49 ≤ k → k < 73 → A k = I k := fun k h1 _ => h0.1 k (by omega)
  have zj : ∀ k, 49 ≤ k → k < 73 → JA k = J k := fun k h1 _ => h0.2.1 k (by omega)
  have z49 := zz 49 (by decide) (by decide)
  have z50 := zz 50 (by decide) (by decide)
  have z51 := zz 51 (by decide) (by decide)
  have z52 := zz 52 (by decide) (by decide)
  have z53 := zz 53 (by decide) (by decide)
  have z61 := zz 61 (by decide) (by decide)
  have z72 := zz 72 (by decide) (by decide)
  have qa : QF A JA v := QF_kp hQF (congrFun z49 1) (congrFun z49 25) z51 z61 (zj 62 (by decide) (by decide)) (Int.le_refl _)
  have yc : ∀ k, k < 49 ∨ 73 ≤ k → B k = A k := Ch_kp hh.1 (by decide)
  have frB : FRk B JB := FRk_kp (a := 49) (b := 73) fr yc hh.2.1 (by decide)
  have b51 : ∀ j, j ≠ 309 → B 51 j = I 51 j := fun j hj => by rw [hh.2.2.2.2, up1_n _ _ hj, z51]
  exact ⟨hph, ⟨frB, (QF_tu qa qk.2.2.1 qk.2.2.2 (Int.le_refl _))⟩, (OK8_k hOK (fun j hj => b51 j (by omega)) ((hh.1.1 52 (by decide) (by decide)).trans z52) ((hh.1.1 53 (by decide) (by decide)).trans z53) (RX_o hQ).2.2.2.2.2.2.2.2.2.2), ⟨(SA8_k hST.1 ((congrFun (yc 0 (by decide)) 16).trans (h0.2.2.2.1 0 16 (by decide) (by decide) (by decide))) ((yc 48 (by decide)).trans (Fw_row h0.2.2.2.1 48 (by decide) (by decide) (by decide))) (qk.2.1.trans (congrFun z49 0)) (qk.1.trans z50)), (TL8_k hST.2 ((congrFun (yc 1 (by decide)) 8).trans (h0.2.2.2.1 1 8 (by decide) (by decide) (by decide))) ((congrFun (yc 1 (by decide)) 10).trans (h0.2.2.2.1 1 10 (by decide) (by decide) (by decide))) ((yc 5 (by decide)).trans (Fw_row h0.2.2.2.1 5 (by decide) (by decide) (by decide))) (fun j hj => b51 j (by omega)))⟩, (IM8_k hIM hC rfl ((hh.1.1 52 (by decide) (by decide)).trans z52) (fun k h1 _ => (yc k (Or.inr h1)).trans (h0.1 k (by omega)))), (DR8_k hDR ((congrFun (yc 0 (by decide)) 13).trans (h0.2.2.2.1 0 13 (by decide) (by decide) (by decide))) ((congrFun (yc 0 (by decide)) 14).trans (h0.2.2.2.1 0 14 (by decide) (by decide) (by decide))) ((yc 47 (by decide)).trans (Fw_row h0.2.2.2.1 47 (by decide) (by decide) (by decide))) ((hh.1.2 39 (by decide)).trans (congrFun z49 39)) ((hh.1.2 40 (by decide)).trans (congrFun z49 40)) ((hh.1.1 72 (by decide) (by decide)).trans z72))⟩
set_option maxHeartbeats 1000000 in
theorem CI8_dawn {I A B J JA JB : aI1} {R : aR1} {S : aS1} {x y v : Int} (hP : CPI I J R S v) (hC : CI I R S) (hQ : RX I) (h0 : (Kp 0 49 I A ∧ Kp 0 49 J JA ∧ CX A ∧ Fw [] [(1, 8), (1, 10)] I A ∧ x = bc (I 1 8) ∧ A 1 8 = 0 ∧ A 1 10 = 0) ∧ FRk A JA) (hh : Ch [51] [1] A B ∧ Kp 49 73 JA JB ∧ RX B ∧ y = pcn (A 51 307).toNat ∧ B 51 = up1 (up1 (A 51) 307 0) 308 0 ∧ B 49 1 = A 49 1 + 1 ∧ JB = JA) : CPI B JB R S (v + 1) := by
  obtain ⟨hPH, ⟨-, hQF⟩, hOK, hST, hIM, hDR⟩ := id hP
  obtain ⟨h0, fr⟩ := h0
  have g0 : Kp 0 49 I A ∧ Kp 0 49 J JA ∧ CX A ∧ Fw [] [(1, 8), (1, 10)] I A ∧ x = bc (I 1 8) ∧ A 1 8 = 0 ∧ A 1 10 = 0 := h0
  have h1 : Ch [51] [1] A B ∧ Kp 49 73 JA JB ∧ RX B ∧ B 51 = up1 (up1 (A 51) 307 0) 308 0 := ⟨hh.1, hh.2.1, hh.2.2.1, hh.2.2.2.2.1⟩
  have cp := CF_dawn hPH.1.1 hC g0 h1
  have cg := CG_dawn hPH.1.2 hC hQ g0 h1
  have ch := CH_dawn hPH.1 hPH.2 hC g0 h1
  have hph : CPH B R S := ⟨⟨cp, cg⟩, ch⟩
  clear cp cg ch g0 h1
  have zz : ∀ k, 49 ≤ k → k < 73 → A k = I k := fun k h1 _ => h0.1 k (by omega)
  have zj : ∀ k, 49 ≤ k → k < 73 → JA k = J k := fun k h1 _ => h0.2.1 k (by omega)
  have z49 := zz 49 (by decide) (by decide)
  have z50 := zz 50 (by decide) (by decide)
  have z51 := zz 51 (by decide) (by decide)
  have z52 := zz 52 (by decide) (by decide)
  have z53 := zz 53 (by decide) (by decide)
  have z61 := zz 61 (by decide) (by decide)
  have z72 := zz 72 (by decide) (by decide)
  have qa : QF A JA v := QF_kp hQF (congrFun z49 1) (congrFun z49 25) z51 z61 (zj 62 (by decide) (by decide)) (Int.le_refl _)
  have yc : ∀ k, k < 49 ∨ 73 ≤ k → B k = A k := Ch_kp hh.1 (by decide)
  have frB : FRk B JB := FRk_kp (a := 49) (b := 73) fr yc hh.2.1 (by decide)
  obtain ⟨x1, x2, x3⟩ := h0.2.2.2.2
  have b51 := hh.2.2.2.2.1
  have b7 : B 51 307 = 0 := by rw [b51, up1_n _ _ (by decide), up1_s]
  have b8 : B 51 308 = 0 := by rw [b51, up1_s]
  have bo : ∀ j, j ≠ 307 → j ≠ 308 → B 51 j = I 51 j := fun j h7 h8 => by rw [b51, up1_n _ _ h8, up1_n _ _ h7, z51]
  have hfu := (RX_o hQ).2.2.2.2.2.2.2.2.2
  have ok : OKr (B 51) := OKr_k hOK.1 (fun j hj => bo j (by omega) (by omega)) (by rw [b7, bo 304 (by decide) (by decide)]; omega) (by rw [bo 304 (by decide) (by decide)]; omega)
  exact ⟨hph, ⟨frB, (QF_tu qa hh.2.2.2.2.2.1 (Or.inr (hh.1.2 25 (by decide))) (Int.le_refl _))⟩, (OK8_n hOK ok ((hh.1.1 52 (by decide) (by decide)).trans z52) ((hh.1.1 53 (by decide) (by decide)).trans z53)), ⟨(SA8_k hST.1 ((congrFun (yc 0 (by decide)) 16).trans (h0.2.2.2.1 0 16 (by decide) (by decide) (by decide))) ((yc 48 (by decide)).trans (Fw_row h0.2.2.2.1 48 (by decide) (by decide) (by decide))) ((hh.1.2 0 (by decide)).trans (congrFun z49 0)) ((hh.1.1 50 (by decide) (by decide)).trans z50)), (TL8_0 ((congrFun (yc 1 (by decide)) 8).trans x2) ((congrFun (yc 1 (by decide)) 10).trans x3) b7 b8)⟩, (IM8_k hIM hC rfl ((hh.1.1 52 (by decide) (by decide)).trans z52) (fun k h1 _ => (yc k (Or.inr h1)).trans (h0.1 k (by omega)))), (DR8_k hDR ((congrFun (yc 0 (by decide)) 13).trans (h0.2.2.2.1 0 13 (by decide) (by decide) (by decide))) ((congrFun (yc 0 (by decide)) 14).trans (h0.2.2.2.1 0 14 (by decide) (by decide) (by decide))) ((yc 47 (by decide)).trans (Fw_row h0.2.2.2.1 47 (by decide) (by decide) (by decide))) ((hh.1.2 39 (by decide)).trans (congrFun z49 39)) ((hh.1.2 40 (by decide)).trans (congrFun z49 40)) ((hh.1.1 72 (by decide) (by decide)).trans z72))⟩
set_option maxHeartbeats 1000000 in
theorem CI8_lamps {I A B J JA JB : aI1} {R : aR1} {S : aS1} {a x y v : Int} (hP : CPI I J R S v) (hC : CI I R S) (hQ : RX I) (h0 : (Kp 0 49 I A ∧ Kp 0 49 J JA ∧ CX A ∧ Fw [2, 3, 18, 19, 20, 21, 22, 23, 24, 25, 26, 27, 28, 29, 30, 33, 48] [(0, 16), (1, 5), (1, 7), (1, 8), (1, 10), (1, 11)] I A ∧ (¬ (1 ≤ a ∧ a ≤ 8) → x = -1 ∧ RFc I A (-1)) ∧ ((1 ≤ a ∧ a ≤ 8) → x = I 1 5 ∧ Fw [2, 3, 18, 19, 20, 21, 22, 23, 24, 25, 26, 27, 28, 29, 30, 33] [(0, 16), (1, 5), (1, 7), (1, 8), (1, 10), (1, 11)] I A ∧ A 1 5 = a ∧ A 1 7 = 0 ∧ (∀ j, j < 8 → A 2 j = 1) ∧ A 0 16 = 0 ∧ A 1 8 = 0 ∧ A 1 10 = 0 ∧ A 1 11 = 0 ∧ (∀ s, s < 256 → A 3 s = -1))) ∧ FRk A JA) (hh : (Ch [50, 51] [0, 1] A B ∧ Kp 49 73 JA JB ∧ RX B ∧ (¬ (1 ≤ a ∧ a ≤ 8) → y = -1 ∧ B 51 = A 51) ∧ ((1 ≤ a ∧ a ≤ 8) → y = A 51 304 ∧ B 51 304 = a ∧ B 51 306 = 0 ∧ B 51 307 = 0 ∧ B 51 308 = 0 ∧ B 51 309 = 0 ∧ (∀ j, j < 8 → B 51 (256 + j) = 1) ∧ (∀ s, s < 256 → B 51 s = -1) ∧ (∀ j : Nat, 264 ≤ j → j ≠ 304 → j ≠ 306 → j ≠ 307 → j ≠ 308 → j ≠ 309 → B 51 j = A 51 j))) ∧ RGQ9 y A B JA JB) : CPI B JB R S (v + 1) := by
  obtain ⟨hPH, ⟨-, hQF⟩, hOK, hST, hIM, hDR⟩ := id hP
  obtain ⟨h0, fr⟩ := h0
  obtain ⟨hh, qk⟩ := hh
  have g0 : Kp 0 49 I A ∧ Kp 0 49 J JA ∧ CX A ∧ Fw [2, 3, 18, 19, 20, 21, 22, 23, 24, 25, 26, 27, 28, 29, 30, 31, 32, 33, 34, 35, 36, 48] [(0, 16), (1, 5), (1, 7), (1, 8), (1, 10), (1, 11)] I A ∧ (¬ (1 ≤ a ∧ a ≤ 8) → x = -1 ∧ RFc I A (-1)) ∧ ((1 ≤ a ∧ a ≤ 8) → x = I 1 5 ∧ Fw [2, 3, 18, 19, 20, 21, 22, 23, 24, 25, 26, 27, 28, 29, 30, 31, 32, 33, 34, 35, 36] [(0, 16), (1, 5), (1, 7), (1, 8), (1, 10), (1, 11)] I A ∧ A 1 5 = a ∧ A 1 7 = 0 ∧ (∀ j, j < 8 → A 2 j = 1) ∧ A 0 16 = 0 ∧ A 1 8 = 0 ∧ A 1 10 = 0 ∧ A 1 11 = 0 ∧ (∀ s, s < 256 → A 3 s = -1)) := ⟨h0.1, h0.2.1, h0.2.2.1, (Fw_wd h0.2.2.2.1 (by decide) (by decide)), h0.2.2.2.2.1, (fun hq_ => ⟨(h0.2.2.2.2.2 hq_).1, (Fw_wd (h0.2.2.2.2.2 hq_).2.1 (by decide) (by decide)), (h0.2.2.2.2.2 hq_).2.2.1, (h0.2.2.2.2.2 hq_).2.2.2.1, (h0.2.2.2.2.2 hq_).2.2.2.2.1, (h0.2.2.2.2.2 hq_).2.2.2.2.2.1, (h0.2.2.2.2.2 hq_).2.2.2.2.2.2.1, (h0.2.2.2.2.2 hq_).2.2.2.2.2.2.2.1, (h0.2.2.2.2.2 hq_).2.2.2.2.2.2.2.2.1, (h0.2.2.2.2.2 hq_).2.2.2.2.2.2.2.2.2⟩)⟩
  have h1 : Ch [50, 51] [0, 1] A B ∧ Kp 49 73 JA JB ∧ RX B ∧ (¬ (1 ≤ a ∧ a ≤ 8) → y = -1 ∧ B 51 = A 51) ∧ ((1 ≤ a ∧ a ≤ 8) → y = A 51 304 ∧ B 51 304 = a ∧ B 51 306 = 0 ∧ B 51 307 = 0 ∧ B 51 308 = 0 ∧ B 51 309 = 0 ∧ (∀ j, j < 8 → B 51 (256 + j) = 1) ∧ (∀ s, s < 256 → B 51 s = -1) ∧ (∀ j : Nat, 264 ≤ j → j ≠ 304 → j ≠ 306 → j ≠ 307 → j ≠ 308 → j ≠ 309 → B 51 j = A 51 j)) := hh
  have cp := CF_lamps hPH.1.1 hC g0 h1
  have cg := CG_lamps hPH.1.2 hC hQ g0 h1
  have ch := CH_lamps hPH.1 hPH.2 hC g0 h1
  have hph : CPH B R S := ⟨⟨cp.1, cg⟩, ch⟩
  clear cp cg ch g0 h1
  have zz : ∀ k, 49 ≤ k → k < 73 → A k = I k := fun k h1 _ => h0.1 k (by omega)
  have zj : ∀ k, 49 ≤ k → k < 73 → JA k = J k := fun k h1 _ => h0.2.1 k (by omega)
  have z49 := zz 49 (by decide) (by decide)
  have z50 := zz 50 (by decide) (by decide)
  have z51 := zz 51 (by decide) (by decide)
  have z52 := zz 52 (by decide) (by decide)
  have z53 := zz 53 (by decide) (by decide)
  have z61 := zz 61 (by decide) (by decide)
  have z72 := zz 72 (by decide) (by decide)
  have qa : QF A JA v := QF_kp hQF (congrFun z49 1) (congrFun z49 25) z51 z61 (zj 62 (by decide) (by decide)) (Int.le_refl _)
  have yc : ∀ k, k < 49 ∨ 73 ≤ k → B k = A k := Ch_kp hh.1 (by decide)
  have frB : FRk B JB := FRk_kp (a := 49) (b := 73) fr yc hh.2.1 (by decide)
  obtain ⟨⟨⟨q8, q15, q12, q5, q6, q7, q11⟩, tb, -⟩, ⟨⟨q9, q0⟩, -⟩⟩ := id hPH.1
  have x5 := XI_o hC.2.1.1
  have hfu := (RX_o hQ).2.2.2.2.2.2.2.2.2
  have ef : FU (A 51 304) = FU (I 1 5) := by rw [z51, ← q5]
  have e304 : A 51 304 = I 1 5 := by rw [z51, ← q5]
  have e305 : A 51 305 = I 1 6 := by rw [z51, ← q6]
  have e309 : A 51 309 = I 1 11 := by rw [z51, ← q11]
  have e310 : A 51 310 = I 1 9 := by rw [z51, ← q9]
  have e10 : A 49 10 = I 8 1 := (congrFun z49 10).trans q8.symm
  by_cases hv : 1 ≤ a ∧ a ≤ 8
  · have g := h0.2.2.2.2.2 hv
    have d := hh.2.2.2.2 hv
    obtain ⟨g1, gw, -, -, -, g16, g8, g10, -, -⟩ := g
    obtain ⟨d1, d304, -, d307, d308, -, do_, dc, dr⟩ := d
    have hfa := FU_r hv.1 hv.2
    have q := qk.2 (by omega)
    have ok : OKr (B 51) := ⟨fun l hl => by rw [do_ l hl]; decide, fun s hs => by rw [d304] at hs; rw [dc s (by omega), dr 305 (by decide) (by decide) (by decide) (by decide) (by decide) (by decide)]; omega, by rw [d307, d304]; omega⟩
    exact ⟨hph, ⟨frB, (QF_tu qa q.2.2.1 q.2.2.2 (Int.le_refl _))⟩, (OK8_n hOK ok ((hh.1.1 52 (by decide) (by decide)).trans z52) ((hh.1.1 53 (by decide) (by decide)).trans z53)), ⟨(SA8_a hST.1 g16 (Fw_row gw 48 (by decide) (by decide) (by decide)) q yc z50), (TL8_0 ((congrFun (yc 1 (by decide)) 8).trans g8) ((congrFun (yc 1 (by decide)) 10).trans g10) d307 d308)⟩, (IM8_k hIM hC rfl ((hh.1.1 52 (by decide) (by decide)).trans z52) (fun k h1 _ => (yc k (Or.inr h1)).trans (h0.1 k (by omega)))), (DR8_k hDR ((congrFun (yc 0 (by decide)) 13).trans (h0.2.2.2.1 0 13 (by decide) (by decide) (by decide))) ((congrFun (yc 0 (by decide)) 14).trans (h0.2.2.2.1 0 14 (by decide) (by decide) (by decide))) ((yc 47 (by decide)).trans (Fw_row h0.2.2.2.1 47 (by decide) (by decide) (by decide))) ((hh.1.2 39 (by decide)).trans (congrFun z49 39)) ((hh.1.2 40 (by decide)).trans (congrFun z49 40)) ((hh.1.1 72 (by decide) (by decide)).trans z72))⟩
  · have g := h0.2.2.2.2.1 hv
    have d := hh.2.2.2.1 hv
    have b51 := d.2
    have rf := g.2
    have q := qk.1 (by have := d.1; omega)
    exact ⟨hph, ⟨frB, (QF_tk qa q.2.2.1 q.2.2.2 b51 (by omega))⟩, (OK8_k hOK (fun j _ => congrFun (b51.trans z51) j) ((hh.1.1 52 (by decide) (by decide)).trans z52) ((hh.1.1 53 (by decide) (by decide)).trans z53) (RX_o hQ).2.2.2.2.2.2.2.2.2.2), ⟨(SA8_r hST.1 rf.2.1 rf.2.2 q d.1 yc z50), (TL8_k hST.2 ((congrFun (yc 1 (by decide)) 8).trans (rf.1 1 8 (by decide) (by decide) (by decide))) ((congrFun (yc 1 (by decide)) 10).trans (rf.1 1 10 (by decide) (by decide) (by decide))) ((yc 5 (by decide)).trans (Fw_row rf.1 5 (by decide) (by decide) (by decide))) (fun j _ => congrFun (b51.trans z51) j))⟩, (IM8_k hIM hC rfl ((hh.1.1 52 (by decide) (by decide)).trans z52) (fun k h1 _ => (yc k (Or.inr h1)).trans (h0.1 k (by omega)))), (DR8_k hDR ((congrFun (yc 0 (by decide)) 13).trans (h0.2.2.2.1 0 13 (by decide) (by decide) (by decide))) ((congrFun (yc 0 (by decide)) 14).trans (h0.2.2.2.1 0 14 (by decide) (by decide) (by decide))) ((yc 47 (by decide)).trans (Fw_row h0.2.2.2.1 47 (by decide) (by decide) (by decide))) ((hh.1.2 39 (by decide)).trans (congrFun z49 39)) ((hh.1.2 40 (by decide)).trans (congrFun z49 40)) ((hh.1.1 72 (by decide) (by decide)).trans z72))⟩
