set_option maxHeartbeats 1000000 in
theorem CF_back {I A B J JA JB : aI1} {R R' : aR1} {S S' : aS1} {a x y : Int} (h : CPF I R) (hC : CI I R S) (h0 : CI A R' S' ∧ (∀ k, 49 ≤ k → k < 73 → A k = I k ∧ JA k = J k ∧ R' k = R k) ∧ Fw [1, 2, 3, 5, 6, 18, 19, 20, 21, 22, 23, 24, 25, 26, 27, 28, 29, 30, 31, 32, 33, 34, 35, 36, 48] [(0, 16)] I A ∧ (¬ (0 ≤ a ∧ a < 2) → x = -1 ∧ RFc I A (-1)) ∧ (¬ (0 ≤ a ∧ a < 2) → R' 7 = R 7 ∧ R' 4 = R 4 ∧ (∀ k, 73 ≤ k → A k = I k ∧ R' k = R k)) ∧ ((0 ≤ a ∧ a < 2) → R 7 a.toNat = none → x = -2 ∧ RFc I A (-2) ∧ R' 7 = R 7 ∧ R' 4 = R 4 ∧ (∀ k, 73 ≤ k → A k = I k ∧ R' k = R k)) ∧ ((0 ≤ a ∧ a < 2) → ∀ c, R 7 a.toNat = some c → x = 0 ∧ Fw [1, 2, 3, 5, 6, 18, 19, 20, 21, 22, 23, 24, 25, 26, 27, 28, 29, 30, 31, 32, 33, 34, 35, 36] [(0, 16)] I A ∧ A 0 16 = 0 ∧ BkC I A R R' c ∧ R' 7 = R 7 ∧ (∀ k, 73 ≤ k → A k = I k ∧ R' k = R k))) (hh : Ch [50, 51] [0, 1] A B ∧ Kp 49 73 JA JB ∧ RX B ∧ (¬ (0 ≤ a ∧ a < 2) → y = -1 ∧ B 51 = A 51) ∧ ((0 ≤ a ∧ a < 2) → (A 53 a.toNat = 0 → y = -2 ∧ B 51 = A 51) ∧ (¬ A 53 a.toNat = 0 → y = 0 ∧ ∀ j : Nat, j < 5117 → B 51 j = A 52 (5117 * a.toNat + j)))) : CPF B R' ∧ x = y := by
  obtain ⟨⟨q8, q15, q12, q5, q6, q7, q11⟩, tb, ol, wn, tr, sr, hi, di, im⟩ := id h
  have yc : ∀ k, k < 49 ∨ 73 ≤ k → B k = A k := Ch_kp hh.1 (by decide)
  have zz : ∀ k, 49 ≤ k → k < 73 → A k = I k := fun k h1 h2 => (h0.2.1 k h1 h2).1
  have w := h0.2.2.1
  have f8_1 : B 8 1 = I 8 1 := (congrFun (yc 8 (by decide)) 1).trans (w 8 1 (by decide) (by decide) (by decide))
  have f0_15 : B 0 15 = I 0 15 := (congrFun (yc 0 (by decide)) 15).trans (w 0 15 (by decide) (by decide) (by decide))
  have f0_12 : B 0 12 = I 0 12 := (congrFun (yc 0 (by decide)) 12).trans (w 0 12 (by decide) (by decide) (by decide))
  have e49 : ∀ j, j ∉ [0, 1] → B 49 j = I 49 j := fun j hj => (hh.1.2 j hj).trans (congrFun (zz 49 (by decide) (by decide)) j)
  have f49_10 := e49 10 (by decide)
  have f49_6 := e49 6 (by decide)
  have f49_33 := e49 33 (by decide)
  have htb : TB5 B := TB5_k tb f8_1 ((yc 9 (by decide)).trans (Fw_row w 9 (by decide) (by decide) (by decide))) ((hh.1.1 55 (by decide) (by decide)).trans (zz 55 (by decide) (by decide)))
  have htr : TR5 B := TR5_k tr f0_12 ((yc 46 (by decide)).trans (Fw_row w 46 (by decide) (by decide) (by decide))) ((hh.1.1 67 (by decide) (by decide)).trans (zz 67 (by decide) (by decide)))
  have hsr : SR B := SR_of sr ((yc 43 (by decide)).trans (Fw_row w 43 (by decide) (by decide) (by decide))) ((yc 45 (by decide)).trans (Fw_row w 45 (by decide) (by decide) (by decide)))
  have same : R' 7 = R 7 → (∀ k, 73 ≤ k → A k = I k) → B 52 = A 52 → B 53 = A 53 → HI5 B R' ∧ DI5 R' ∧ IM5 B R' := fun r7 k73 b52 b53 => by
    refine ⟨fun i hi9 => by rw [r7, b53, zz 53 (by decide) (by decide)]; exact hi i hi9, fun i j hi9 hj9 c9 p1 p2 => di i j hi9 hj9 c9 (by rw [← r7]; exact p1) (by rw [← r7]; exact p2), fun i hi9 c9 hq => ?_⟩
    rw [r7] at hq
    have h73 := (hC.2.2.2 i hi9 c9 hq).1
    rw [yc c9 (by omega), yc (c9 + 1) (by omega), yc (c9 + 5) (by omega), k73 c9 h73, k73 (c9 + 1) (by omega), k73 (c9 + 5) (by omega), b52, zz 52 (by decide) (by decide)]
    exact im i hi9 c9 hq
  have z51 := zz 51 (by decide) (by decide)
  have z53 := zz 53 (by decide) (by decide)
  have b52 : B 52 = A 52 := hh.1.1 52 (by decide) (by decide)
  have b53 : B 53 = A 53 := hh.1.1 53 (by decide) (by decide)
  have keep : ∀ {rs : List Nat} {ws : List (Nat × Nat)}, Fw rs ws I A → 1 ∉ rs → 2 ∉ rs → 6 ∉ rs → (∀ p ∈ ws, p.1 ≠ 1 ∧ p.1 ≠ 2 ∧ p.1 ≠ 6) → B 51 = A 51 → SC5 B ∧ OL5 B ∧ WN5 B := fun v n1 n2 n6 nw b51 => by
    have r1 : B 1 = I 1 := (yc 1 (by decide)).trans (Fw_row v 1 (by decide) n1 (fun p hp => (nw p hp).1))
    have y51 : B 51 = I 51 := b51.trans z51
    have g5 := congrFun r1 5
    have g6 := congrFun r1 6
    have g7 := congrFun r1 7
    have g11 := congrFun r1 11
    have f51_304 := congrFun y51 304
    have f51_305 := congrFun y51 305
    have f51_306 := congrFun y51 306
    have f51_309 := congrFun y51 309
    exact ⟨⟨by omega, by omega, by omega, by omega, by omega, by omega, by omega⟩, OL5_k ol ((yc 2 (by decide)).trans (Fw_row v 2 (by decide) n2 (fun p hp => (nw p hp).2.1))) (fun j _ => congrFun y51 _), WN5_k wn ((yc 6 (by decide)).trans (Fw_row v 6 (by decide) n6 (fun p hp => (nw p hp).2.2))) (fun j _ => congrFun y51 _)⟩
  by_cases hv : 0 ≤ a ∧ a < 2
  · have hd0 := hh.2.2.2.2 hv
    rw [z53] at hd0
    have h4 := hi a.toNat (by omega)
    cases hn : R 7 a.toNat with
    | none =>
      obtain ⟨c1, c2, r7, -, k73⟩ := h0.2.2.2.2.2.1 hv hn
      obtain ⟨d1, d2⟩ := hd0.1 (h4.mp hn)
      obtain ⟨s1, s2, s3⟩ := keep c2.1 (by decide) (by decide) (by decide) (by decide) d2
      obtain ⟨t1, t2, t3⟩ := same r7 (fun k hk => (k73 k hk).1) b52 b53
      exact ⟨⟨s1, htb, s2, s3, htr, hsr, t1, t2, t3⟩, by omega⟩
    | some c0 =>
      obtain ⟨c1, -, -, bc, r7, k73⟩ := h0.2.2.2.2.2.2 hv c0 hn
      obtain ⟨d1, d2⟩ := hd0.2 (fun q => by rw [h4.mpr q] at hn; cases hn)
      obtain ⟨t1, t2, t3⟩ := same r7 (fun k hk => (k73 k hk).1) b52 b53
      obtain ⟨m1, m2, m3, m4, m5, m6⟩ := im a.toNat (by omega) c0 hn
      have z52 := zz 52 (by decide) (by decide)
      have y1 := yc 1 (by decide)
      refine ⟨⟨⟨by omega, by omega, by omega, ?_, ?_, ?_, ?_⟩, htb, fun j hj => ?_, fun j hj => ?_, htr, hsr, t1, t2, t3⟩, by omega⟩
      · rw [d2 304 (by decide), z52, y1, bc.1 5 (by decide) (by decide)]; exact m1
      · rw [d2 305 (by decide), z52, y1, bc.1 6 (by decide) (by decide)]; exact m2
      · rw [d2 306 (by decide), z52, y1, bc.1 7 (by decide) (by decide)]; exact m3
      · rw [d2 309 (by decide), z52, y1, bc.1 11 (by decide) (by decide)]; exact m4
      · rw [yc 2 (by decide), bc.2.1 j hj, d2 (256 + j) (by omega), z52]; exact m5 j hj
      · rw [yc 6 (by decide), bc.2.2.2.2.1 j hj, d2 (288 + j) (by omega), z52]; exact m6 j hj
  · obtain ⟨d1, d2⟩ := hh.2.2.2.1 hv
    have c0 := h0.2.2.2.1 hv
    obtain ⟨r7, -, k73⟩ := h0.2.2.2.2.1 hv
    obtain ⟨s1, s2, s3⟩ := keep c0.2.1 (by decide) (by decide) (by decide) (by decide) d2
    obtain ⟨t1, t2, t3⟩ := same r7 (fun k hk => (k73 k hk).1) b52 b53
    have c1 := c0.1
    exact ⟨⟨s1, htb, s2, s3, htr, hsr, t1, t2, t3⟩, by omega⟩
