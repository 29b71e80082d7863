def SC5 (I : aI1) : Prop := I 8 1 = I 49 10 ∧ I 0 15 = I 49 6 ∧ I 0 12 = I 49 33 ∧ I 1 5 = I 51 304 ∧ I 1 6 = I 51 305 ∧ I 1 7 = I 51 306 ∧ I 1 11 = I 51 309
def TB5 (I : aI1) : Prop := ∀ j : Nat, (j : Int) < I 8 1 → I 9 j = I 55 j % 256 ∧ -128 ≤ I 55 j ∧ I 55 j ≤ 127
def OL5 (I : aI1) : Prop := ∀ j, j < 8 → I 2 j = I 51 (256 + j)
def WN5 (I : aI1) : Prop := ∀ j, j < 16 → I 6 j = I 51 (288 + j)
def TR5 (I : aI1) : Prop := ∀ j : Nat, (j : Int) < I 0 12 → I 46 j = I 67 j
def HI5 (I : aI1) (R : aR1) : Prop := ∀ i, i < 2 → (R 7 i = none ↔ I 53 i = 0)
def DI5 (R : aR1) : Prop := ∀ i j, i < 2 → j < 2 → ∀ c, R 7 i = some c → R 7 j = some c → i = j
def IM5 (I : aI1) (R : aR1) : Prop := ∀ i, i < 2 → ∀ c, R 7 i = some c → I c 5 = I 52 (5117 * i + 304) ∧ I c 6 = I 52 (5117 * i + 305) ∧ I c 7 = I 52 (5117 * i + 306) ∧ I c 11 = I 52 (5117 * i + 309) ∧ (∀ j, j < 8 → I (c + 1) j = I 52 (5117 * i + (256 + j))) ∧ (∀ j, j < 16 → I (c + 5) j = I 52 (5117 * i + (288 + j)))
def CPF (I : aI1) (R : aR1) : Prop := SC5 I ∧ TB5 I ∧ OL5 I ∧ WN5 I ∧ TR5 I ∧ SR I ∧ HI5 I R ∧ DI5 R ∧ IM5 I R
theorem TB5_k {I B : aI1} (h : TB5 I) (h8 : B 8 1 = I 8 1) (h9 : B 9 = I 9) (h55 : B 55 = I 55) : TB5 B := fun j hj => by rw [h9, h55]; exact h j (by omega)
theorem TB5_0 {B : aI1} (h8 : B 8 1 = 0) : TB5 B := fun j hj => absurd hj (by omega)
theorem OL5_k {I B : aI1} (h : OL5 I) (h2 : B 2 = I 2) (h51 : ∀ j, j < 8 → B 51 (256 + j) = I 51 (256 + j)) : OL5 B := fun j hj => by rw [h2, h51 j hj]; exact h j hj
theorem WN5_k {I B : aI1} (h : WN5 I) (h6 : B 6 = I 6) (h51 : ∀ j, j < 16 → B 51 (288 + j) = I 51 (288 + j)) : WN5 B := fun j hj => by rw [h6, h51 j hj]; exact h j hj
theorem TR5_k {I B : aI1} (h : TR5 I) (h0 : B 0 12 = I 0 12) (h46 : B 46 = I 46) (h67 : B 67 = I 67) : TR5 B := fun j hj => by rw [h46, h67]; exact h j (by omega)
theorem CPF_g {I B : aI1} {R : aR1} {S : aS1} (h : CPF I R) (hC : CI I R S) (s : SC5 B) (t : TB5 B) (o : OL5 B) (w : WN5 B) (tr : TR5 B) (sr : SR B) (r52 : B 52 = I 52) (r53 : B 53 = I 53) (hc : ∀ k, 73 ≤ k → B k = I k) : CPF B R := by
  obtain ⟨-, -, -, -, -, -, hi, di, im⟩ := h
  refine ⟨s, t, o, w, tr, sr, fun i hi9 => by rw [r53]; exact hi i hi9, di, fun i hi9 c hq => ?_⟩
  have h73 := (hC.2.2.2 i hi9 c hq).1
  rw [hc c h73, hc (c + 1) (by omega), hc (c + 5) (by omega), r52]
  exact im i hi9 c hq
/-! bytes -/
theorem iand255 (x : Int) : i_and x 255 = x % 256 := by
  have hb : (Int32.ofInt x &&& Int32.ofInt 255).toBitVec.toNat = (Int32.ofInt x).toBitVec.toNat % 256 := by
    show ((Int32.ofInt x).toBitVec &&& (Int32.ofInt 255).toBitVec).toNat = _
    rw [BitVec.toNat_and]
    exact Nat.and_two_pow_sub_one_eq_mod _ 8
  have hn : ((Int32.ofInt x).toBitVec.toNat : Int) % 256 = x % 256 := by
    have h1 : (Int32.ofInt x).toInt = w32 x := rfl
    have h2 := BitVec.toInt_eq_toNat_cond (Int32.ofInt x).toBitVec
    have h3 : (Int32.ofInt x).toBitVec.toInt = w32 x := rfl
    rw [h3, w32_mod] at h2
    split at h2 <;> omega
  have h4 := BitVec.toInt_eq_toNat_cond (Int32.ofInt x &&& Int32.ofInt 255).toBitVec
  show (Int32.ofInt x &&& Int32.ofInt 255).toBitVec.toInt = _
  rw [h4, hb]
  have h5 := Nat.mod_lt (Int32.ofInt x).toBitVec.toNat (show 256 > 0 by decide)
  rw [if_pos (by omega)]
  omega
theorem by8_e (a : Int) {q : Nat} (hq : q < 4) : by8 a q = i_b (i_shr a (24 - 8 * (q : Int))) % 256 ∧ -128 ≤ i_b (i_shr a (24 - 8 * (q : Int))) ∧ i_b (i_shr a (24 - 8 * (q : Int))) ≤ 127 := by
  have hib : ∀ y : Int, i_b y = (w32 y).bmod 256 := fun y => by
    show (Int32.ofInt y).toInt8.toInt32.toInt = _
    rw [Int8.toInt_toInt32, Int32.toInt_toInt8]
    rfl
  have hbm : ∀ y : Int, y.bmod 256 % 256 = y % 256 ∧ -128 ≤ y.bmod 256 ∧ y.bmod 256 ≤ 127 := fun y => by
    have h1 := Int.le_bmod (x := y) (m := 256) (by decide)
    have h2 := Int.bmod_lt (x := y) (m := 256) (by decide)
    have h3 : y.bmod 256 % 256 = y % 256 := Int.bmod_emod
    omega
  have hN := BitVec.toInt_eq_toNat_cond (Int32.ofInt a).toBitVec
  have hN2 := (Int32.ofInt a).toBitVec.isLt
  have key : ∀ (s : Int) (k : Nat), (k = 0 ∨ k = 8 ∨ k = 16 ∨ k = 24) → ((Int32.ofInt s &&& 31).toBitVec.smod 32).toNat = k → (((Int32.ofInt s).toUInt32 &&& Int32.toUInt32 31).toBitVec % 32).toNat = k → i_and (i_ushr a s) 255 = i_b (i_shr a s) % 256 ∧ -128 ≤ i_b (i_shr a s) ∧ i_b (i_shr a s) ≤ 127 := fun s k hk h1 h2 => by
    have e1 : i_shr a s = (Int32.ofInt a).toInt >>> k := pk_shr (Int32.ofInt a) (Int32.ofInt s &&& 31) k h1
    have e2 := pk_ushr (Int32.ofInt a) (Int32.ofInt s) k h2
    have e3 : w32 (i_shr a s) = i_shr a s := by unfold w32 i_shr; rw [n_of]
    rw [iand255, hib, e3]
    have h4 := hbm (i_shr a s)
    refine ⟨?_, h4.2⟩
    rw [h4.1, e1, Int.shiftRight_eq_div_pow]
    have e4 : i_ushr a s % 256 = (((Int32.ofInt a).toBitVec.toNat / 2 ^ k : Nat) : Int) % 256 := by
      have h5 := BitVec.toInt_eq_toNat_cond ((Int32.ofInt a).toUInt32 >>> ((Int32.ofInt s).toUInt32 &&& Int32.toUInt32 31)).toInt32.toBitVec
      rw [e2] at h5
      show ((Int32.ofInt a).toUInt32 >>> ((Int32.ofInt s).toUInt32 &&& Int32.toUInt32 31)).toInt32.toBitVec.toInt % 256 = _
      rw [h5]
      split <;> omega
    rw [e4]
    have h6 : (Int32.ofInt a).toInt = (Int32.ofInt a).toBitVec.toInt := rfl
    rw [h6, hN]
    rcases hk with rfl | rfl | rfl | rfl
    · split <;> simp <;> omega
    · split <;> simp <;> omega
    · split <;> simp <;> omega
    · split <;> simp <;> omega
  unfold by8
  rcases (show q = 0 ∨ q = 1 ∨ q = 2 ∨ q = 3 by omega) with rfl | rfl | rfl | rfl
  · exact key 24 24 (by decide) (by decide) (by decide)
  · exact key 16 16 (by decide) (by decide) (by decide)
  · exact key 8 8 (by decide) (by decide) (by decide)
  · exact key 0 0 (by decide) (by decide) (by decide)
set_option maxHeartbeats 1000000 in
theorem CF_lamps {I A B J JA JB : aI1} {R : aR1} {S : aS1} {a x y : Int} (h : CPF I R) (hC : CI I R S) (h0 : Kp 0 49 I A ∧ Kp 0 49 J JA ∧ CX A ∧ Fw [2, 3, 18, 19, 20, 21, 22, 23, 24, 25, 26, 27, 28, 29, 30, 31, 32, 33, 34, 35, 36, 48] [(0, 16), (1, 5), (1, 7), (1, 8), (1, 10), (1, 11)] I A ∧ (¬ (1 ≤ a ∧ a ≤ 8) → x = -1 ∧ RFc I A (-1)) ∧ ((1 ≤ a ∧ a ≤ 8) → x = I 1 5 ∧ Fw [2, 3, 18, 19, 20, 21, 22, 23, 24, 25, 26, 27, 28, 29, 30, 31, 32, 33, 34, 35, 36] [(0, 16), (1, 5), (1, 7), (1, 8), (1, 10), (1, 11)] I A ∧ A 1 5 = a ∧ A 1 7 = 0 ∧ (∀ j, j < 8 → A 2 j = 1) ∧ A 0 16 = 0 ∧ A 1 8 = 0 ∧ A 1 10 = 0 ∧ A 1 11 = 0 ∧ (∀ s, s < 256 → A 3 s = -1))) (hh : Ch [50, 51] [0, 1] A B ∧ Kp 49 73 JA JB ∧ RX B ∧ (¬ (1 ≤ a ∧ a ≤ 8) → y = -1 ∧ B 51 = A 51) ∧ ((1 ≤ a ∧ a ≤ 8) → y = A 51 304 ∧ B 51 304 = a ∧ B 51 306 = 0 ∧ B 51 307 = 0 ∧ B 51 308 = 0 ∧ B 51 309 = 0 ∧ (∀ j, j < 8 → B 51 (256 + j) = 1) ∧ (∀ s, s < 256 → B 51 s = -1) ∧ (∀ j : Nat, 264 ≤ j → j ≠ 304 → j ≠ 306 → j ≠ 307 → j ≠ 308 → j ≠ 309 → B 51 j = A 51 j))) : CPF B R ∧ x = y := by
  obtain ⟨⟨q8, q15, q12, q5, q6, q7, q11⟩, tb, ol, wn, tr, sr, hi, di, im⟩ := id h
  have yc : ∀ k, k < 49 ∨ 73 ≤ k → B k = A k := Ch_kp hh.1 (by decide)
  have z51 : A 51 = I 51 := h0.1 51 (by decide)
  have x5 := XI_o hC.2.1.1
  by_cases hv : (1 ≤ a ∧ a ≤ 8)
  · obtain ⟨c1, -, c2, c3, c4, -, -, -, c11, -⟩ := h0.2.2.2.2.2 hv
    obtain ⟨d1, d2, d3, d4, d5, d6, d7, d8, d9⟩ := hh.2.2.2.2 hv
    have d305 := d9 305 (by decide) (by decide) (by decide) (by decide) (by decide) (by decide)
    have z304 : A 51 304 = I 51 304 := congrFun z51 304
    have z305 : A 51 305 = I 51 305 := congrFun z51 305
    have z306 : A 51 306 = I 51 306 := congrFun z51 306
    have z309 : A 51 309 = I 51 309 := congrFun z51 309
    have f8_1 : B 8 1 = I 8 1 := ((congrFun (yc 8 (by decide)) 1).trans (h0.2.2.2.1 8 1 (by decide) (by decide) (by decide)))
    have f0_15 : B 0 15 = I 0 15 := ((congrFun (yc 0 (by decide)) 15).trans (h0.2.2.2.1 0 15 (by decide) (by decide) (by decide)))
    have f0_12 : B 0 12 = I 0 12 := ((congrFun (yc 0 (by decide)) 12).trans (h0.2.2.2.1 0 12 (by decide) (by decide) (by decide)))
    have g1_5 : B 1 5 = A 1 5 := congrFun (yc 1 (by decide)) 5
    have f1_6 : B 1 6 = I 1 6 := ((congrFun (yc 1 (by decide)) 6).trans (h0.2.2.2.1 1 6 (by decide) (by decide) (by decide)))
    have g1_7 : B 1 7 = A 1 7 := congrFun (yc 1 (by decide)) 7
    have g1_11 : B 1 11 = A 1 11 := congrFun (yc 1 (by decide)) 11
    have e49_10 : A 49 10 = I 49 10 := congrFun (h0.1 49 (by decide)) 10
    have f49_10 : B 49 10 = A 49 10 := hh.1.2 10 (by decide)
    have e49_6 : A 49 6 = I 49 6 := congrFun (h0.1 49 (by decide)) 6
    have f49_6 : B 49 6 = A 49 6 := hh.1.2 6 (by decide)
    have e49_33 : A 49 33 = I 49 33 := congrFun (h0.1 49 (by decide)) 33
    have f49_33 : B 49 33 = A 49 33 := hh.1.2 33 (by decide)
    exact ⟨CPF_g h hC ⟨by omega, by omega, by omega, by omega, by omega, by omega, by omega⟩ (TB5_k tb f8_1 ((yc 9 (by decide)).trans (Fw_row h0.2.2.2.1 9 (by decide) (by decide) (by decide))) ((hh.1.1 55 (by decide) (by decide)).trans (h0.1 55 (by decide)))) (fun j hj => by rw [yc 2 (by decide), c4 j hj, d7 j hj]) (WN5_k wn ((yc 6 (by decide)).trans (Fw_row h0.2.2.2.1 6 (by decide) (by decide) (by decide))) (fun j hj => (d9 _ (by omega) (by omega) (by omega) (by omega) (by omega) (by omega)).trans (congrFun z51 _))) (TR5_k tr f0_12 ((yc 46 (by decide)).trans (Fw_row h0.2.2.2.1 46 (by decide) (by decide) (by decide))) ((hh.1.1 67 (by decide) (by decide)).trans (h0.1 67 (by decide)))) (SR_of sr ((yc 43 (by decide)).trans (Fw_row h0.2.2.2.1 43 (by decide) (by decide) (by decide))) ((yc 45 (by decide)).trans (Fw_row h0.2.2.2.1 45 (by decide) (by decide) (by decide)))) ((hh.1.1 52 (by decide) (by decide)).trans (h0.1 52 (by decide))) ((hh.1.1 53 (by decide) (by decide)).trans (h0.1 53 (by decide))) (fun k hk => (yc k (by omega)).trans (h0.1 k (by omega))), by omega⟩
  · have hb := h0.2.2.2.2.1 hv
    have hd := hh.2.2.2.1 hv
    have f8_1 : B 8 1 = I 8 1 := ((congrFun (yc 8 (by decide)) 1).trans (hb.2.1 8 1 (by decide) (by decide) (by decide)))
    have f0_15 : B 0 15 = I 0 15 := ((congrFun (yc 0 (by decide)) 15).trans (hb.2.1 0 15 (by decide) (by decide) (by decide)))
    have f0_12 : B 0 12 = I 0 12 := ((congrFun (yc 0 (by decide)) 12).trans (hb.2.1 0 12 (by decide) (by decide) (by decide)))
    have f1_5 : B 1 5 = I 1 5 := ((congrFun (yc 1 (by decide)) 5).trans (hb.2.1 1 5 (by decide) (by decide) (by decide)))
    have f1_6 : B 1 6 = I 1 6 := ((congrFun (yc 1 (by decide)) 6).trans (hb.2.1 1 6 (by decide) (by decide) (by decide)))
    have f1_7 : B 1 7 = I 1 7 := ((congrFun (yc 1 (by decide)) 7).trans (hb.2.1 1 7 (by decide) (by decide) (by decide)))
    have f1_11 : B 1 11 = I 1 11 := ((congrFun (yc 1 (by decide)) 11).trans (hb.2.1 1 11 (by decide) (by decide) (by decide)))
    have e49_10 : A 49 10 = I 49 10 := congrFun (h0.1 49 (by decide)) 10
    have f49_10 : B 49 10 = A 49 10 := hh.1.2 10 (by decide)
    have e49_6 : A 49 6 = I 49 6 := congrFun (h0.1 49 (by decide)) 6
    have f49_6 : B 49 6 = A 49 6 := hh.1.2 6 (by decide)
    have e49_33 : A 49 33 = I 49 33 := congrFun (h0.1 49 (by decide)) 33
    have f49_33 : B 49 33 = A 49 33 := hh.1.2 33 (by decide)
    have y51 : B 51 = I 51 := hd.2.trans z51
    have f51_304 : B 51 304 = I 51 304 := congrFun y51 304
    have f51_305 : B 51 305 = I 51 305 := congrFun y51 305
    have f51_306 : B 51 306 = I 51 306 := congrFun y51 306
    have f51_309 : B 51 309 = I 51 309 := congrFun y51 309
    exact ⟨CPF_g h hC ⟨by omega, by omega, by omega, by omega, by omega, by omega, by omega⟩ (TB5_k tb f8_1 ((yc 9 (by decide)).trans (Fw_row hb.2.1 9 (by decide) (by decide) (by decide))) ((hh.1.1 55 (by decide) (by decide)).trans (h0.1 55 (by decide)))) (OL5_k ol ((yc 2 (by decide)).trans (Fw_row hb.2.1 2 (by decide) (by decide) (by decide))) (fun j _ => congrFun y51 _)) (WN5_k wn ((yc 6 (by decide)).trans (Fw_row hb.2.1 6 (by decide) (by decide) (by decide))) (fun j _ => congrFun y51 _)) (TR5_k tr f0_12 ((yc 46 (by decide)).trans (Fw_row hb.2.1 46 (by decide) (by decide) (by decide))) ((hh.1.1 67 (by decide) (by decide)).trans (h0.1 67 (by decide)))) (SR_of sr ((yc 43 (by decide)).trans (Fw_row hb.2.1 43 (by decide) (by decide) (by decide))) ((yc 45 (by decide)).trans (Fw_row hb.2.1 45 (by decide) (by decide) (by decide)))) ((hh.1.1 52 (by decide) (by decide)).trans (h0.1 52 (by decide))) ((hh.1.1 53 (by decide) (by decide)).trans (h0.1 53 (by decide))) (fun k hk => (yc k (by omega)).trans (h0.1 k (by omega))), by omega⟩
set_option maxHeartbeats 1000000 in
theorem CF_news {I A B J JA JB : aI1} {R : aR1} {S : aS1} {a x y : Int} (h : CPF I R) (hC : CI I R S) (h0 : Kp 0 49 I A ∧ Kp 0 49 J JA ∧ CX A ∧ Fw [3, 18, 19, 20, 21, 22, 23, 24, 25, 26, 27, 28, 29, 30, 31, 32, 33, 34, 35, 36, 48] [(0, 16), (1, 6), (1, 8), (1, 10), (1, 11)] I A ∧ (¬ (2 ≤ a ∧ a ≤ 8) → x = -1 ∧ RFc I A (-1)) ∧ ((2 ≤ a ∧ a ≤ 8) → x = I 1 6 ∧ Fw [3, 18, 19, 20, 21, 22, 23, 24, 25, 26, 27, 28, 29, 30, 31, 32, 33, 34, 35, 36] [(0, 16), (1, 6), (1, 8), (1, 10), (1, 11)] I A ∧ A 1 6 = a ∧ A 0 16 = 0 ∧ A 1 8 = 0 ∧ A 1 10 = 0 ∧ A 1 11 = 0 ∧ (∀ s, s < 256 → A 3 s = -1))) (hh : Ch [50, 51] [0, 1] A B ∧ Kp 49 73 JA JB ∧ RX B ∧ (¬ (2 ≤ a ∧ a ≤ 8) → y = -1 ∧ B 51 = A 51) ∧ ((2 ≤ a ∧ a ≤ 8) → y = A 51 305 ∧ B 51 = EMr (up1 (A 51) 305 a))) : CPF B R ∧ x = y := by
  obtain ⟨⟨q8, q15, q12, q5, q6, q7, q11⟩, tb, ol, wn, tr, sr, hi, di, im⟩ := id h
  have yc : ∀ k, k < 49 ∨ 73 ≤ k → B k = A k := Ch_kp hh.1 (by decide)
  have z51 : A 51 = I 51 := h0.1 51 (by decide)
  have x5 := XI_o hC.2.1.1
  by_cases hv : (2 ≤ a ∧ a ≤ 8)
  · obtain ⟨c1, -, c2, -, -, -, c11, -⟩ := h0.2.2.2.2.2 hv
    obtain ⟨d1, d2⟩ := hh.2.2.2.2 hv
    have z304 : A 51 304 = I 51 304 := congrFun z51 304
    have z305 : A 51 305 = I 51 305 := congrFun z51 305
    have z306 : A 51 306 = I 51 306 := congrFun z51 306
    have z309 : A 51 309 = I 51 309 := congrFun z51 309
    have f8_1 : B 8 1 = I 8 1 := ((congrFun (yc 8 (by decide)) 1).trans (h0.2.2.2.1 8 1 (by decide) (by decide) (by decide)))
    have f0_15 : B 0 15 = I 0 15 := ((congrFun (yc 0 (by decide)) 15).trans (h0.2.2.2.1 0 15 (by decide) (by decide) (by decide)))
    have f0_12 : B 0 12 = I 0 12 := ((congrFun (yc 0 (by decide)) 12).trans (h0.2.2.2.1 0 12 (by decide) (by decide) (by decide)))
    have f1_5 : B 1 5 = I 1 5 := ((congrFun (yc 1 (by decide)) 5).trans (h0.2.2.2.1 1 5 (by decide) (by decide) (by decide)))
    have g1_6 : B 1 6 = A 1 6 := congrFun (yc 1 (by decide)) 6
    have f1_7 : B 1 7 = I 1 7 := ((congrFun (yc 1 (by decide)) 7).trans (h0.2.2.2.1 1 7 (by decide) (by decide) (by decide)))
    have g1_11 : B 1 11 = A 1 11 := congrFun (yc 1 (by decide)) 11
    have e49_10 : A 49 10 = I 49 10 := congrFun (h0.1 49 (by decide)) 10
    have f49_10 : B 49 10 = A 49 10 := hh.1.2 10 (by decide)
    have e49_6 : A 49 6 = I 49 6 := congrFun (h0.1 49 (by decide)) 6
    have f49_6 : B 49 6 = A 49 6 := hh.1.2 6 (by decide)
    have e49_33 : A 49 33 = I 49 33 := congrFun (h0.1 49 (by decide)) 33
    have f49_33 : B 49 33 = A 49 33 := hh.1.2 33 (by decide)
    have v304 : B 51 304 = I 51 304 := by rw [d2]; exact (EMr_o (by omega) (by omega)).trans ((up1_n _ _ (by omega)).trans (congrFun z51 304))
    have v305 : B 51 305 = a := by rw [d2]; exact (EMr_o (by decide) (by decide)).trans (up1_s _ _ _)
    have v306 : B 51 306 = I 51 306 := by rw [d2]; exact (EMr_o (by omega) (by omega)).trans ((up1_n _ _ (by omega)).trans (congrFun z51 306))
    have v309 : B 51 309 = 0 := by rw [d2]; exact EMr_z (by decide)
    exact ⟨CPF_g h hC ⟨by omega, by omega, by omega, by omega, by omega, by omega, by omega⟩ (TB5_k tb f8_1 ((yc 9 (by decide)).trans (Fw_row h0.2.2.2.1 9 (by decide) (by decide) (by decide))) ((hh.1.1 55 (by decide) (by decide)).trans (h0.1 55 (by decide)))) (OL5_k ol ((yc 2 (by decide)).trans (Fw_row h0.2.2.2.1 2 (by decide) (by decide) (by decide))) (fun j hj => by rw [d2]; exact (EMr_o (by omega) (by omega)).trans ((up1_n _ _ (by omega)).trans (congrFun z51 _)))) (WN5_k wn ((yc 6 (by decide)).trans (Fw_row h0.2.2.2.1 6 (by decide) (by decide) (by decide))) (fun j hj => by rw [d2]; exact (EMr_o (by omega) (by omega)).trans ((up1_n _ _ (by omega)).trans (congrFun z51 _)))) (TR5_k tr f0_12 ((yc 46 (by decide)).trans (Fw_row h0.2.2.2.1 46 (by decide) (by decide) (by decide))) ((hh.1.1 67 (by decide) (by decide)).trans (h0.1 67 (by decide)))) (SR_of sr ((yc 43 (by decide)).trans (Fw_row h0.2.2.2.1 43 (by decide) (by decide) (by decide))) ((yc 45 (by decide)).trans (Fw_row h0.2.2.2.1 45 (by decide) (by decide) (by decide)))) ((hh.1.1 52 (by decide) (by decide)).trans (h0.1 52 (by decide))) ((hh.1.1 53 (by decide) (by decide)).trans (h0.1 53 (by decide))) (fun k hk => (yc k (by omega)).trans (h0.1 k (by omega))), by omega⟩
  · have hb := h0.2.2.2.2.1 hv
    have hd := hh.2.2.2.1 hv
    have f8_1 : B 8 1 = I 8 1 := ((congrFun (yc 8 (by decide)) 1).trans (hb.2.1 8 1 (by decide) (by decide) (by decide)))
    have f0_15 : B 0 15 = I 0 15 := ((congrFun (yc 0 (by decide)) 15).trans (hb.2.1 0 15 (by decide) (by decide) (by decide)))
    have f0_12 : B 0 12 = I 0 12 := ((congrFun (yc 0 (by decide)) 12).trans (hb.2.1 0 12 (by decide) (by decide) (by decide)))
    have f1_5 : B 1 5 = I 1 5 := ((congrFun (yc 1 (by decide)) 5).trans (hb.2.1 1 5 (by decide) (by decide) (by decide)))
    have f1_6 : B 1 6 = I 1 6 := ((congrFun (yc 1 (by decide)) 6).trans (hb.2.1 1 6 (by decide) (by decide) (by decide)))
    have f1_7 : B 1 7 = I 1 7 := ((congrFun (yc 1 (by decide)) 7).trans (hb.2.1 1 7 (by decide) (by decide) (by decide)))
    have f1_11 : B 1 11 = I 1 11 := ((congrFun (yc 1 (by decide)) 11).trans (hb.2.1 1 11 (by decide) (by decide) (by decide)))
    have e49_10 : A 49 10 = I 49 10 := congrFun (h0.1 49 (by decide)) 10
    have f49_10 : B 49 10 = A 49 10 := hh.1.2 10 (by decide)
    have e49_6 : A 49 6 = I 49 6 := congrFun (h0.1 49 (by decide)) 6
    have f49_6 : B 49 6 = A 49 6 := hh.1.2 6 (by decide)
    have e49_33 : A 49 33 = I 49 33 := congrFun (h0.1 49 (by decide)) 33
    have f49_33 : B 49 33 = A 49 33 := hh.1.2 33 (by decide)
    have y51 : B 51 = I 51 := hd.2.trans z51
    have f51_304 : B 51 304 = I 51 304 := congrFun y51 304
    have f51_305 : B 51 305 = I 51 305 := congrFun y51 305
    have f51_306 : B 51 306 = I 51 306 := congrFun y51 306
    have f51_309 : B 51 309 = I 51 309 := congrFun y51 309
    exact ⟨CPF_g h hC ⟨by omega, by omega, by omega, by omega, by omega, by omega, by omega⟩ (TB5_k tb f8_1 ((yc 9 (by decide)).trans (Fw_row hb.2.1 9 (by decide) (by decide) (by decide))) ((hh.1.1 55 (by decide) (by decide)).trans (h0.1 55 (by decide)))) (OL5_k ol ((yc 2 (by decide)).trans (Fw_row hb.2.1 2 (by decide) (by decide) (by decide))) (fun j _ => congrFun y51 _)) (WN5_k wn ((yc 6 (by decide)).trans (Fw_row hb.2.1 6 (by decide) (by decide) (by decide))) (fun j _ => congrFun y51 _)) (TR5_k tr f0_12 ((yc 46 (by decide)).trans (Fw_row hb.2.1 46 (by decide) (by decide) (by decide))) ((hh.1.1 67 (by decide) (by decide)).trans (h0.1 67 (by decide)))) (SR_of sr ((yc 43 (by decide)).trans (Fw_row hb.2.1 43 (by decide) (by decide) (by decide))) ((yc 45 (by decide)).trans (Fw_row hb.2.1 45 (by decide) (by decide) (by decide)))) ((hh.1.1 52 (by decide) (by decide)).trans (h0.1 52 (by decide))) ((hh.1.1 53 (by decide) (by decide)).trans (h0.1 53 (by decide))) (fun k hk => (yc k (by omega)).trans (h0.1 k (by omega))), by omega⟩
set_option maxHeartbeats 1000000 in
theorem CF_oil {I A B J JA JB : aI1} {R : aR1} {S : aS1} {a b x y : Int} (h : CPF I R) (hC : CI I R S) (h0 : Kp 0 49 I A ∧ Kp 0 49 J JA ∧ CX A ∧ Fw [2, 18, 33, 48] [(0, 16)] I A ∧ (¬ (0 ≤ a ∧ a < I 1 5 ∧ 0 ≤ b ∧ b ≤ 99) → x = -1 ∧ RFc I A (-1)) ∧ ((0 ≤ a ∧ a < I 1 5 ∧ 0 ≤ b ∧ b ≤ 99) → x = I 2 a.toNat ∧ Fw [2, 18, 33] [(0, 16)] I A ∧ A 0 16 = 0 ∧ A 2 = up1 (I 2) a.toNat b)) (hh : Ch [50, 51] [0, 1] A B ∧ Kp 49 73 JA JB ∧ RX B ∧ (¬ (0 ≤ a ∧ a < A 51 304 ∧ 0 ≤ b ∧ b ≤ 99) → y = -1 ∧ B 51 = A 51) ∧ ((0 ≤ a ∧ a < A 51 304 ∧ 0 ≤ b ∧ b ≤ 99) → y = A 51 (256 + a.toNat) ∧ B 51 = up1 (A 51) (256 + a.toNat) b)) : CPF B R ∧ x = y := by
  obtain ⟨⟨q8, q15, q12, q5, q6, q7, q11⟩, tb, ol, wn, tr, sr, hi, di, im⟩ := id h
  have yc : ∀ k, k < 49 ∨ 73 ≤ k → B k = A k := Ch_kp hh.1 (by decide)
  have z51 : A 51 = I 51 := h0.1 51 (by decide)
  have x5 := XI_o hC.2.1.1
  have e304 : A 51 304 = I 1 5 := by rw [z51, ← q5]
  have hd0 := hh.2.2.2
  rw [e304] at hd0
  by_cases hv : (0 ≤ a ∧ a < I 1 5 ∧ 0 ≤ b ∧ b ≤ 99)
  · obtain ⟨c1, -, -, c2⟩ := h0.2.2.2.2.2 hv
    obtain ⟨d1, d2⟩ := hd0.2 hv
    have f8_1 : B 8 1 = I 8 1 := ((congrFun (yc 8 (by decide)) 1).trans (h0.2.2.2.1 8 1 (by decide) (by decide) (by decide)))
    have f0_15 : B 0 15 = I 0 15 := ((congrFun (yc 0 (by decide)) 15).trans (h0.2.2.2.1 0 15 (by decide) (by decide) (by decide)))
    have f0_12 : B 0 12 = I 0 12 := ((congrFun (yc 0 (by decide)) 12).trans (h0.2.2.2.1 0 12 (by decide) (by decide) (by decide)))
    have f1_5 : B 1 5 = I 1 5 := ((congrFun (yc 1 (by decide)) 5).trans (h0.2.2.2.1 1 5 (by decide) (by decide) (by decide)))
    have f1_6 : B 1 6 = I 1 6 := ((congrFun (yc 1 (by decide)) 6).trans (h0.2.2.2.1 1 6 (by decide) (by decide) (by decide)))
    have f1_7 : B 1 7 = I 1 7 := ((congrFun (yc 1 (by decide)) 7).trans (h0.2.2.2.1 1 7 (by decide) (by decide) (by decide)))
    have f1_11 : B 1 11 = I 1 11 := ((congrFun (yc 1 (by decide)) 11).trans (h0.2.2.2.1 1 11 (by decide) (by decide) (by decide)))
    have e49_10 : A 49 10 = I 49 10 := congrFun (h0.1 49 (by decide)) 10
    have f49_10 : B 49 10 = A 49 10 := hh.1.2 10 (by decide)
    have e49_6 : A 49 6 = I 49 6 := congrFun (h0.1 49 (by decide)) 6
    have f49_6 : B 49 6 = A 49 6 := hh.1.2 6 (by decide)
    have e49_33 : A 49 33 = I 49 33 := congrFun (h0.1 49 (by decide)) 33
    have f49_33 : B 49 33 = A 49 33 := hh.1.2 33 (by decide)
    have v304 : B 51 304 = I 51 304 := by rw [d2]; exact (up1_n _ _ (by omega)).trans (congrFun z51 304)
    have v305 : B 51 305 = I 51 305 := by rw [d2]; exact (up1_n _ _ (by omega)).trans (congrFun z51 305)
    have v306 : B 51 306 = I 51 306 := by rw [d2]; exact (up1_n _ _ (by omega)).trans (congrFun z51 306)
    have v309 : B 51 309 = I 51 309 := by rw [d2]; exact (up1_n _ _ (by omega)).trans (congrFun z51 309)
    exact ⟨CPF_g h hC ⟨by omega, by omega, by omega, by omega, by omega, by omega, by omega⟩ (TB5_k tb f8_1 ((yc 9 (by decide)).trans (Fw_row h0.2.2.2.1 9 (by decide) (by decide) (by decide))) ((hh.1.1 55 (by decide) (by decide)).trans (h0.1 55 (by decide)))) (fun j hj => by
        rw [yc 2 (by decide), c2, d2, z51]
        by_cases e9 : j = a.toNat
        · rw [e9, up1_s, up1_s]
        · rw [up1_n _ _ e9, up1_n _ _ (by omega)]; exact ol j hj) (WN5_k wn ((yc 6 (by decide)).trans (Fw_row h0.2.2.2.1 6 (by decide) (by decide) (by decide))) (fun j hj => by rw [d2]; exact (up1_n _ _ (by omega)).trans (congrFun z51 _))) (TR5_k tr f0_12 ((yc 46 (by decide)).trans (Fw_row h0.2.2.2.1 46 (by decide) (by decide) (by decide))) ((hh.1.1 67 (by decide) (by decide)).trans (h0.1 67 (by decide)))) (SR_of sr ((yc 43 (by decide)).trans (Fw_row h0.2.2.2.1 43 (by decide) (by decide) (by decide))) ((yc 45 (by decide)).trans (Fw_row h0.2.2.2.1 45 (by decide) (by decide) (by decide)))) ((hh.1.1 52 (by decide) (by decide)).trans (h0.1 52 (by decide))) ((hh.1.1 53 (by decide) (by decide)).trans (h0.1 53 (by decide))) (fun k hk => (yc k (by omega)).trans (h0.1 k (by omega))), by rw [c1, d1, z51]; exact ol _ (by omega)⟩
  · have hb := h0.2.2.2.2.1 hv
    have hd := hd0.1 hv
    have f8_1 : B 8 1 = I 8 1 := ((congrFun (yc 8 (by decide)) 1).trans (hb.2.1 8 1 (by decide) (by decide) (by decide)))
    have f0_15 : B 0 15 = I 0 15 := ((congrFun (yc 0 (by decide)) 15).trans (hb.2.1 0 15 (by decide) (by decide) (by decide)))
    have f0_12 : B 0 12 = I 0 12 := ((congrFun (yc 0 (by decide)) 12).trans (hb.2.1 0 12 (by decide) (by decide) (by decide)))
    have f1_5 : B 1 5 = I 1 5 := ((congrFun (yc 1 (by decide)) 5).trans (hb.2.1 1 5 (by decide) (by decide) (by decide)))
    have f1_6 : B 1 6 = I 1 6 := ((congrFun (yc 1 (by decide)) 6).trans (hb.2.1 1 6 (by decide) (by decide) (by decide)))
    have f1_7 : B 1 7 = I 1 7 := ((congrFun (yc 1 (by decide)) 7).trans (hb.2.1 1 7 (by decide) (by decide) (by decide)))
    have f1_11 : B 1 11 = I 1 11 := ((congrFun (yc 1 (by decide)) 11).trans (hb.2.1 1 11 (by decide) (by decide) (by decide)))
    have e49_10 : A 49 10 = I 49 10 := congrFun (h0.1 49 (by decide)) 10
    have f49_10 : B 49 10 = A 49 10 := hh.1.2 10 (by decide)
    have e49_6 : A 49 6 = I 49 6 := congrFun (h0.1 49 (by decide)) 6
    have f49_6 : B 49 6 = A 49 6 := hh.1.2 6 (by decide)
    have e49_33 : A 49 33 = I 49 33 := congrFun (h0.1 49 (by decide)) 33
    have f49_33 : B 49 33 = A 49 33 := hh.1.2 33 (by decide)
    have y51 : B 51 = I 51 := hd.2.trans z51
    have f51_304 : B 51 304 = I 51 304 := congrFun y51 304
    have f51_305 : B 51 305 = I 51 305 := congrFun y51 305
    have f51_306 : B 51 306 = I 51 306 := congrFun y51 306
    have f51_309 : B 51 309 = I 51 309 := congrFun y51 309
    exact ⟨CPF_g h hC ⟨by omega, by omega, by omega, by omega, by omega, by omega, by omega⟩ (TB5_k tb f8_1 ((yc 9 (by decide)).trans (Fw_row hb.2.1 9 (by decide) (by decide) (by decide))) ((hh.1.1 55 (by decide) (by decide)).trans (h0.1 55 (by decide)))) (OL5_k ol ((yc 2 (by decide)).trans (Fw_row hb.2.1 2 (by decide) (by decide) (by decide))) (fun j _ => congrFun y51 _)) (WN5_k wn ((yc 6 (by decide)).trans (Fw_row hb.2.1 6 (by decide) (by decide) (by decide))) (fun j _ => congrFun y51 _)) (TR5_k tr f0_12 ((yc 46 (by decide)).trans (Fw_row hb.2.1 46 (by decide) (by decide) (by decide))) ((hh.1.1 67 (by decide) (by decide)).trans (h0.1 67 (by decide)))) (SR_of sr ((yc 43 (by decide)).trans (Fw_row hb.2.1 43 (by decide) (by decide) (by decide))) ((yc 45 (by decide)).trans (Fw_row hb.2.1 45 (by decide) (by decide) (by decide)))) ((hh.1.1 52 (by decide) (by decide)).trans (h0.1 52 (by decide))) ((hh.1.1 53 (by decide) (by decide)).trans (h0.1 53 (by decide))) (fun k hk => (yc k (by omega)).trans (h0.1 k (by omega))), by omega⟩
set_option maxHeartbeats 1000000 in
theorem CF_broken {I A B J JA JB : aI1} {R : aR1} {S : aS1} {a b x y : Int} (h : CPF I R) (hC : CI I R S) (h0 : Kp 0 49 I A ∧ Kp 0 49 J JA ∧ CX A ∧ Fw [18, 19, 20, 21, 22, 23, 24, 25, 26, 27, 28, 29, 30, 31, 32, 33, 34, 35, 36, 48] [(0, 16), (1, 7)] I A ∧ (¬ (0 ≤ a ∧ a < I 1 5 ∧ 0 ≤ b ∧ b ≤ 1) → x = -1 ∧ RFc I A (-1)) ∧ ((0 ≤ a ∧ a < I 1 5 ∧ 0 ≤ b ∧ b ≤ 1) → x = i_and (i_shr (I 1 7) a) 1 ∧ Fw [18, 19, 20, 21, 22, 23, 24, 25, 26, 27, 28, 29, 30, 31, 32, 33, 34, 35, 36] [(0, 16), (1, 7)] I A ∧ A 0 16 = 0 ∧ A 1 7 = i_or (i_and (I 1 7) (i_xor (i_shl 1 a) (-1))) (i_shl b a))) (hh : Ch [50, 51] [0, 1] A B ∧ Kp 49 73 JA JB ∧ RX B ∧ (¬ (0 ≤ a ∧ a < A 51 304 ∧ 0 ≤ b ∧ b ≤ 1) → y = -1 ∧ B 51 = A 51) ∧ ((0 ≤ a ∧ a < A 51 304 ∧ 0 ≤ b ∧ b ≤ 1) → y = i_and (i_shr (A 51 306) a) 1 ∧ B 51 = up1 (A 51) 306 (i_or (i_and (A 51 306) (i_xor (i_shl 1 a) (-1))) (i_shl b a)))) : CPF B R ∧ x = y := by
  obtain ⟨⟨q8, q15, q12, q5, q6, q7, q11⟩, tb, ol, wn, tr, sr, hi, di, im⟩ := id h
  have yc : ∀ k, k < 49 ∨ 73 ≤ k → B k = A k := Ch_kp hh.1 (by decide)
  have z51 : A 51 = I 51 := h0.1 51 (by decide)
  have x5 := XI_o hC.2.1.1
  have e304 : A 51 304 = I 1 5 := by rw [z51, ← q5]
  have e306 : A 51 306 = I 1 7 := by rw [z51, ← q7]
  have hd0 := hh.2.2.2
  rw [e304, e306] at hd0
  by_cases hv : (0 ≤ a ∧ a < I 1 5 ∧ 0 ≤ b ∧ b ≤ 1)
  · obtain ⟨c1, -, -, c2⟩ := h0.2.2.2.2.2 hv
    obtain ⟨d1, d2⟩ := hd0.2 hv
    have f8_1 : B 8 1 = I 8 1 := ((congrFun (yc 8 (by decide)) 1).trans (h0.2.2.2.1 8 1 (by decide) (by decide) (by decide)))
    have f0_15 : B 0 15 = I 0 15 := ((congrFun (yc 0 (by decide)) 15).trans (h0.2.2.2.1 0 15 (by decide) (by decide) (by decide)))
    have f0_12 : B 0 12 = I 0 12 := ((congrFun (yc 0 (by decide)) 12).trans (h0.2.2.2.1 0 12 (by decide) (by decide) (by decide)))
    have f1_5 : B 1 5 = I 1 5 := ((congrFun (yc 1 (by decide)) 5).trans (h0.2.2.2.1 1 5 (by decide) (by decide) (by decide)))
    have f1_6 : B 1 6 = I 1 6 := ((congrFun (yc 1 (by decide)) 6).trans (h0.2.2.2.1 1 6 (by decide) (by decide) (by decide)))
    have g1_7 : B 1 7 = A 1 7 := congrFun (yc 1 (by decide)) 7
    have f1_11 : B 1 11 = I 1 11 := ((congrFun (yc 1 (by decide)) 11).trans (h0.2.2.2.1 1 11 (by decide) (by decide) (by decide)))
    have e49_10 : A 49 10 = I 49 10 := congrFun (h0.1 49 (by decide)) 10
    have f49_10 : B 49 10 = A 49 10 := hh.1.2 10 (by decide)
    have e49_6 : A 49 6 = I 49 6 := congrFun (h0.1 49 (by decide)) 6
    have f49_6 : B 49 6 = A 49 6 := hh.1.2 6 (by decide)
    have e49_33 : A 49 33 = I 49 33 := congrFun (h0.1 49 (by decide)) 33
    have f49_33 : B 49 33 = A 49 33 := hh.1.2 33 (by decide)
    have v304 : B 51 304 = I 51 304 := by rw [d2]; exact (up1_n _ _ (by omega)).trans (congrFun z51 304)
    have v305 : B 51 305 = I 51 305 := by rw [d2]; exact (up1_n _ _ (by omega)).trans (congrFun z51 305)
    have v309 : B 51 309 = I 51 309 := by rw [d2]; exact (up1_n _ _ (by omega)).trans (congrFun z51 309)
    have v306 : B 51 306 = B 1 7 := by rw [d2, up1_s, g1_7, c2]
    exact ⟨CPF_g h hC ⟨by omega, by omega, by omega, by omega, by omega, by omega, by omega⟩ (TB5_k tb f8_1 ((yc 9 (by decide)).trans (Fw_row h0.2.2.2.1 9 (by decide) (by decide) (by decide))) ((hh.1.1 55 (by decide) (by decide)).trans (h0.1 55 (by decide)))) (OL5_k ol ((yc 2 (by decide)).trans (Fw_row h0.2.2.2.1 2 (by decide) (by decide) (by decide))) (fun j hj => by rw [d2]; exact (up1_n _ _ (by omega)).trans (congrFun z51 _))) (WN5_k wn ((yc 6 (by decide)).trans (Fw_row h0.2.2.2.1 6 (by decide) (by decide) (by decide))) (fun j hj => by rw [d2]; exact (up1_n _ _ (by omega)).trans (congrFun z51 _))) (TR5_k tr f0_12 ((yc 46 (by decide)).trans (Fw_row h0.2.2.2.1 46 (by decide) (by decide) (by decide))) ((hh.1.1 67 (by decide) (by decide)).trans (h0.1 67 (by decide)))) (SR_of sr ((yc 43 (by decide)).trans (Fw_row h0.2.2.2.1 43 (by decide) (by decide) (by decide))) ((yc 45 (by decide)).trans (Fw_row h0.2.2.2.1 45 (by decide) (by decide) (by decide)))) ((hh.1.1 52 (by decide) (by decide)).trans (h0.1 52 (by decide))) ((hh.1.1 53 (by decide) (by decide)).trans (h0.1 53 (by decide))) (fun k hk => (yc k (by omega)).trans (h0.1 k (by omega))), by rw [c1, d1]⟩
  · have hb := h0.2.2.2.2.1 hv
    have hd := hd0.1 hv
    have f8_1 : B 8 1 = I 8 1 := ((congrFun (yc 8 (by decide)) 1).trans (hb.2.1 8 1 (by decide) (by decide) (by decide)))
    have f0_15 : B 0 15 = I 0 15 := ((congrFun (yc 0 (by decide)) 15).trans (hb.2.1 0 15 (by decide) (by decide) (by decide)))
    have f0_12 : B 0 12 = I 0 12 := ((congrFun (yc 0 (by decide)) 12).trans (hb.2.1 0 12 (by decide) (by decide) (by decide)))
    have f1_5 : B 1 5 = I 1 5 := ((congrFun (yc 1 (by decide)) 5).trans (hb.2.1 1 5 (by decide) (by decide) (by decide)))
    have f1_6 : B 1 6 = I 1 6 := ((congrFun (yc 1 (by decide)) 6).trans (hb.2.1 1 6 (by decide) (by decide) (by decide)))
    have f1_7 : B 1 7 = I 1 7 := ((congrFun (yc 1 (by decide)) 7).trans (hb.2.1 1 7 (by decide) (by decide) (by decide)))
    have f1_11 : B 1 11 = I 1 11 := ((congrFun (yc 1 (by decide)) 11).trans (hb.2.1 1 11 (by decide) (by decide) (by decide)))
    have e49_10 : A 49 10 = I 49 10 := congrFun (h0.1 49 (by decide)) 10
    have f49_10 : B 49 10 = A 49 10 := hh.1.2 10 (by decide)
    have e49_6 : A 49 6 = I 49 6 := congrFun (h0.1 49 (by decide)) 6
    have f49_6 : B 49 6 = A 49 6 := hh.1.2 6 (by decide)
    have e49_33 : A 49 33 = I 49 33 := congrFun (h0.1 49 (by decide)) 33
    have f49_33 : B 49 33 = A 49 33 := hh.1.2 33 (by decide)
    have y51 : B 51 = I 51 := hd.2.trans z51
    have f51_304 : B 51 304 = I 51 304 := congrFun y51 304
    have f51_305 : B 51 305 = I 51 305 := congrFun y51 305
    have f51_306 : B 51 306 = I 51 306 := congrFun y51 306
    have f51_309 : B 51 309 = I 51 309 := congrFun y51 309
    exact ⟨CPF_g h hC ⟨by omega, by omega, by omega, by omega, by omega, by omega, by omega⟩ (TB5_k tb f8_1 ((yc 9 (by decide)).trans (Fw_row hb.2.1 9 (by decide) (by decide) (by decide))) ((hh.1.1 55 (by decide) (by decide)).trans (h0.1 55 (by decide)))) (OL5_k ol ((yc 2 (by decide)).trans (Fw_row hb.2.1 2 (by decide) (by decide) (by decide))) (fun j _ => congrFun y51 _)) (WN5_k wn ((yc 6 (by decide)).trans (Fw_row hb.2.1 6 (by decide) (by decide) (by decide))) (fun j _ => congrFun y51 _)) (TR5_k tr f0_12 ((yc 46 (by decide)).trans (Fw_row hb.2.1 46 (by decide) (by decide) (by decide))) ((hh.1.1 67 (by decide) (by decide)).trans (h0.1 67 (by decide)))) (SR_of sr ((yc 43 (by decide)).trans (Fw_row hb.2.1 43 (by decide) (by decide) (by decide))) ((yc 45 (by decide)).trans (Fw_row hb.2.1 45 (by decide) (by decide) (by decide)))) ((hh.1.1 52 (by decide) (by decide)).trans (h0.1 52 (by decide))) ((hh.1.1 53 (by decide) (by decide)).trans (h0.1 53 (by decide))) (fun k hk => (yc k (by omega)).trans (h0.1 k (by omega))), by omega⟩
set_option maxHeartbeats 1000000 in
theorem CF_read {I A B J JA JB : aI1} {R : aR1} {S : aS1} {a b x y : Int} (h : CPF I R) (hC : CI I R S) (h0 : Kp 0 49 I A ∧ Kp 0 49 J JA ∧ CX A ∧ Fw [3, 18, 19, 20, 21, 22, 23, 24, 25, 26, 27, 28, 29, 30, 31, 32, 33, 34, 35, 36, 48] [(0, 16)] I A ∧ (¬ (0 ≤ a ∧ a ≤ FU (I 1 5) ∧ (b = -1 ∨ (0 ≤ b ∧ b < I 1 6))) → x = -1 ∧ RFc I A (-1)) ∧ ((0 ≤ a ∧ a ≤ FU (I 1 5) ∧ (b = -1 ∨ (0 ≤ b ∧ b < I 1 6))) → x = I 3 a.toNat ∧ Fw [3, 18, 19, 20, 21, 22, 23, 24, 25, 26, 27, 28, 29, 30, 31, 32, 33, 34, 35, 36] [(0, 16)] I A ∧ A 0 16 = 0 ∧ A 3 = up1 (I 3) a.toNat b)) (hh : Ch [50, 51] [0, 1] A B ∧ Kp 49 73 JA JB ∧ RX B ∧ (¬ (0 ≤ a ∧ a ≤ FU (A 51 304) ∧ (b = -1 ∨ (0 ≤ b ∧ b < A 51 305))) → y = -1 ∧ B 51 = A 51) ∧ ((0 ≤ a ∧ a ≤ FU (A 51 304) ∧ (b = -1 ∨ (0 ≤ b ∧ b < A 51 305))) → y = A 51 a.toNat ∧ B 51 = up1 (A 51) a.toNat b)) : CPF B R := by
  obtain ⟨⟨q8, q15, q12, q5, q6, q7, q11⟩, tb, ol, wn, tr, sr, hi, di, im⟩ := id h
  have yc : ∀ k, k < 49 ∨ 73 ≤ k → B k = A k := Ch_kp hh.1 (by decide)
  have z51 : A 51 = I 51 := h0.1 51 (by decide)
  have x5 := XI_o hC.2.1.1
  have ef : FU (A 51 304) = FU (I 1 5) := by rw [z51, ← q5]
  have e305 : A 51 305 = I 1 6 := by rw [z51, ← q6]
  have k51 : ∀ j : Nat, 256 ≤ j → B 51 j = I 51 j := fun j hj => by
    by_cases hv : (0 ≤ a ∧ a ≤ FU (A 51 304) ∧ (b = -1 ∨ (0 ≤ b ∧ b < A 51 305)))
    · rw [(hh.2.2.2.2 hv).2, up1_n _ _ (by omega)]; exact congrFun z51 j
    · rw [(hh.2.2.2.1 hv).2]; exact congrFun z51 j
  have f8_1 : B 8 1 = I 8 1 := ((congrFun (yc 8 (by decide)) 1).trans (h0.2.2.2.1 8 1 (by decide) (by decide) (by decide)))
  have f0_15 : B 0 15 = I 0 15 := ((congrFun (yc 0 (by decide)) 15).trans (h0.2.2.2.1 0 15 (by decide) (by decide) (by decide)))
  have f0_12 : B 0 12 = I 0 12 := ((congrFun (yc 0 (by decide)) 12).trans (h0.2.2.2.1 0 12 (by decide) (by decide) (by decide)))
  have f1_5 : B 1 5 = I 1 5 := ((congrFun (yc 1 (by decide)) 5).trans (h0.2.2.2.1 1 5 (by decide) (by decide) (by decide)))
  have f1_6 : B 1 6 = I 1 6 := ((congrFun (yc 1 (by decide)) 6).trans (h0.2.2.2.1 1 6 (by decide) (by decide) (by decide)))
  have f1_7 : B 1 7 = I 1 7 := ((congrFun (yc 1 (by decide)) 7).trans (h0.2.2.2.1 1 7 (by decide) (by decide) (by decide)))
  have f1_11 : B 1 11 = I 1 11 := ((congrFun (yc 1 (by decide)) 11).trans (h0.2.2.2.1 1 11 (by decide) (by decide) (by decide)))
  have e49_10 : A 49 10 = I 49 10 := congrFun (h0.1 49 (by decide)) 10
  have f49_10 : B 49 10 = A 49 10 := hh.1.2 10 (by decide)
  have e49_6 : A 49 6 = I 49 6 := congrFun (h0.1 49 (by decide)) 6
  have f49_6 : B 49 6 = A 49 6 := hh.1.2 6 (by decide)
  have e49_33 : A 49 33 = I 49 33 := congrFun (h0.1 49 (by decide)) 33
  have f49_33 : B 49 33 = A 49 33 := hh.1.2 33 (by decide)
  have f51_304 : B 51 304 = I 51 304 := k51 304 (by omega)
  have f51_305 : B 51 305 = I 51 305 := k51 305 (by omega)
  have f51_306 : B 51 306 = I 51 306 := k51 306 (by omega)
  have f51_309 : B 51 309 = I 51 309 := k51 309 (by omega)
  exact CPF_g h hC ⟨by omega, by omega, by omega, by omega, by omega, by omega, by omega⟩ (TB5_k tb f8_1 ((yc 9 (by decide)).trans (Fw_row h0.2.2.2.1 9 (by decide) (by decide) (by decide))) ((hh.1.1 55 (by decide) (by decide)).trans (h0.1 55 (by decide)))) (OL5_k ol ((yc 2 (by decide)).trans (Fw_row h0.2.2.2.1 2 (by decide) (by decide) (by decide))) (fun j hj => k51 _ (by omega))) (WN5_k wn ((yc 6 (by decide)).trans (Fw_row h0.2.2.2.1 6 (by decide) (by decide) (by decide))) (fun j hj => k51 _ (by omega))) (TR5_k tr f0_12 ((yc 46 (by decide)).trans (Fw_row h0.2.2.2.1 46 (by decide) (by decide) (by decide))) ((hh.1.1 67 (by decide) (by decide)).trans (h0.1 67 (by decide)))) (SR_of sr ((yc 43 (by decide)).trans (Fw_row h0.2.2.2.1 43 (by decide) (by decide) (by decide))) ((yc 45 (by decide)).trans (Fw_row h0.2.2.2.1 45 (by decide) (by decide) (by decide)))) ((hh.1.1 52 (by decide) (by decide)).trans (h0.1 52 (by decide))) ((hh.1.1 53 (by decide) (by decide)).trans (h0.1 53 (by decide))) (fun k hk => (yc k (by omega)).trans (h0.1 k (by omega)))
set_option maxHeartbeats 1000000 in
theorem CF_dawn {I A B J JA JB : aI1} {R : aR1} {S : aS1} {x : Int} (h : CPF I R) (hC : CI I R S) (h0 : Kp 0 49 I A ∧ Kp 0 49 J JA ∧ CX A ∧ Fw [] [(1, 8), (1, 10)] I A ∧ x = bc (I 1 8) ∧ A 1 8 = 0 ∧ A 1 10 = 0) (hh : Ch [51] [1] A B ∧ Kp 49 73 JA JB ∧ RX B ∧ B 51 = up1 (up1 (A 51) 307 0) 308 0) : CPF B R := by
  obtain ⟨⟨q8, q15, q12, q5, q6, q7, q11⟩, tb, ol, wn, tr, sr, hi, di, im⟩ := id h
  have yc : ∀ k, k < 49 ∨ 73 ≤ k → B k = A k := Ch_kp hh.1 (by decide)
  have z51 : A 51 = I 51 := h0.1 51 (by decide)
  have x5 := XI_o hC.2.1.1
  have k51 : ∀ j : Nat, j ≠ 307 → j ≠ 308 → B 51 j = I 51 j := fun j h1 h2 => by rw [hh.2.2.2, up1_n _ _ h2, up1_n _ _ h1]; exact congrFun z51 j
  have f8_1 : B 8 1 = I 8 1 := ((congrFun (yc 8 (by decide)) 1).trans (h0.2.2.2.1 8 1 (by decide) (by decide) (by decide)))
  have f0_15 : B 0 15 = I 0 15 := ((congrFun (yc 0 (by decide)) 15).trans (h0.2.2.2.1 0 15 (by decide) (by decide) (by decide)))
  have f0_12 : B 0 12 = I 0 12 := ((congrFun (yc 0 (by decide)) 12).trans (h0.2.2.2.1 0 12 (by decide) (by decide) (by decide)))
  have f1_5 : B 1 5 = I 1 5 := ((congrFun (yc 1 (by decide)) 5).trans (h0.2.2.2.1 1 5 (by decide) (by decide) (by decide)))
  have f1_6 : B 1 6 = I 1 6 := ((congrFun (yc 1 (by decide)) 6).trans (h0.2.2.2.1 1 6 (by decide) (by decide) (by decide)))
  have f1_7 : B 1 7 = I 1 7 := ((congrFun (yc 1 (by decide)) 7).trans (h0.2.2.2.1 1 7 (by decide) (by decide) (by decide)))
  have f1_11 : B 1 11 = I 1 11 := ((congrFun (yc 1 (by decide)) 11).trans (h0.2.2.2.1 1 11 (by decide) (by decide) (by decide)))
  have e49_10 : A 49 10 = I 49 10 := congrFun (h0.1 49 (by decide)) 10
  have f49_10 : B 49 10 = A 49 10 := hh.1.2 10 (by decide)
  have e49_6 : A 49 6 = I 49 6 := congrFun (h0.1 49 (by decide)) 6
  have f49_6 : B 49 6 = A 49 6 := hh.1.2 6 (by decide)
  have e49_33 : A 49 33 = I 49 33 := congrFun (h0.1 49 (by decide)) 33
  have f49_33 : B 49 33 = A 49 33 := hh.1.2 33 (by decide)
  have f51_304 : B 51 304 = I 51 304 := k51 304 (by omega) (by omega)
  have f51_305 : B 51 305 = I 51 305 := k51 305 (by omega) (by omega)
  have f51_306 : B 51 306 = I 51 306 := k51 306 (by omega) (by omega)
  have f51_309 : B 51 309 = I 51 309 := k51 309 (by omega) (by omega)
  exact CPF_g h hC ⟨by omega, by omega, by omega, by omega, by omega, by omega, by omega⟩ (TB5_k tb f8_1 ((yc 9 (by decide)).trans (Fw_row h0.2.2.2.1 9 (by decide) (by decide) (by decide))) ((hh.1.1 55 (by decide) (by decide)).trans (h0.1 55 (by decide)))) (OL5_k ol ((yc 2 (by decide)).trans (Fw_row h0.2.2.2.1 2 (by decide) (by decide) (by decide))) (fun j hj => k51 _ (by omega) (by omega))) (WN5_k wn ((yc 6 (by decide)).trans (Fw_row h0.2.2.2.1 6 (by decide) (by decide) (by decide))) (fun j hj => k51 _ (by omega) (by omega))) (TR5_k tr f0_12 ((yc 46 (by decide)).trans (Fw_row h0.2.2.2.1 46 (by decide) (by decide) (by decide))) ((hh.1.1 67 (by decide) (by decide)).trans (h0.1 67 (by decide)))) (SR_of sr ((yc 43 (by decide)).trans (Fw_row h0.2.2.2.1 43 (by decide) (by decide) (by decide))) ((yc 45 (by decide)).trans (Fw_row h0.2.2.2.1 45 (by decide) (by decide) (by decide)))) ((hh.1.1 52 (by decide) (by decide)).trans (h0.1 52 (by decide))) ((hh.1.1 53 (by decide) (by decide)).trans (h0.1 53 (by decide))) (fun k hk => (yc k (by omega)).trans (h0.1 k (by omega)))
