def SC5 (I : aI1) : Prop := I 8 1 = I 49 10 ∧ I 0 15 = I 49 6 ∧ I 0 12 = I 49 33 ∧ I 1 5 = I 51 304 ∧ I 1 6 = I 51 305 ∧ I 1 7 = I 51 306 ∧ I 1 11 = I 51 309
def TB5 (I : aI1) : Prop := ∀ j : Nat, (j : Int) < I 8 1 → I 9 j = I 55 j % 256 ∧ -128 ≤ I 55 j ∧ I 55 j ≤ 127
def OL5 (I : aI1) : Prop := ∀ j, j < 8 → I 2 j = I 51 (256 + j)
def WN5 (I : aI1) : Prop := ∀ j, j < 16 → I 6 j = I 51 (288 + j)
def TR5 (I : aI1) : Prop := ∀ j : Nat, (j : Int) < I 0 12 → I 46 j = I 67 j
def HI5 (I : aI1) (R : aR1) : Prop := ∀ i, i < 2 → (R 7 i = none ↔ I 53 i = 0)
def DI5 (R : aR1) : Prop := ∀ i j, i < 2 → j < 2 → ∀ c, R 7 i = some c → R 7 j = some c → i = j
def IM5 (I : aI1) (R : aR1) : Prop := ∀ i, i < 2 → ∀ c, R 7 i = some c → I c 5 = I 52 (5117 * i + 304) ∧ I c 6 = I 52 (5117 * i + 305) ∧ I c 7 = I 52 (5117 * i + 306) ∧ I c 11 = I 52 (5117 * i + 309) ∧ (∀ j, j < 8 → I (c + 1) j = I 52 (5117 * i + (256 + j))) ∧ (∀ j, j < 16 → I (c + 5) j = I 52 (5117 * i + (288 + j)))
def CPF (I : aI1) (R : aR1) : Prop := SC5 I ∧ TB5 I ∧ OL5 I ∧ WN5 I ∧ TR5 I ∧ SR I ∧ HI5 I R ∧ DI5 R ∧ IM5 I R
theorem TB5_k {I B : aI1} (h : TB5 I) (h8 : B 8 1 = I 8 1) (h9 : B 9 = I 9) (h55 : B 55 = I 55) : TB5 B := fun j hj => by rw [h9, h55]; exact h j (by omega)
theorem TB5_0 {B : aI1} (h8 : B 8 1 = 0) : TB5 B := fun j hj => absurd hj (by omega)
theorem OL5_k {I B : aI1} (h : OL5 I) (h2 : B 2 = I 2) (h51 : ∀ j, j < 8 → B 51 (256 + j) = I 51 (256 + j)) : OL5 B := fun j hj => by rw [h2, h51 j hj]; exact h j hj
theorem WN5_k {I B : aI1} (h : WN5 I) (h6 : B 6 = I 6) (h51 : ∀ j, j < 16 → B 51 (288 + j) = I 51 (288 + j)) : WN5 B := fun j hj => by rw [h6, h51 j hj]; exact h j hj
theorem TR5_k {I B : aI1} (h : TR5 I) (h0 : B 0 12 = I 0 12) (h46 : B 46 = I 46) (h67 : B 67 = I 67) : TR5 B := fun j hj => by rw [h46, h67]; exact h j (by omega)
theorem CPF_g {I B : aI1} {R : aR1} {S : aS1} (h : CPF I R) (hC : CI I R S) (s : SC5 B) (t : TB5 B) (o : OL5 B) (w : WN5 B) (tr : TR5 B) (sr : SR B) (r52 : B 52 = I 52) (r53 : B 53 = I 53) (hc : ∀ k, 73 ≤ k → B k = I k) : CPF B R := by
  obtain ⟨-, -, -, -, -, -, hi, di, im⟩ := h
  refine ⟨s, t, o, w, tr, sr, fun i hi9 => by rw [r53]; exact hi i hi9, di, fun i hi9 c hq => ?_⟩
  have h73 := (hC.2.2.2 i hi9 c hq).1
  rw [hc c h73, hc (c + 1) (by omega), hc (c + 5) (by omega), r52]
  exact im i hi9 c hq
/-! bytes -/
theorem iand255 (x : Int) : i_and x 255 = x % 256 := by
  have hb : (Int32.ofInt x &&& Int32.ofInt 255).toBitVec.toNat = (Int32.ofInt x).toBitVec.toNat % 256 := by
    show ((Int32.ofInt x).toBitVec &&& (Int32.ofInt 255).toBitVec).toNat = _
    rw [BitVec.toNat_and]
    exact Nat.and_two_pow_sub_one_eq_mod _ 8
  have hn : ((Int32.ofInt x).toBitVec.toNat : Int) % 256 = x % 256 := by
    have h1 : (Int32.ofInt x).toInt = w32 x := rfl
    have h2 := BitVec.toInt_eq_toNat_cond (Int32.ofInt x).toBitVec
    have h3 : (Int32.ofInt x).toBitVec.toInt = w32 x := rfl
    rw [h3, w32_mod] at h2
    split at h2 <;> omega
  have h4 := BitVec.toInt_eq_toNat_cond (Int32.ofInt x &&& Int32.ofInt 255).toBitVec
  show (Int32.ofInt x &&& Int32.ofInt 255).toBitVec.toInt = _
  rw [h4, hb]
  have h5 := Nat.mod_lt (Int32.ofInt x).toBitVec.toNat (show 256 > 0 by decide)
  rw [if_pos (by omega)]
  omega
theorem by8_e (a : Int) {q : Nat} (hq : q < 4) : by8 a q = i_b (i_shr a (24 - 8 * (q : Int))) % 256 ∧ -128 ≤ i_b (i_shr a (24 - 8 * (q : Int))) ∧ i_b (i_shr a (24 - 8 * (q : Int))) ≤ 127 := by
  have hib : ∀ y : Int, i_b y = (w32 y).bmod 256 := fun y => by
    show (Int32.ofInt y).toInt8.toInt32.toInt = _
    rw [Int8.toInt_toInt32, Int32.toInt_toInt8]
    rfl
  have hbm : ∀ y : Int, y.bmod 256 % 256 = y % 256 ∧ -128 ≤ y.bmod 256 ∧ y.bmod 256 ≤ 127 := fun y => by
    have h1 := Int.le_bmod (x := y) (m := 256) (by decide)
    have h2 := Int.bmod_lt (x := y) (m := 256) (by decide)
    have h3 : y.bmod 256 % 256 = y % 256 := Int.bmod_emod
    omega
  have hN := BitVec.toInt_eq_toNat_cond (Int32.ofInt a).toBitVec
  have hN2 := (Int32.ofInt a).toBitVec.isLt
  have key : ∀ (s : Int) (k : Nat), (k = 0 ∨ k = 8 ∨ k = 16 ∨ k = 24) → ((Int32.ofInt s &&& 31).toBitVec.smod 32).toNat = k → (((Int32.ofInt s).toUInt32 &&& Int32.toUInt32 31).toBitVec % 32).toNat = k → i_and (i_ushr a s) 255 = i_b (i_shr a s) % 256 ∧ -128 ≤ i_b (i_shr a s) ∧ i_b (i_shr a s) ≤ 127 := fun s k hk h1 h2 => by
    have e1 : i_shr a s = (Int32.ofInt a).toInt >>> k := pk_shr (Int32.ofInt a) (Int32.ofInt s &&& 31) k h1
    have e2 := pk_ushr (Int32.ofInt a) (Int32.ofInt s) k h2
    have e3 : w32 (i_shr a s) = i_shr a s := by unfold w32 i_shr; rw [n_of]
    rw [iand255, hib, e3]
    have h4 := hbm (i_shr a s)
    refine ⟨?_, h4.2⟩
    rw [h4.1, e1, Int.shiftRight_eq_div_pow]
    have e4 : i_ushr a s % 256 = (((Int32.ofInt a).toBitVec.toNat / 2 ^ k : Nat) : Int) % 256 := by
      have h5 := BitVec.toInt_eq_toNat_cond ((Int32.ofInt a).toUInt32 >>> ((Int32.ofInt s).toUInt32 &&& Int32.toUInt32 31)).toInt32.toBitVec
      rw [e2] at h5
      show ((Int32.ofInt a).toUInt32 >>> ((Int32.ofInt s).toUInt32 &&& Int32.toUInt32 31)).toInt32.toBitVec.toInt % 256 = _
      rw [h5]
      split <;> omega
    rw [e4]
    have h6 : (Int32.ofInt a).toInt = (Int32.ofInt a).toBitVec.toInt := rfl
    rw [h6, hN]
    rcases hk with rfl | rfl | rfl | rfl
    · split <;> simp <;> omega
    · split <;> simp <;> omega
    · split <;> simp <;> omega
    · split <;> simp <;> omega
  unfold by8
  rcases (show q = 0 ∨ q = 1 ∨ q = 2 ∨ q = 3 by omega) with rfl | rfl | rfl | rfl
  · exact key 24 24 (by decide) (by decide) (by decide)
  · exact key 16 16 (by decide) (by decide) (by decide)
  · exact key 8 8 (by decide) (by decide) (by decide)
  · exact key 0 0 (by decide) (by decide) (by decide)
set_option maxHeartbeats 1000000 in
theorem CF_lamps {I A B J JA JB : aI1} {R : aR1} {S : aS1} {a x y : Int} (h : CPF I R) (hC : CI I R S) (h0 : Kp 0 49 I A ∧ Kp 0 49 J JA ∧ CX A ∧ Fw [2, 3, 18, 19, 20, 21, 22, 23, 24, 25, 26, 27, 28, 29, 30, 31, 32, 33, 34, 35, 36, 48] [(0, 16), (1, 5), (1, 7), (1, 8), (1, 10), (1, 11)] I A ∧ (¬ (1 ≤ a ∧ a ≤ 8) → x = -1 ∧ RFc I A (-1)) ∧ ((1 ≤ a ∧ a ≤ 8) → x = I 1 5 ∧ Fw [2, 3, 18, 19, 20, 21, 22, 23, 24, 25, 26, 27, 28, 29, 30, 31, 32, 33, 34, 35, 36] [(0, 16), (1, 5), (1, 7), (1, 8), (1, 10), (1, 11)] I A ∧ A 1 5 = a ∧ A 1 7 = 0 ∧ (∀ j, j < 8 → A 2 j = 1) ∧ A 0 16 = 0 ∧ A 1 8 = 0 ∧ A 1 10 = 0 ∧ A 1 11 = 0 ∧ (∀ s, s < 256 → A 3 s = -1))) (hh : Ch [50, 51] [0, 1] A B ∧ Kp 49 73 JA JB ∧ RX B ∧ (¬ (1 ≤ a ∧ a ≤ 8) → y = -1 ∧ B 51 = A 51) ∧ ((1 ≤ a ∧ a ≤ 8) → y = A 51 304 ∧ B 51 304 = a ∧ B 51 306 = 0 ∧ B 51 307 = 0 ∧ B 51 308 = 0 ∧ B 51 309 = 0 ∧ (∀ j, j < 8 → B 51 (256 + j) = 1) ∧ (∀ s, s < 256 → B 51 s = -1) ∧ (∀ j : Nat, 264 ≤ j → j ≠ 304 → j ≠ 306 → j ≠ 307 → j ≠ 308 → j ≠ 309 → B 51 j = A 51 j))) : CPF B R ∧ x = y := by
  obtain ⟨⟨q8, q15, q12, q5, q6, q7, q11⟩, tb, ol, wn, tr, sr, hi, di, im⟩ := id h
  have yc : ∀ k, k < 49 ∨ 73 ≤ k → B k = A k := Ch_kp hh.1 (by decide)
  have z51 : A 51 = I 51 := h0.1 51 (by decide)
  have x5 := XI_o hC.2.1.1
  by_cases hv : (1 ≤ a ∧ a ≤ 8)
  · obtain ⟨c1, -, c2, c3, c4, -, -, -, c11, -⟩ := h0.2.2.2.2.2 hv
    obtain ⟨d1, d2, d3, d4, d5, d6, d7, d8, d9⟩ := hh.2.2.2.2 hv
    have d305 := d9 305 (by decide) (by decide) (by decide) (by decide) (by decide) (by decide)
    have z304 : A 51 304 = I 51 304 := congrFun z51 304
    have z305 : A 51 305 = I 51 305 := congrFun z51 305
    have z306 : A 51 306 = I 51 306 := congrFun z51 306
    have z309 : A 51 309 = I 51 309 := congrFun z51 309
    have f8_1 : B 8 1 = I 8 1 := ((congrFun (yc 8 (by decide)) 1).trans (h0.2.2.2.1 8 1 (by decide) (by decide) (by decide)))
    have f0_15 : B 0 15 = I 0 15 := ((congrFun (yc 0 (by decide)) 15).trans (h0.2.2.2.1 0 15 (by decide) (by decide) (by decide)))
    have f0_12 : B 0 12 = I 0 12 := ((congrFun (yc 0 (by decide)) 12).trans (h0.2.2.2.1 0 12 (by decide) (by decide) (by decide)))
    have g1_5 : B 1 5 = A 1 5 := congrFun (yc 1 (by decide)) 5
    have f1_6 : B 1 6 = I 1 6 := ((congrFun (yc 1 (by decide)) 6).trans (h0.2.2.2.1 1 6 (by decide) (by decide) (by decide)))
    have g1_7 : B 1 7 = A 1 7 := congrFun (yc 1 (by decide)) 7
    have g1_11 : B 1 11 = A 1 11 := congrFun (yc 1 (by decide)) 11
    have e49_10 : A 49 10 = I 49 10 := congrFun (h0.1 49 (by decide)) 10
    have f49_10 : B 49 10 = A 49 10 := hh.1.2 10 (by decide)
    have e49_6 : A 49 6 = I 49 6 := congrFun (h0.1 49 (by decide)) 6
    have f49_6 : B 49 6 = A 49 6 := hh.1.2 6 (by decide)
    have e49_33 : A 49 33 = I 49 33 := congrFun (h0.1 49 (by decide)) 33
    have f49_33 : B 49 33 = A 49 33 := hh.1.2 33 (by decide)
    exact ⟨CPF_g h hC ⟨by omega, by omega, by omega, by omega, by omega, by omega, by omega⟩ (TB5_k tb f8_1 ((yc 9 (by decide)).trans (Fw_row h0.2.2.2.1 9 (by decide) (by decide) (by decide))) ((hh.1.1 55 (by decide) (by decide)).trans (h0.1 55 (by decide)))) (fun j hj => by rw [yc 2 (by decide), c4 j hj, d7 j hj]) (WN5_k wn ((yc 6 (by decide)).trans (Fw_row h0.2.2.2.1 6 (by decide) (by decide) (by decide))) (fun j hj => (d9 _ (by omega) (by omega) (by omega) (by omega) (by omega) (by omega)).trans (congrFun z51 _))) (TR5_k tr f0_12 ((yc 46 (by decide)).trans (Fw_row h0.2.2.2.1 46 (by decide) (by decide) (by decide))) ((hh.1.1 67 (by decide) (by decide)).trans (h0.1 67 (by decide)))) (SR_of sr ((yc 43 (by decide)).trans (Fw_row h0.2.2.2.1 43 (by decide) (by decide) (by decide))) ((yc 45 (by decide)).trans (Fw_row h0.2.2.2.1 45 (by decide) (by decide) (by decide)))) ((hh.1.1 52 (by decide) (by decide)).trans (h0.1 52 (by decide))) ((hh.1.1 53 (by decide) (by decide)).trans (h0.1 53 (by decide))) (fun k hk => (yc k (by omega)).trans (h0.1 k (by omega))), by omega⟩
  · have hb := h0.2.2.2.2.1 hv
    have hd := hh.2.2.2.1 hv
    have f8_1 : B 8 1 = I 8 1 := ((congrFun (yc 8 (by decide)) 1).trans (hb.2.1 8 1 (by decide) (by decide) (by decide)))
    have f0_15 : B 0 15 = I 0 15 := ((congrFun (yc 0 (by decide)) 15).trans (hb.2.1 0 15 (by decide) (by decide) (by decide)))
    have f0_12 : B 0 12 = I 0 12 := ((congrFun (yc 0 (by decide)) 12).trans (hb.2.1 0 12 (by decide) (by decide) (by decide)))
    have f1_5 : B 1 5 = I 1 5 := ((congrFun (yc 1 (by decide)) 5).trans (hb.2.1 1 5 (by decide) (by decide) (by decide)))
    have f1_6 : B 1 6 = I 1 6 := ((congrFun (yc 1 (by decide)) 6).trans (hb.2.1 1 6 (by decide) (by decide) (by decide)))
    have f1_7 : B 1 7 = I 1 7 := ((congrFun (yc 1 (by decide)) 7).trans (hb.2.1 1 7 (by decide) (by decide) (by decide)))
    have f1_11 : B 1 11 = I 1 11 := ((congrFun (yc 1 (by decide)) 11).trans (hb.2.1 1 11 (by decide) (by decide) (by decide)))
    have e49_10 : A 49 10 = I 49 10 := congrFun (h0.1 49 (by decide)) 10
    have f49_10 : B 49 10 = A 49 10 := hh.1.2 10 (by decide)
    have e49_6 : A 49 6 = I 49 6 := congrFun (h0.1 49 (by decide)) 6
    have f49_6 : B 49 6 = A 49 6 := hh.1.2 6 (by decide)
    have e49_33 : A 49 33 = I 49 33 := congrFun (h0.1 49 (by decide)) 33
    have f49_33 : B 49 33 = A 49 33 := hh.1.2 33 (by decide)
    have y51 : B 51 = I 51 := hd.2.trans z51
    have f51_304 : B 51 304 = I 51 304 := congrFun y51 304
    have f51_305 : B 51 305 = I 51 305 := congrFun y51 305
    have f51_306 : B 51 306 = I 51 306 := congrFun y51 306
    have f51_309 : B 51 309 = I 51 309 := congrFun y51 309
    exact ⟨CPF_g h hC ⟨by omega, by omega, by omega, by omega, by omega, by omega, by omega⟩ (TB5_k tb f8_1 ((yc 9 (by decide)).trans (Fw_row hb.2.1 9 (by decide) (by decide) (by decide))) ((hh.1.1 55 (by decide) (by decide)).trans (h0.1 55 (by decide)))) (OL5_k ol ((yc 2 (by decide)).trans (Fw_row hb.2.1 2 (by decide) (by decide) (by decide))) (fun j _ => congrFun y51 _)) (WN5_k wn ((yc 6 (by decide)).trans (Fw_row hb.2.1 6 (by decide) (by decide) (by decide))) (fun j _ => congrFun y51 _)) (TR5_k tr f0_12 ((yc 46 (by decide)).trans (Fw_row hb.2.1 46 (by decide) (by decide) (by decide))) ((hh.1.1 67 (by decide) (by decide)).trans (h0.1 67 (by decide)))) (SR_of sr ((yc 43 (by decide)).trans (Fw_row hb.2.1 43 (by decide) (by decide) (by decide))) ((yc 45 (by decide)).trans (Fw_row hb.2.1 45 (by decide) (by decide) (by decide)))) ((hh.1.1 52 (by decide) (by decide)).trans (h0.1 52 (by decide))) ((hh.1.1 53 (by decide) (by decide)).trans (h0.1 53 (by decide))) (fun k hk => (yc k (by omega)).trans (h0.1 k (by omega))), by omega⟩
set_option maxHeartbeats 1000000 in
theorem CF_news {I A B J JA JB : aI1} {R : aR1} {S : aS1} {a x y : Int} (h : CPF I R) (hC : CI I R S) (h0 : Kp 0 49 I A ∧ Kp 0 49 J JA ∧ CX A ∧ Fw [3, 18, 19, 20, 21, 22, 23, 24, 25, 26, 27, 28, 29, 30, 31, 32, 33, 34, 35, 36, 48] [(0, 16), (1, 6), (1, 8), (1, 10), (1, 11)] I A ∧ (¬ (2 ≤ a ∧ a ≤ 8) → x = -1 ∧ RFc I A (-1)) ∧ ((2 ≤ a ∧ a ≤ 8) → x = I 1 6 ∧ Fw [3, 18, 19, 20, 21, 22, 23, 24, 25, 26, 27, 28, 29, 30, 31, 32, 33, 34, 35, 36] [(0, 16), (1, 6), (1, 8), (1, 10), (1, 11)] I A ∧ A 1 6 = a ∧ A 0 16 = 0 ∧ A 1 8 = 0 ∧ A 1 10 = 0 ∧ A 1 11 = 0 ∧ (∀ s, s < 256 → A 3 s = -1))) (hh : Ch [50, 51] [0, 1] A B ∧ Kp 49 73 JA JB ∧ RX B ∧ (¬ (2 ≤ a ∧ a ≤ 8) → y = -1 ∧ B 51 = A 51) ∧ ((2 ≤ a ∧ a ≤ 8) → y = A 51 305 ∧ B 51 = EMr (up1 (A 51) 305 a))) : CPF B R ∧ x = y := by
  obtain ⟨⟨q8, q15, q12, q5, q6, q7, q11⟩, tb, ol, wn, tr, sr, hi, di, im⟩ := id h
  have yc : ∀ k, k < 49 ∨ 73 ≤ k → B k = A k := Ch_kp hh.1 (by decide)
  have z51 : A 51 = I 51 := h0.1 51 (by decide)
  have x5 := XI_o hC.2.1.1
  by_cases hv : (2 ≤ a ∧ a ≤ 8)
  · obtain ⟨c1, -, c2, -, -, -, c11, -⟩ := h0.2.2.2.2.2 hv
    obtain ⟨d1, d2⟩ := hh.2.2.2.2 hv
    have z304 : A 51 304 = I 51 304 := congrFun z51 304
    have z305 : A 51 305 = I 51 305 := congrFun z51 305
    have z306 : A 51 306 = I 51 306 := congrFun z51 306
    have z309 : A 51 309 = I 51 309 := congrFun z51 309
    have f8_1 : B 8 1 = I 8 1 := ((congrFun (yc 8 (by decide)) 1).trans (h0.2.2.2.1 8 1 (by decide) (by decide) (by decide)))
    have f0_15 : B 0 15 = I 0 15 := ((congrFun (yc 0 (by decide)) 15).trans (h0.2.2.2.1 0 15 (by decide) (by decide) (by decide)))
    have f0_12 : B 0 12 = I 0 12 := ((congrFun (yc 0 (by decide)) 12).trans (h0.2.2.2.1 0 12 (by decide) (by decide) (by decide)))
    have f1_5 : B 1 5 = I 1 5 := ((congrFun (yc 1 (by decide)) 5).trans (h0.2.2.2.1 1 5 (by decide) (by decide) (by decide)))
    have g1_6 : B 1 6 = A 1 6 := congrFun (yc 1 (by decide)) 6
    have f1_7 : B 1 7 = I 1 7 := ((congrFun (yc 1 (by decide)) 7).trans (h0.2.2.2.1 1 7 (by decide) (by decide) (by decide)))
    have g1_11 : B 1 11 = A 1 11 := congrFun (yc 1 (by decide)) 11
    have e49_10 : A 49 10 = I 49 10 := congrFun (h0.1 49 (by decide)) 10
    have f49_10 : B 49 10 = A 49 10 := hh.1.2 10 (by decide)
    have e49_6 : A 49 6 = I 49 6 := congrFun (h0.1 49 (by decide)) 6
    have f49_6 : B 49 6 = A 49 6 := hh.1.2 6 (by decide)
    have e49_33 : A 49 33 = I 49 33 := congrFun (h0.1 49 (by decide)) 33
    have f49_33 : B 49 33 = A 49 33 := hh.1.2 33 (by decide)
    have v304 : B 51 304 = I 51 304 := by rw [d2]; exact (EMr_o (by omega) (by omega)).trans ((up1_n _ _ (by omega)).trans (congrFun z51 304))
    have v305 : B 51 305 = a := by rw [d2]; exact (EMr_o (by decide) (by decide)).trans (up1_s _ _ _)
    have v306 : B 51 306 = I 51 306 := by rw [d2]; exact (EMr_o (by omega) (by omega)).trans ((up1_n _ _ (by omega)).trans (congrFun z51 306))
    have v309 : B 51 309 = 0 := by rw [d2]; exact EMr_z (by decide)
    exact ⟨CPF_g h hC ⟨by omega, by omega, by omega, by omega, by omega, by omega, by omega⟩ (TB5_k tb f8_1 ((yc 9 (by decide)).trans (Fw_row h0.2.2.2.1 9 (by decide) (by decide) (by decide))) ((hh.1.1 55 (by decide) (by decide)).trans (h0.1 55 (by decide)))) (OL5_k ol ((yc 2 (by decide)).trans (Fw_row h0.2.2.2.1 2 (by decide) (by decide) (by decide))) (fun j hj => by rw [d2]; exact (EMr_o (by omega) (by omega)).trans ((up1_n _ _ (by omega)).trans (congrFun z51 _)))) (WN5_k wn ((yc 6 (by decide)).trans (Fw_row h0.2.2.2.1 6 (by decide) (by decide) (by decide))) (fun j hj => by rw [d2]; exact (EMr_o (by omega) (by omega)).trans ((up1_n _ _ (by omega)).trans (congrFun z51 _)))) (TR5_k tr f0_12 ((yc 46 (by decide)).trans (Fw_row h0.2.2.2.1 46 (by decide) (by decide) (by decide))) ((hh.1.1 67 (by decide) (by decide)).trans (h0.1 67 (by decide)))) (SR_of sr ((yc 43 (by decide)).trans (Fw_row h0.2.2.2.1 43 (by decide) (by decide) (by decide))) ((yc 45 (by decide)).trans (Fw_row h0.2.2.2.1 45 (by decide) (by decide) (by decide)))) ((hh.1.1 52 (by decide) (by decide)).trans (h0.1 52 (by decide))) ((hh.1.1 53 (by decide) (by decide)).trans (h0.1 53 (by decide))) (fun k hk => (yc k (by omega)).trans (h0.1 k (by omega))), by omega⟩
  · have hb := h0.2.2.2.2.1 hv
    have hd := hh.2.2.2.1 hv
    have f8_1 : B 8 1 = I 8 1 := ((congrFun (yc 8 (by decide)) 1).trans (hb.2.1 8 1 (by decide) (by decide) (by decide)))
    have f0_15 : B 0 15 = I 0 15 := ((congrFun (yc 0 (by decide)) 15).trans (hb.2.1 0 15 (by decide) (by decide) (by decide)))
    have f0_12 : B 0 12 = I 0 12 := ((congrFun (yc 0 (by decide)) 12).trans (hb.2.1 0 12 (by decide) (by decide) (by decide)))
    have f1_5 : B 1 5 = I 1 5 := ((congrFun (yc 1 (by decide)) 5).trans (hb.2.1 1 5 (by decide) (by decide) (by decide)))
    have f1_6 : B 1 6 = I 1 6 := ((congrFun (yc 1 (by decide)) 6).trans (hb.2.1 1 6 (by decide) (by decide) (by decide)))
    have f1_7 : B 1 7 = I 1 7 := ((congrFun (yc 1 (by decide)) 7).trans (hb.2.1 1 7 (by decide) (by decide) (by decide)))
    have f1_11 : B 1 11 = I 1 11 := ((congrFun (yc 1 (by decide)) 11).trans (hb.2.1 1 11 (by decide) (by decide) (by decide)))
    have e49_10 : A 49 10 = I 49 10 := congrFun (h0.1 49 (by decide)) 10
    have f49_10 : B 49 10 = A 49 10 := hh.1.2 10 (by decide)
    have e49_6 : A 49 6 = I 49 6 := congrFun (h0.1 49 (by decide)) 6
    have f49_6 : B 49 6 = A 49 6 := hh.1.2 6 (by decide)
    have e49_33 : A 49 33 = I 49 33 := congrFun (h0.1 49 (by decide)) 33
    have f49_33 : B 49 33 = A 49 33 := hh.1.2 33 (by decide)
    have y51 : B 51 = I 51 := hd.2.trans z51
    have f51_304 : B 51 304 = I 51 304 := congrFun y51 304
    have f51_305 : B 51 305 = I 51 305 := congrFun y51 305
    have f51_306 : B 51 306 = I 51 306 := congrFun y51 306
    have f51_309 : B 51 309 = I 51 309 := congrFun y51 309
    exact ⟨CPF_g h hC ⟨by omega, by omega, by omega, by omega, by omega, by omega, by omega⟩ (TB5_k tb f8_1 ((yc 9 (by decide)).trans (Fw_row hb.2.1 9 (by decide) (by decide) (by decide))) ((hh.1.1 55 (by decide) (by decide)).trans (h0.1 55 (by decide)))) (OL5_k ol ((yc 2 (by decide)).trans (Fw_row hb.2.1 2 (by decide) (by decide) (by decide))) (fun j _ => congrFun y51 _)) (WN5_k wn ((yc 6 (by decide)).trans (Fw_row hb.2.1 6 (by decide) (by decide) (by decide))) (fun j _ => congrFun y51 _)) (TR5_k tr f0_12 ((yc 46 (by decide)).trans (Fw_row hb.2.1 46 (by decide) (by decide) (by decide))) ((hh.1.1 67 (by decide) (by decide)).trans (h0.1 67 (by decide)))) (SR_of sr ((yc 43 (by decide)).trans (Fw_row hb.2.1 43 (by decide) (by decide) (by decide))) ((yc 45 (by decide)).trans (Fw_row hb.2.1 45 (by decide) (by decide) (by decide)))) ((hh.1.1 52 (by decide) (by decide)).trans (h0.1 52 (by decide))) ((hh.1.1 53 (by decide) (by decide)).trans (h0.1 53 (by decide))) (fun k hk => (yc k (by omega)).trans (h0.1 k (by omega))), by omega⟩
set_option maxHeartbeats 1000000 in
theorem CF_oil {I A B J JA JB : aI1} {R : aR1} {S : aS1} {a b x y : Int} (h : CPF I R) (hC : CI I R S) (h0 : Kp 0 49 I A ∧ Kp 0 49 J JA ∧ CX A ∧ Fw [2, 18, 33, 48] [(0, 16)] I A ∧ (¬ (0 ≤ a ∧ a < I 1 5 ∧ 0 ≤ b ∧ b ≤ 99) → x = -1 ∧ RFc I A (-1)) ∧ ((0 ≤ a ∧ a < I 1 5 ∧ 0 ≤ b ∧ b ≤ 99) → x = I 2 a.toNat ∧ Fw [2, 18, 33] [(0, 16)] I A ∧ A 0 16 = 0 ∧ A 2 = up1 (I 2) a.toNat b)) (hh : Ch [50, 51] [0, 1] A B ∧ Kp 49 73 JA JB ∧ RX B ∧ (¬ (0 ≤ a ∧ a < A 51 304 ∧ 0 ≤ b ∧ b ≤ 99) → y = -1 ∧ B 51 = A 51) ∧ ((0 ≤ a ∧ a < A 51 304 ∧ 0 ≤ b ∧ b ≤ 99) → y = A 51 (256 + a.toNat) ∧ B 51 = up1 (A 51) (256 + a.toNat) b)) : CPF B R ∧ x = y := by
  obtain ⟨⟨q8, q15, q12, q5, q6, q7, q11⟩, tb, ol, wn, tr, sr, hi, di, im⟩ := id h
  have yc : ∀ k, k < 49 ∨ 73 ≤ k → B k = A k := Ch_kp hh.1 (by decide)
  have z51 : A 51 = I 51 := h0.1 51 (by decide)
  have x5 := XI_o hC.2.1.1
  have e304 : A 51 304 = I 1 5 := by rw [z51, ← q5]
  have hd0 := hh.2.2.2
  rw [e304] at hd0
  by_cases hv : (0 ≤ a ∧ a < I 1 5 ∧ 0 ≤ b ∧ b ≤ 99)
  · obtain ⟨c1, -, -, c2⟩ := h0.2.2.2.2.2 hv
    obtain ⟨d1, d2⟩ := hd0.2 hv
    have f8_1 : B 8 1 = I 8 1 := ((congrFun (yc 8 (by decide)) 1).trans (h0.2.2.2.1 8 1 (by decide) (by decide) (by decide)))
    have f0_15 : B 0 15 = I 0 15 := ((congrFun (yc 0 (by decide)) 15).trans (h0.2.2.2.1 0 15 (by decide) (by decide) (by decide)))
    have f0_12 : B 0 12 = I 0 12 := ((congrFun (yc 0 (by decide)) 12).trans (h0.2.2.2.1 0 12 (by decide) (by decide) (by decide)))
    have f1_5 : B 1 5 = I 1 5 := ((congrFun (yc 1 (by decide)) 5).trans (h0.2.2.2.1 1 5 (by decide) (by decide) (by decide)))
    have f1_6 : B 1 6 = I 1 6 := ((congrFun (yc 1 (by decide)) 6).trans (h0.2.2.2.1 1 6 (by decide) (by decide) (by decide)))
    have f1_7 : B 1 7 = I 1 7 := ((congrFun (yc 1 (by decide)) 7).trans (h0.2.2.2.1 1 7 (by decide) (by decide) (by decide)))
    have f1_11 : B 1 11 = I 1 11 := ((congrFun (yc 1 (by decide)) 11).trans (h0.2.2.2.1 1 11 (by decide) (by decide) (by decide)))
    have e49_10 : A 49 10 = I 49 10 := congrFun (h0.1 49 (by decide)) 10
    have f49_10 : B 49 10 = A 49 10 := hh.1.2 10 (by decide)
    have e49_6 : A 49 6 = I 49 6 := congrFun (h0.1 49 (by decide)) 6
    have f49_6 : B 49 6 = A 49 6 := hh.1.2 6 (by decide)
    have e49_33 : A 49 33 = I 49 33 := congrFun (h0.1 49 (by decide)) 33
    have f49_33 : B 49 33 = A 49 33 := hh.1.2 33 (by decide)
    have v304 : B 51 304 = I 51 304 := by rw [d2]; exact (up1_n _ _ (by omega)).trans (congrFun z51 304)
    have v305 : B 51 305 = I 51 305 := by rw [d2]; exact (up1_n _ _ (by omega)).trans (congrFun z51 305)
    have v306 : B 51 306 = I 51 306 := by rw [d2]; exact (up1_n _ _ (by omega)).trans (congrFun z51 306)
    have v309 : B 51 309 = I 51 309 := by rw [d2]; exact (up1_n _ _ (by omega)).trans (congrFun z51 309)
    exact ⟨CPF_g h hC ⟨by omega, by omega, by omega, by omega, by omega, by omega, by omega⟩ (TB5_k tb f8_1 ((yc 9 (by decide)).trans (Fw_row h0.2.2.2.1 9 (by decide) (by decide) (by decide))) ((hh.1.1 55 (by decide) (by decide)).trans (h0.1 55 (by decide)))) (fun j hj => by
        rw [yc 2 (by decide), c2, d2, z51]
        by_cases e9 : j = a.toNat
        · rw [e9, up1_s, up1_s]
        · rw [up1_n _ _ e9, up1_n _ _ (by omega)]; exact ol j hj) (WN5_k wn ((yc 6 (by decide)).trans (Fw_row h0.2.2.2.1 6 (by decide) (by decide) (by decide))) (fun j hj => by rw [d2]; exact (up1_n _ _ (by omega)).trans (congrFun z51 _))) (TR5_k tr f0_12 ((yc 46 (by decide)).trans (Fw_row h0.2.2.2.1 46 (by decide) (by decide) (by decide))) ((hh.1.1 67 (by decide) (by decide)).trans (h0.1 67 (by decide)))) (SR_of sr ((yc 43 (by decide)).trans (Fw_row h0.2.2.2.1 43 (by decide) (by decide) (by decide))) ((yc 45 (by decide)).trans (Fw_row h0.2.2.2.1 45 (by decide) (by decide) (by decide)))) ((hh.1.1 52 (by decide) (by decide)).trans (h0.1 52 (by decide))) ((hh.1.1 53 (by decide) (by decide)).trans (h0.1 53 (by decide))) (fun k hk => (yc k (by omega)).trans (h0.1 k (by omega))), by rw [c1, d1, z51]; exact ol _ (by omega)⟩
  · have hb := h0.2.2.2.2.1 hv
    have hd := hd0.1 hv
    have f8_1 : B 8 1 = I 8 1 := ((congrFun (yc 8 (by decide)) 1).trans (hb.2.1 8 1 (by decide) (by decide) (by decide)))
    have f0_15 : B 0 15 = I 0 15 := ((congrFun (yc 0 (by decide)) 15).trans (hb.2.1 0 15 (by decide) (by decide) (by decide)))
    have f0_12 : B 0 12 = I 0 12 := ((congrFun (yc 0 (by decide)) 12).trans (hb.2.1 0 12 (by decide) (by decide) (by decide)))
    have f1_5 : B 1 5 = I 1 5 := ((congrFun (yc 1 (by decide)) 5).trans (hb.2.1 1 5 (by decide) (by decide) (by decide)))
    have f1_6 : B 1 6 = I 1 6 := ((congrFun (yc 1 (by decide)) 6).trans (hb.2.1 1 6 (by decide) (by decide) (by decide)))
    have f1_7 : B 1 7 = I 1 7 := ((congrFun (yc 1 (by decide)) 7).trans (hb.2.1 1 7 (by decide) (by decide) (by decide)))
    have f1_11 : B 1 11 = I 1 11 := ((congrFun (yc 1 (by decide)) 11).trans (hb.2.1 1 11 (by decide) (by decide) (by decide)))
    have e49_10 : A 49 10 = I 49 10 := congrFun (h0.1 49 (by decide)) 10
    have f49_10 : B 49 10 = A 49 10 := hh.1.2 10 (by decide)
    have e49_6 : A 49 6 = I 49 6 := congrFun (h0.1 49 (by decide)) 6
    have f49_6 : B 49 6 = A 49 6 := hh.1.2 6 (by decide)
    have e49_33 : A 49 33 = I 49 33 := congrFun (h0.1 49 (by decide)) 33
    have f49_33 : B 49 33 = A 49 33 := hh.1.2 33 (by decide)
    have y51 : B 51 = I 51 := hd.2.trans z51
    have f51_304 : B 51 304 = I 51 304 := congrFun y51 304
    have f51_305 : B 51 305 = I 51 305 := congrFun y51 305
    have f51_306 : B 51 306 = I 51 306 := congrFun y51 306
    have f51_309 : B 51 309 = I 51 309 := congrFun y51 309
    exact ⟨CPF_g h hC ⟨by omega, by omega, by omega, by omega, by omega, by omega, by omega⟩ (TB5_k tb f8_1 ((yc 9 (by decide)).trans (Fw_row hb.2.1 9 (by decide) (by decide) (by decide))) ((hh.1.1 55 (by decide) (by decide)).trans (h0.1 55 (by decide)))) (OL5_k ol ((yc 2 (by decide)).trans (Fw_row hb.2.1 2 (by decide) (by decide) (by decide))) (fun j _ => congrFun y51 _)) (WN5_k wn ((yc 6 (by decide)).trans (Fw_row hb.2.1 6 (by decide) (by decide) (by decide))) (fun j _ => congrFun y51 _)) (TR5_k tr f0_12 ((yc 46 (by decide)).trans (Fw_row hb.2.1 46 (by decide) (by decide) (by decide))) ((hh.1.1 67 (by decide) (by decide)).trans (h0.1 67 (by decide)))) (SR_of sr ((yc 43 (by decide)).trans (Fw_row hb.2.1 43 (by decide) (by decide) (by decide))) ((yc 45 (by decide)).trans (Fw_row hb.2.1 45 (by decide) (by decide) (by decide)))) ((hh.1.1 52 (by decide) (by decide)).trans (h0.1 52 (by decide))) ((hh.1.1 53 (by decide) (by decide)).trans (h0.1 53 (by decide))) (fun k hk => (yc k (by omega)).trans (h0.1 k (by omega))), by omega⟩
set_option maxHeartbeats 1000000 in
theorem CF_broken {I A B J JA JB : aI1} {R : aR1} {S : aS1} {a b x y : Int} (h : CPF I R) (hC : CI I R S) (h0 : Kp 0 49 I A ∧ Kp 0 49 J JA ∧ CX A ∧ Fw [18, 19, 20, 21, 22, 23, 24, 25, 26, 27, 28, 29, 30, 31, 32, 33, 34, 35, 36, 48] [(0, 16), (1, 7)] I A ∧ (¬ (0 ≤ a ∧ a < I 1 5 ∧ 0 ≤ b ∧ b ≤ 1) → x = -1 ∧ RFc I A (-1)) ∧ ((0 ≤ a ∧ a < I 1 5 ∧ 0 ≤ b ∧ b ≤ 1) → x = i_and (i_shr (I 1 7) a) 1 ∧ Fw [18, 19, 20, 21, 22, 23, 24, 25, 26, 27, 28, 29, 30, 31, 32, 33, 34, 35, 36] [(0, 16), (1, 7)] I A ∧ A 0 16 = 0 ∧ A 1 7 = i_or (i_and (I 1 7) (i_xor (i_shl 1 a) (-1))) (i_shl b a))) (hh : Ch [50, 51] [0, 1] A B ∧ Kp 49 73 JA JB ∧ RX B ∧ (¬ (0 ≤ a ∧ a < A 51 304 ∧ 0 ≤ b ∧ b ≤ 1) → y = -1 ∧ B 51 = A 51) ∧ ((0 ≤ a ∧ a < A 51 304 ∧ 0 ≤ b ∧ b ≤ 1) → y = i_and (i_shr (A 51 306) a) 1 ∧ B 51 = up1 (A 51) 306 (i_or (i_and (A 51 306) (i_xor (i_shl 1 a) (-1))) (i_shl b a)))) : CPF B R ∧ x = y := by
  obtain ⟨⟨q8, q15, q12, q5, q6, q7, q11⟩, tb, ol, wn, tr, sr, hi, di, im⟩ := id h
  have yc : ∀ k, k < 49 ∨ 73 ≤ k → B k = A k := Ch_kp hh.1 (by decide)
  have z51 : A 51 = I 51 := h0.1 51 (by decide)
  have x5 := XI_o hC.2.1.1
  have e304 : A 51 304 = I 1 5 := by rw [z51, ← q5]
  have e306 : A 51 306 = I 1 7 := by rw [z51, ← q7]
  have hd0 := hh.2.2.2
  rw [e304, e306] at hd0
  by_cases hv : (0 ≤ a ∧ a < I 1 5 ∧ 0 ≤ b ∧ b ≤ 1)
  · obtain ⟨c1, -, -, c2⟩ := h0.2.2.2.2.2 hv
    obtain ⟨d1, d2⟩ := hd0.2 hv
    have f8_1 : B 8 1 = I 8 1 := ((congrFun (yc 8 (by decide)) 1).trans (h0.2.2.2.1 8 1 (by decide) (by decide) (by decide)))
    have f0_15 : B 0 15 = I 0 15 := ((congrFun (yc 0 (by decide)) 15).trans (h0.2.2.2.1 0 15 (by decide) (by decide) (by decide)))
    have f0_12 : B 0 12 = I 0 12 := ((congrFun (yc 0 (by decide)) 12).trans (h0.2.2.2.1 0 12 (by decide) (by decide) (by decide)))
    have f1_5 : B 1 5 = I 1 5 := ((congrFun (yc 1 (by decide)) 5).trans (h0.2.2.2.1 1 5 (by decide) (by decide) (by decide)))
    have f1_6 : B 1 6 = I 1 6 := ((congrFun (yc 1 (by decide)) 6).trans (h0.2.2.2.1 1 6 (by decide) (by decide) (by decide)))
    have g1_7 : B 1 7 = A 1 7 := congrFun (yc 1 (by decide)) 7
    have f1_11 : B 1 11 = I 1 11 := ((congrFun (yc 1 (by decide)) 11).trans (h0.2.2.2.1 1 11 (by decide) (by decide) (by decide)))
    have e49_10 : A 49 10 = I 49 10 := congrFun (h0.1 49 (by decide)) 10
    have f49_10 : B 49 10 = A 49 10 := hh.1.2 10 (by decide)
    have e49_6 : A 49 6 = I 49 6 := congrFun (h0.1 49 (by decide)) 6
    have f49_6 : B 49 6 = A 49 6 := hh.1.2 6 (by decide)
    have e49_33 : A 49 33 = I 49 33 := congrFun (h0.1 49 (by decide)) 33
    have f49_33 : B 49 33 = A 49 33 := hh.1.2 33 (by decide)
    have v304 : B 51 304 = I 51 304 := by rw [d2]; exact (up1_n _ _ (by omega)).trans (congrFun z51 304)
    have v305 : B 51 305 = I 51 305 := by rw [d2]; exact (up1_n _ _ (by omega)).trans (congrFun z51 305)
    have v309 : B 51 309 = I 51 309 := by rw [d2]; exact (up1_n _ _ (by omega)).trans (congrFun z51 309)
    have v306 : B 51 306 = B 1 7 := by rw [d2, up1_s, g1_7, c2]
    exact ⟨CPF_g h hC ⟨by omega, by omega, by omega, by omega, by omega, by omega, by omega⟩ (TB5_k tb f8_1 ((yc 9 (by decide)).trans (Fw_row h0.2.2.2.1 9 (by decide) (by decide) (by decide))) ((hh.1.1 55 (by decide) (by decide)).trans (h0.1 55 (by decide)))) (OL5_k ol ((yc 2 (by decide)).trans (Fw_row h0.2.2.2.1 2 (by decide) (by decide) (by decide))) (fun j hj => by rw [d2]; exact (up1_n _ _ (by omega)).trans (congrFun z51 _))) (WN5_k wn ((yc 6 (by decide)).trans (Fw_row h0.2.2.2.1 6 (by decide) (by decide) (by decide))) (fun j hj => by rw [d2]; exact (up1_n _ _ (by omega)).trans (congrFun z51 _))) (TR5_k tr f0_12 ((yc 46 (by decide)).trans (Fw_row h0.2.2.2.1 46 (by decide) (by decide) (by decide))) ((hh.1.1 67 (by decide) (by decide)).trans (h0.1 67 (by decide)))) (SR_of sr ((yc 43 (by decide)).trans (Fw_row h0.2.2.2.1 43 (by decide) (by decide) (by decide))) ((yc 45 (by decide)).trans (Fw_row h0.2.2.2.1 45 (by decide) (by decide) (by decide)))) ((hh.1.1 52 (by decide) (by decide)).trans (h0.1 52 (by decide))) ((hh.1.1 53 (by decide) (by decide)).trans (h0.1 53 (by decide))) (fun k hk => (yc k (by omega)).trans (h0.1 k (by omega))), by rw [c1, d1]⟩
  · have hb := h0.2.2.2.2.1 hv
    have hd := hd0.1 hv
    have f8_1 : B 8 1 = I 8 1 := ((congrFun (yc 8 (by decide)) 1).trans (hb.2.1 8 1 (by decide) (by decide) (by decide)))
    have f0_15 : B 0 15 = I 0 15 := ((congrFun (yc 0 (by decide)) 15).trans (hb.2.1 0 15 (by decide) (by decide) (by decide)))
    have f0_12 : B 0 12 = I 0 12 := ((congrFun (yc 0 (by decide)) 12).trans (hb.2.1 0 12 (by decide) (by decide) (by decide)))
    have f1_5 : B 1 5 = I 1 5 := ((congrFun (yc 1 (by decide)) 5).trans (hb.2.1 1 5 (by decide) (by decide) (by decide)))
    have f1_6 : B 1 6 = I 1 6 := ((congrFun (yc 1 (by decide)) 6).trans (hb.2.1 1 6 (by decide) (by decide) (by decide)))
    have f1_7 : B 1 7 = I 1 7 := ((congrFun (yc 1 (by decide)) 7).trans (hb.2.1 1 7 (by decide) (by decide) (by decide)))
    have f1_11 : B 1 11 = I 1 11 := ((congrFun (yc 1 (by decide)) 11).trans (hb.2.1 1 11 (by decide) (by decide) (by decide)))
    have e49_10 : A 49 10 = I 49 10 := congrFun (h0.1 49 (by decide)) 10
    have f49_10 : B 49 10 = A 49 10 := hh.1.2 10 (by decide)
    have e49_6 : A 49 6 = I 49 6 := congrFun (h0.1 49 (by decide)) 6
    have f49_6 : B 49 6 = A 49 6 := hh.1.2 6 (by decide)
    have e49_33 : A 49 33 = I 49 33 := congrFun (h0.1 49 (by decide)) 33
    have f49_33 : B 49 33 = A 49 33 := hh.1.2 33 (by decide)
    have y51 : B 51 = I 51 := hd.2.trans z51
    have f51_304 : B 51 304 = I 51 304 := congrFun y51 304
    have f51_305 : B 51 305 = I 51 305 := congrFun y51 305
    have f51_306 : B 51 306 = I 51 306 := congrFun y51 306
    have f51_309 : B 51 309 = I 51 309 := congrFun y51 309
    exact ⟨CPF_g h hC ⟨by omega, by omega, by omega, by omega, by omega, by omega, by omega⟩ (TB5_k tb f8_1 ((yc 9 (by decide)).trans (Fw_row hb.2.1 9 (by decide) (by decide) (by decide))) ((hh.1.1 55 (by decide) (by decide)).trans (h0.1 55 (by decide)))) (OL5_k ol ((yc 2 (by decide)).trans (Fw_row hb.2.1 2 (by decide) (by decide) (by decide))) (fun j _ => congrFun y51 _)) (WN5_k wn ((yc 6 (by decide)).trans (Fw_row hb.2.1 6 (by decide) (by decide) (by decide))) (fun j _ => congrFun y51 _)) (TR5_k tr f0_12 ((yc 46 (by decide)).trans (Fw_row hb.2.1 46 (by decide) (by decide) (by decide))) ((hh.1.1 67 (by decide) (by decide)).trans (h0.1 67 (by decide)))) (SR_of sr ((yc 43 (by decide)).trans (Fw_row hb.2.1 43 (by decide) (by decide) (by decide))) ((yc 45 (by decide)).trans (Fw_row hb.2.1 45 (by decide) (by decide) (by decide)))) ((hh.1.1 52 (by decide) (by decide)).trans (h0.1 52 (by decide))) ((hh.1.1 53 (by decide) (by decide)).trans (h0.1 53 (by decide))) (fun k hk => (yc k (by omega)).trans (h0.1 k (by omega))), by omega⟩
set_option maxHeartbeats 1000000 in
theorem CF_read {I A B J JA JB : aI1} {R : aR1} {S : aS1} {a b x y : Int} (h : CPF I R) (hC : CI I R S) (h0 : Kp 0 49 I A ∧ Kp 0 49 J JA ∧ CX A ∧ Fw [3, 18, 19, 20, 21, 22, 23, 24, 25, 26, 27, 28, 29, 30, 31, 32, 33, 34, 35, 36, 48] [(0, 16)] I A ∧ (¬ (0 ≤ a ∧ a ≤ FU (I 1 5) ∧ (b = -1 ∨ (0 ≤ b ∧ b < I 1 6))) → x = -1 ∧ RFc I A (-1)) ∧ ((0 ≤ a ∧ a ≤ FU (I 1 5) ∧ (b = -1 ∨ (0 ≤ b ∧ b < I 1 6))) → x = I 3 a.toNat ∧ Fw [3, 18, 19, 20, 21, 22, 23, 24, 25, 26, 27, 28, 29, 30, 31, 32, 33, 34, 35, 36] [(0, 16)] I A ∧ A 0 16 = 0 ∧ A 3 = up1 (I 3) a.toNat b)) (hh : Ch [50, 51] [0, 1] A B ∧ Kp 49 73 JA JB ∧ RX B ∧ (¬ (0 ≤ a ∧ a ≤ FU (A 51 304) ∧ (b = -1 ∨ (0 ≤ b ∧ b < A 51 305))) → y = -1 ∧ B 51 = A 51) ∧ ((0 ≤ a ∧ a ≤ FU (A 51 304) ∧ (b = -1 ∨ (0 ≤ b ∧ b < A 51 305))) → y = A 51 a.toNat ∧ B 51 = up1 (A 51) a.toNat b)) : CPF B R := by
  obtain ⟨⟨q8, q15, q12, q5, q6, q7, q11⟩, tb, ol, wn, tr, sr, hi, di, im⟩ := id h
  have yc : ∀ k, k < 49 ∨ 73 ≤ k → B k = A k := Ch_kp hh.1 (by decide)
  have z51 : A 51 = I 51 := h0.1 51 (by decide)
  have x5 := XI_o hC.2.1.1
  have ef : FU (A 51 304) = FU (I 1 5) := by rw [z51, ← q5]
  have e305 : A 51 305 = I 1 6 := by rw [z51, ← q6]
  have k51 : ∀ j : Nat, 256 ≤ j → B 51 j = I 51 j := fun j hj => by
    by_cases hv : (0 ≤ a ∧ a ≤ FU (A 51 304) ∧ (b = -1 ∨ (0 ≤ b ∧ b < A 51 305)))
    · rw [(hh.2.2.2.2 hv).2, up1_n _ _ (by omega)]; exact congrFun z51 j
    · rw [(hh.2.2.2.1 hv).2]; exact congrFun z51 j
  have f8_1 : B 8 1 = I 8 1 := ((congrFun (yc 8 (by decide)) 1).trans (h0.2.2.2.1 8 1 (by decide) (by decide) (by decide)))
  have f0_15 : B 0 15 = I 0 15 := ((congrFun (yc 0 (by decide)) 15).trans (h0.2.2.2.1 0 15 (by decide) (by decide) (by decide)))
  have f0_12 : B 0 12 = I 0 12 := ((congrFun (yc 0 (by decide)) 12).trans (h0.2.2.2.1 0 12 (by decide) (by decide) (by decide)))
  have f1_5 : B 1 5 = I 1 5 := ((congrFun (yc 1 (by decide)) 5).trans (h0.2.2.2.1 1 5 (by decide) (by decide) (by decide)))
  have f1_6 : B 1 6 = I 1 6 := ((congrFun (yc 1 (by decide)) 6).trans (h0.2.2.2.1 1 6 (by decide) (by decide) (by decide)))
  have f1_7 : B 1 7 = I 1 7 := ((congrFun (yc 1 (by decide)) 7).trans (h0.2.2.2.1 1 7 (by decide) (by decide) (by decide)))
  have f1_11 : B 1 11 = I 1 11 := ((congrFun (yc 1 (by decide)) 11).trans (h0.2.2.2.1 1 11 (by decide) (by decide) (by decide)))
  have e49_10 : A 49 10 = I 49 10 := congrFun (h0.1 49 (by decide)) 10
  have f49_10 : B 49 10 = A 49 10 := hh.1.2 10 (by decide)
  have e49_6 : A 49 6 = I 49 6 := congrFun (h0.1 49 (by decide)) 6
  have f49_6 : B 49 6 = A 49 6 := hh.1.2 6 (by decide)
  have e49_33 : A 49 33 = I 49 33 := congrFun (h0.1 49 (by decide)) 33
  have f49_33 : B 49 33 = A 49 33 := hh.1.2 33 (by decide)
  have f51_304 : B 51 304 = I 51 304 := k51 304 (by omega)
  have f51_305 : B 51 305 = I 51 305 := k51 305 (by omega)
  have f51_306 : B 51 306 = I 51 306 := k51 306 (by omega)
  have f51_309 : B 51 309 = I 51 309 := k51 309 (by omega)
  exact CPF_g h hC ⟨by omega, by omega, by omega, by omega, by omega, by omega, by omega⟩ (TB5_k tb f8_1 ((yc 9 (by decide)).trans (Fw_row h0.2.2.2.1 9 (by decide) (by decide) (by decide))) ((hh.1.1 55 (by decide) (by decide)).trans (h0.1 55 (by decide)))) (OL5_k ol ((yc 2 (by decide)).trans (Fw_row h0.2.2.2.1 2 (by decide) (by decide) (by decide))) (fun j hj => k51 _ (by omega))) (WN5_k wn ((yc 6 (by decide)).trans (Fw_row h0.2.2.2.1 6 (by decide) (by decide) (by decide))) (fun j hj => k51 _ (by omega))) (TR5_k tr f0_12 ((yc 46 (by decide)).trans (Fw_row h0.2.2.2.1 46 (by decide) (by decide) (by decide))) ((hh.1.1 67 (by decide) (by decide)).trans (h0.1 67 (by decide)))) (SR_of sr ((yc 43 (by decide)).trans (Fw_row h0.2.2.2.1 43 (by decide) (by decide) (by decide))) ((yc 45 (by decide)).trans (Fw_row h0.2.2.2.1 45 (by decide) (by decide) (by decide)))) ((hh.1.1 52 (by decide) (by decide)).trans (h0.1 52 (by decide))) ((hh.1.1 53 (by decide) (by decide)).trans (h0.1 53 (by decide))) (fun k hk => (yc k (by omega)).trans (h0.1 k (by omega)))
set_option maxHeartbeats 1000000 in
theorem CF_dawn {I A B J JA JB : aI1} {R : aR1} {S : aS1} {x : Int} (h : CPF I R) (hC : CI I R S) (h0 : Kp 0 49 I A ∧ Kp 0 49 J JA ∧ CX A ∧ Fw [] [(1, 8), (1, 10)] I A ∧ x = bc (I 1 8) ∧ A 1 8 = 0 ∧ A 1 10 = 0) (hh : Ch [51] [1] A B ∧ Kp 49 73 JA JB ∧ RX B ∧ B 51 = up1 (up1 (A 51) 307 0) 308 0) : CPF B R := by
  obtain ⟨⟨q8, q15, q12, q5, q6, q7, q11⟩, tb, ol, wn, tr, sr, hi, di, im⟩ := id h
  have yc : ∀ k, k < 49 ∨ 73 ≤ k → B k = A k := Ch_kp hh.1 (by decide)
  have z51 : A 51 = I 51 := h0.1 51 (by decide)
  have x5 := XI_o hC.2.1.1
  have k51 : ∀ j : Nat, j ≠ 307 → j ≠ 308 → B 51 j = I 51 j := fun j h1 h2 => by rw [hh.2.2.2, up1_n _ _ h2, up1_n _ _ h1]; exact congrFun z51 j
  have f8_1 : B 8 1 = I 8 1 := ((congrFun (yc 8 (by decide)) 1).trans (h0.2.2.2.1 8 1 (by decide) (by decide) (by decide)))
  have f0_15 : B 0 15 = I 0 15 := ((congrFun (yc 0 (by decide)) 15).trans (h0.2.2.2.1 0 15 (by decide) (by decide) (by decide)))
  have f0_12 : B 0 12 = I 0 12 := ((congrFun (yc 0 (by decide)) 12).trans (h0.2.2.2.1 0 12 (by decide) (by decide) (by decide)))
  have f1_5 : B 1 5 = I 1 5 := ((congrFun (yc 1 (by decide)) 5).trans (h0.2.2.2.1 1 5 (by decide) (by decide) (by decide)))
  have f1_6 : B 1 6 = I 1 6 := ((congrFun (yc 1 (by decide)) 6).trans (h0.2.2.2.1 1 6 (by decide) (by decide) (by decide)))
  have f1_7 : B 1 7 = I 1 7 := ((congrFun (yc 1 (by decide)) 7).trans (h0.2.2.2.1 1 7 (by decide) (by decide) (by decide)))
  have f1_11 : B 1 11 = I 1 11 := ((congrFun (yc 1 (by decide)) 11).trans (h0.2.2.2.1 1 11 (by decide) (by decide) (by decide)))
  have e49_10 : A 49 10 = I 49 10 := congrFun (h0.1 49 (by decide)) 10
  have f49_10 : B 49 10 = A 49 10 := hh.1.2 10 (by decide)
  have e49_6 : A 49 6 = I 49 6 := congrFun (h0.1 49 (by decide)) 6
  have f49_6 : B 49 6 = A 49 6 := hh.1.2 6 (by decide)
  have e49_33 : A 49 33 = I 49 33 := congrFun (h0.1 49 (by decide)) 33
  have f49_33 : B 49 33 = A 49 33 := hh.1.2 33 (by decide)
  have f51_304 : B 51 304 = I 51 304 := k51 304 (by omega) (by omega)
  have f51_305 : B 51 305 = I 51 305 := k51 305 (by omega) (by omega)
  have f51_306 : B 51 306 = I 51 306 := k51 306 (by omega) (by omega)
  have f51_309 : B 51 309 = I 51 309 := k51 309 (by omega) (by omega)
  exact CPF_g h hC ⟨by omega, by omega, by omega, by omega, by omega, by omega, by omega⟩ (TB5_k tb f8_1 ((yc 9 (by decide)).trans (Fw_row h0.2.2.2.1 9 (by decide) (by decide) (by decide))) ((hh.1.1 55 (by decide) (by decide)).trans (h0.1 55 (by decide)))) (OL5_k ol ((yc 2 (by decide)).trans (Fw_row h0.2.2.2.1 2 (by decide) (by decide) (by decide))) (fun j hj => k51 _ (by omega) (by omega))) (WN5_k wn ((yc 6 (by decide)).trans (Fw_row h0.2.2.2.1 6 (by decide) (by decide) (by decide))) (fun j hj => k51 _ (by omega) (by omega))) (TR5_k tr f0_12 ((yc 46 (by decide)).trans (Fw_row h0.2.2.2.1 46 (by decide) (by decide) (by decide))) ((hh.1.1 67 (by decide) (by decide)).trans (h0.1 67 (by decide)))) (SR_of sr ((yc 43 (by decide)).trans (Fw_row h0.2.2.2.1 43 (by decide) (by decide) (by decide))) ((yc 45 (by decide)).trans (Fw_row h0.2.2.2.1 45 (by decide) (by decide) (by decide)))) ((hh.1.1 52 (by decide) (by decide)).trans (h0.1 52 (by decide))) ((hh.1.1 53 (by decide) (by decide)).trans (h0.1 53 (by decide))) (fun k hk => (yc k (by omega)).trans (h0.1 k (by omega)))
set_option maxHeartbeats 1000000 in
theorem CF_send {I A B J JA JB : aI1} {R : aR1} {S : aS1} (h : CPF I R) (hC : CI I R S) (h0 : Kp 0 49 I A ∧ Kp 0 49 J JA ∧ CX A ∧ Fw [5, 18, 19, 20, 21, 22, 23, 24, 25, 26, 27, 28, 29, 30, 31, 32, 33, 34, 35, 36, 48] [(0, 16), (1, 8), (1, 10)] I A ∧ True) (hh : Ch [50, 51, 61] [0, 1, 25] A B ∧ Kp 49 73 JA JB ∧ RX B ∧ (∀ j : Nat, (j < 264 ∨ 288 ≤ j) → j ≠ 307 → j ≠ 308 → B 51 j = A 51 j)) : CPF B R := by
  obtain ⟨⟨q8, q15, q12, q5, q6, q7, q11⟩, tb, ol, wn, tr, sr, hi, di, im⟩ := id h
  have yc : ∀ k, k < 49 ∨ 73 ≤ k → B k = A k := Ch_kp hh.1 (by decide)
  have z51 : A 51 = I 51 := h0.1 51 (by decide)
  have x5 := XI_o hC.2.1.1
  have k51 : ∀ j : Nat, (j < 264 ∨ 288 ≤ j) → j ≠ 307 → j ≠ 308 → B 51 j = I 51 j := fun j h1 h2 h3 => (hh.2.2.2 j h1 h2 h3).trans (congrFun z51 j)
  have f8_1 : B 8 1 = I 8 1 := ((congrFun (yc 8 (by decide)) 1).trans (h0.2.2.2.1 8 1 (by decide) (by decide) (by decide)))
  have f0_15 : B 0 15 = I 0 15 := ((congrFun (yc 0 (by decide)) 15).trans (h0.2.2.2.1 0 15 (by decide) (by decide) (by decide)))
  have f0_12 : B 0 12 = I 0 12 := ((congrFun (yc 0 (by decide)) 12).trans (h0.2.2.2.1 0 12 (by decide) (by decide) (by decide)))
  have f1_5 : B 1 5 = I 1 5 := ((congrFun (yc 1 (by decide)) 5).trans (h0.2.2.2.1 1 5 (by decide) (by decide) (by decide)))
  have f1_6 : B 1 6 = I 1 6 := ((congrFun (yc 1 (by decide)) 6).trans (h0.2.2.2.1 1 6 (by decide) (by decide) (by decide)))
  have f1_7 : B 1 7 = I 1 7 := ((congrFun (yc 1 (by decide)) 7).trans (h0.2.2.2.1 1 7 (by decide) (by decide) (by decide)))
  have f1_11 : B 1 11 = I 1 11 := ((congrFun (yc 1 (by decide)) 11).trans (h0.2.2.2.1 1 11 (by decide) (by decide) (by decide)))
  have e49_10 : A 49 10 = I 49 10 := congrFun (h0.1 49 (by decide)) 10
  have f49_10 : B 49 10 = A 49 10 := hh.1.2 10 (by decide)
  have e49_6 : A 49 6 = I 49 6 := congrFun (h0.1 49 (by decide)) 6
  have f49_6 : B 49 6 = A 49 6 := hh.1.2 6 (by decide)
  have e49_33 : A 49 33 = I 49 33 := congrFun (h0.1 49 (by decide)) 33
  have f49_33 : B 49 33 = A 49 33 := hh.1.2 33 (by decide)
  have f51_304 : B 51 304 = I 51 304 := k51 304 (by omega) (by omega) (by omega)
  have f51_305 : B 51 305 = I 51 305 := k51 305 (by omega) (by omega) (by omega)
  have f51_306 : B 51 306 = I 51 306 := k51 306 (by omega) (by omega) (by omega)
  have f51_309 : B 51 309 = I 51 309 := k51 309 (by omega) (by omega) (by omega)
  exact CPF_g h hC ⟨by omega, by omega, by omega, by omega, by omega, by omega, by omega⟩ (TB5_k tb f8_1 ((yc 9 (by decide)).trans (Fw_row h0.2.2.2.1 9 (by decide) (by decide) (by decide))) ((hh.1.1 55 (by decide) (by decide)).trans (h0.1 55 (by decide)))) (OL5_k ol ((yc 2 (by decide)).trans (Fw_row h0.2.2.2.1 2 (by decide) (by decide) (by decide))) (fun j hj => k51 _ (by omega) (by omega) (by omega))) (WN5_k wn ((yc 6 (by decide)).trans (Fw_row h0.2.2.2.1 6 (by decide) (by decide) (by decide))) (fun j hj => k51 _ (by omega) (by omega) (by omega))) (TR5_k tr f0_12 ((yc 46 (by decide)).trans (Fw_row h0.2.2.2.1 46 (by decide) (by decide) (by decide))) ((hh.1.1 67 (by decide) (by decide)).trans (h0.1 67 (by decide)))) (SR_of sr ((yc 43 (by decide)).trans (Fw_row h0.2.2.2.1 43 (by decide) (by decide) (by decide))) ((yc 45 (by decide)).trans (Fw_row h0.2.2.2.1 45 (by decide) (by decide) (by decide)))) ((hh.1.1 52 (by decide) (by decide)).trans (h0.1 52 (by decide))) ((hh.1.1 53 (by decide) (by decide)).trans (h0.1 53 (by decide))) (fun k hk => (yc k (by omega)).trans (h0.1 k (by omega)))
set_option maxHeartbeats 1000000 in
theorem CF_learn {I A B J JA JB : aI1} {R : aR1} {S : aS1} (h : CPF I R) (hC : CI I R S) (h0 : Kp 0 49 I A ∧ Kp 0 49 J JA ∧ CX A ∧ Fw [3, 15, 16, 17, 18, 19, 20, 21, 22, 23, 24, 25, 26, 27, 28, 29, 30, 31, 32, 33, 34, 35, 36, 48] [(0, 16)] I A ∧ True) (hh : Ch [50, 51, 60] [0, 1, 19, 20, 21] A B ∧ Kp 49 73 JA JB ∧ RX B ∧ (∀ j : Nat, 256 ≤ j → B 51 j = A 51 j)) : CPF B R := by
  obtain ⟨⟨q8, q15, q12, q5, q6, q7, q11⟩, tb, ol, wn, tr, sr, hi, di, im⟩ := id h
  have yc : ∀ k, k < 49 ∨ 73 ≤ k → B k = A k := Ch_kp hh.1 (by decide)
  have z51 : A 51 = I 51 := h0.1 51 (by decide)
  have x5 := XI_o hC.2.1.1
  have k51 : ∀ j : Nat, 256 ≤ j → B 51 j = I 51 j := fun j h1 => (hh.2.2.2 j h1).trans (congrFun z51 j)
  have f8_1 : B 8 1 = I 8 1 := ((congrFun (yc 8 (by decide)) 1).trans (h0.2.2.2.1 8 1 (by decide) (by decide) (by decide)))
  have f0_15 : B 0 15 = I 0 15 := ((congrFun (yc 0 (by decide)) 15).trans (h0.2.2.2.1 0 15 (by decide) (by decide) (by decide)))
  have f0_12 : B 0 12 = I 0 12 := ((congrFun (yc 0 (by decide)) 12).trans (h0.2.2.2.1 0 12 (by decide) (by decide) (by decide)))
  have f1_5 : B 1 5 = I 1 5 := ((congrFun (yc 1 (by decide)) 5).trans (h0.2.2.2.1 1 5 (by decide) (by decide) (by decide)))
  have f1_6 : B 1 6 = I 1 6 := ((congrFun (yc 1 (by decide)) 6).trans (h0.2.2.2.1 1 6 (by decide) (by decide) (by decide)))
  have f1_7 : B 1 7 = I 1 7 := ((congrFun (yc 1 (by decide)) 7).trans (h0.2.2.2.1 1 7 (by decide) (by decide) (by decide)))
  have f1_11 : B 1 11 = I 1 11 := ((congrFun (yc 1 (by decide)) 11).trans (h0.2.2.2.1 1 11 (by decide) (by decide) (by decide)))
  have e49_10 : A 49 10 = I 49 10 := congrFun (h0.1 49 (by decide)) 10
  have f49_10 : B 49 10 = A 49 10 := hh.1.2 10 (by decide)
  have e49_6 : A 49 6 = I 49 6 := congrFun (h0.1 49 (by decide)) 6
  have f49_6 : B 49 6 = A 49 6 := hh.1.2 6 (by decide)
  have e49_33 : A 49 33 = I 49 33 := congrFun (h0.1 49 (by decide)) 33
  have f49_33 : B 49 33 = A 49 33 := hh.1.2 33 (by decide)
  have f51_304 : B 51 304 = I 51 304 := k51 304 (by omega)
  have f51_305 : B 51 305 = I 51 305 := k51 305 (by omega)
  have f51_306 : B 51 306 = I 51 306 := k51 306 (by omega)
  have f51_309 : B 51 309 = I 51 309 := k51 309 (by omega)
  exact CPF_g h hC ⟨by omega, by omega, by omega, by omega, by omega, by omega, by omega⟩ (TB5_k tb f8_1 ((yc 9 (by decide)).trans (Fw_row h0.2.2.2.1 9 (by decide) (by decide) (by decide))) ((hh.1.1 55 (by decide) (by decide)).trans (h0.1 55 (by decide)))) (OL5_k ol ((yc 2 (by decide)).trans (Fw_row h0.2.2.2.1 2 (by decide) (by decide) (by decide))) (fun j hj => k51 _ (by omega))) (WN5_k wn ((yc 6 (by decide)).trans (Fw_row h0.2.2.2.1 6 (by decide) (by decide) (by decide))) (fun j hj => k51 _ (by omega))) (TR5_k tr f0_12 ((yc 46 (by decide)).trans (Fw_row h0.2.2.2.1 46 (by decide) (by decide) (by decide))) ((hh.1.1 67 (by decide) (by decide)).trans (h0.1 67 (by decide)))) (SR_of sr ((yc 43 (by decide)).trans (Fw_row h0.2.2.2.1 43 (by decide) (by decide) (by decide))) ((yc 45 (by decide)).trans (Fw_row h0.2.2.2.1 45 (by decide) (by decide) (by decide)))) ((hh.1.1 52 (by decide) (by decide)).trans (h0.1 52 (by decide))) ((hh.1.1 53 (by decide) (by decide)).trans (h0.1 53 (by decide))) (fun k hk => (yc k (by omega)).trans (h0.1 k (by omega)))
set_option maxHeartbeats 1000000 in
theorem CF_codes {I A B J JA JB : aI1} {R : aR1} {S : aS1} {a b c x y : Int} (h : CPF I R) (hC : CI I R S) (h0 : Kp 0 49 I A ∧ Kp 0 49 J JA ∧ CX A ∧ Fw [37, 38, 39, 40, 41, 42, 43, 44, 45] [] I A ∧ SR A ∧ (¬ (1 ≤ a ∧ a ≤ 3 ∧ 2 ≤ b ∧ b ≤ 4 ∧ 0 ≤ c ∧ c ≤ 8) → x = -1) ∧ ((1 ≤ a ∧ a ≤ 3 ∧ 2 ≤ b ∧ b ≤ 4 ∧ 0 ≤ c ∧ c ≤ 8) → x = TBX a b c)) (hh : Ch [51, 61, 65, 66] [25, 31] A B ∧ Kp 49 73 JA JB ∧ RX B ∧ (¬ (1 ≤ a ∧ a ≤ 3 ∧ 2 ≤ b ∧ b ≤ 4 ∧ 0 ≤ c ∧ c ≤ 8) → y = -1) ∧ ((1 ≤ a ∧ a ≤ 3 ∧ 2 ≤ b ∧ b ≤ 4 ∧ 0 ≤ c ∧ c ≤ 8) → y = TBX a b c) ∧ (∀ j : Nat, 256 ≤ j → B 51 j = A 51 j)) : CPF B R ∧ x = y := by
  obtain ⟨⟨q8, q15, q12, q5, q6, q7, q11⟩, tb, ol, wn, tr, sr, hi, di, im⟩ := id h
  have yc : ∀ k, k < 49 ∨ 73 ≤ k → B k = A k := Ch_kp hh.1 (by decide)
  have z51 : A 51 = I 51 := h0.1 51 (by decide)
  have x5 := XI_o hC.2.1.1
  have k51 : ∀ j : Nat, 256 ≤ j → B 51 j = I 51 j := fun j h1 => (hh.2.2.2.2.2 j h1).trans (congrFun z51 j)
  have u0 := h0.2.2.2.2.2
  have u1 : _ ∧ _ := ⟨hh.2.2.2.1, hh.2.2.2.2.1⟩
  have f8_1 : B 8 1 = I 8 1 := ((congrFun (yc 8 (by decide)) 1).trans (h0.2.2.2.1 8 1 (by decide) (by decide) (by decide)))
  have f0_15 : B 0 15 = I 0 15 := ((congrFun (yc 0 (by decide)) 15).trans (h0.2.2.2.1 0 15 (by decide) (by decide) (by decide)))
  have f0_12 : B 0 12 = I 0 12 := ((congrFun (yc 0 (by decide)) 12).trans (h0.2.2.2.1 0 12 (by decide) (by decide) (by decide)))
  have f1_5 : B 1 5 = I 1 5 := ((congrFun (yc 1 (by decide)) 5).trans (h0.2.2.2.1 1 5 (by decide) (by decide) (by decide)))
  have f1_6 : B 1 6 = I 1 6 := ((congrFun (yc 1 (by decide)) 6).trans (h0.2.2.2.1 1 6 (by decide) (by decide) (by decide)))
  have f1_7 : B 1 7 = I 1 7 := ((congrFun (yc 1 (by decide)) 7).trans (h0.2.2.2.1 1 7 (by decide) (by decide) (by decide)))
  have f1_11 : B 1 11 = I 1 11 := ((congrFun (yc 1 (by decide)) 11).trans (h0.2.2.2.1 1 11 (by decide) (by decide) (by decide)))
  have e49_10 : A 49 10 = I 49 10 := congrFun (h0.1 49 (by decide)) 10
  have f49_10 : B 49 10 = A 49 10 := hh.1.2 10 (by decide)
  have e49_6 : A 49 6 = I 49 6 := congrFun (h0.1 49 (by decide)) 6
  have f49_6 : B 49 6 = A 49 6 := hh.1.2 6 (by decide)
  have e49_33 : A 49 33 = I 49 33 := congrFun (h0.1 49 (by decide)) 33
  have f49_33 : B 49 33 = A 49 33 := hh.1.2 33 (by decide)
  have f51_304 : B 51 304 = I 51 304 := k51 304 (by omega)
  have f51_305 : B 51 305 = I 51 305 := k51 305 (by omega)
  have f51_306 : B 51 306 = I 51 306 := k51 306 (by omega)
  have f51_309 : B 51 309 = I 51 309 := k51 309 (by omega)
  exact ⟨CPF_g h hC ⟨by omega, by omega, by omega, by omega, by omega, by omega, by omega⟩ (TB5_k tb f8_1 ((yc 9 (by decide)).trans (Fw_row h0.2.2.2.1 9 (by decide) (by decide) (by decide))) ((hh.1.1 55 (by decide) (by decide)).trans (h0.1 55 (by decide)))) (OL5_k ol ((yc 2 (by decide)).trans (Fw_row h0.2.2.2.1 2 (by decide) (by decide) (by decide))) (fun j hj => k51 _ (by omega))) (WN5_k wn ((yc 6 (by decide)).trans (Fw_row h0.2.2.2.1 6 (by decide) (by decide) (by decide))) (fun j hj => k51 _ (by omega))) (TR5_k tr f0_12 ((yc 46 (by decide)).trans (Fw_row h0.2.2.2.1 46 (by decide) (by decide) (by decide))) ((hh.1.1 67 (by decide) (by decide)).trans (h0.1 67 (by decide)))) (SR_of h0.2.2.2.2.1 (yc 43 (by decide)) (yc 45 (by decide))) ((hh.1.1 52 (by decide) (by decide)).trans (h0.1 52 (by decide))) ((hh.1.1 53 (by decide) (by decide)).trans (h0.1 53 (by decide))) (fun k hk => (yc k (by omega)).trans (h0.1 k (by omega))), by omega⟩
set_option maxHeartbeats 1000000 in
theorem CF_make {I A B J JA JB : aI1} {R : aR1} {S : aS1} {a b c x y : Int} (h : CPF I R) (hC : CI I R S) (h0 : Kp 0 49 I A ∧ Kp 0 49 J JA ∧ CX A ∧ Fw [3, 18, 19, 20, 21, 22, 23, 24, 25, 26, 27, 28, 29, 30, 31, 32, 33, 34, 35, 36, 37, 38, 39, 40, 41, 42, 43, 44, 45, 48] [(0, 16)] I A ∧ SR A ∧ (¬ (1 ≤ a ∧ a ≤ 3 ∧ 2 ≤ b ∧ b ≤ 4 ∧ 0 ≤ c ∧ c ≤ 8) → x = -1) ∧ ((1 ≤ a ∧ a ≤ 3 ∧ 2 ≤ b ∧ b ≤ 4 ∧ 0 ≤ c ∧ c ≤ 8) → ¬ (a = I 1 5 ∧ b = I 1 6 ∧ ¬ TBX a b c = 0) → x = -3) ∧ ((1 ≤ a ∧ a ≤ 3 ∧ 2 ≤ b ∧ b ≤ 4 ∧ 0 ≤ c ∧ c ≤ 8) → (a = I 1 5 ∧ b = I 1 6 ∧ ¬ TBX a b c = 0) → x = 0)) (hh : Ch [50, 51, 61, 65, 66] [0, 1, 25, 31] A B ∧ Kp 49 73 JA JB ∧ RX B ∧ B 51 304 = A 51 304 ∧ B 51 305 = A 51 305 ∧ B 51 309 = A 51 309 ∧ (¬ (1 ≤ a ∧ a ≤ 3 ∧ 2 ≤ b ∧ b ≤ 4 ∧ 0 ≤ c ∧ c ≤ 8) → y = -1) ∧ ((1 ≤ a ∧ a ≤ 3 ∧ 2 ≤ b ∧ b ≤ 4 ∧ 0 ≤ c ∧ c ≤ 8) → ¬ (a = A 51 304 ∧ b = A 51 305 ∧ ¬ TBX a b c = 0) → y = -3) ∧ ((1 ≤ a ∧ a ≤ 3 ∧ 2 ≤ b ∧ b ≤ 4 ∧ 0 ≤ c ∧ c ≤ 8) → (a = A 51 304 ∧ b = A 51 305 ∧ ¬ TBX a b c = 0) → y = 0) ∧ (∀ j : Nat, 256 ≤ j → B 51 j = A 51 j)) : CPF B R ∧ x = y := by
  obtain ⟨⟨q8, q15, q12, q5, q6, q7, q11⟩, tb, ol, wn, tr, sr, hi, di, im⟩ := id h
  have yc : ∀ k, k < 49 ∨ 73 ≤ k → B k = A k := Ch_kp hh.1 (by decide)
  have z51 : A 51 = I 51 := h0.1 51 (by decide)
  have x5 := XI_o hC.2.1.1
  have e304 : A 51 304 = I 1 5 := by rw [z51, ← q5]
  have e305 : A 51 305 = I 1 6 := by rw [z51, ← q6]
  have k51 : ∀ j : Nat, 256 ≤ j → B 51 j = I 51 j := fun j h1 => (hh.2.2.2.2.2.2.2.2.2 j h1).trans (congrFun z51 j)
  have u0 := h0.2.2.2.2.2
  have u1 : _ ∧ _ ∧ _ := ⟨hh.2.2.2.2.2.2.1, hh.2.2.2.2.2.2.2.1, hh.2.2.2.2.2.2.2.2.1⟩
  rw [e304, e305] at u1
  have f8_1 : B 8 1 = I 8 1 := ((congrFun (yc 8 (by decide)) 1).trans (h0.2.2.2.1 8 1 (by decide) (by decide) (by decide)))
  have f0_15 : B 0 15 = I 0 15 := ((congrFun (yc 0 (by decide)) 15).trans (h0.2.2.2.1 0 15 (by decide) (by decide) (by decide)))
  have f0_12 : B 0 12 = I 0 12 := ((congrFun (yc 0 (by decide)) 12).trans (h0.2.2.2.1 0 12 (by decide) (by decide) (by decide)))
  have f1_5 : B 1 5 = I 1 5 := ((congrFun (yc 1 (by decide)) 5).trans (h0.2.2.2.1 1 5 (by decide) (by decide) (by decide)))
  have f1_6 : B 1 6 = I 1 6 := ((congrFun (yc 1 (by decide)) 6).trans (h0.2.2.2.1 1 6 (by decide) (by decide) (by decide)))
  have f1_7 : B 1 7 = I 1 7 := ((congrFun (yc 1 (by decide)) 7).trans (h0.2.2.2.1 1 7 (by decide) (by decide) (by decide)))
  have f1_11 : B 1 11 = I 1 11 := ((congrFun (yc 1 (by decide)) 11).trans (h0.2.2.2.1 1 11 (by decide) (by decide) (by decide)))
  have e49_10 : A 49 10 = I 49 10 := congrFun (h0.1 49 (by decide)) 10
  have f49_10 : B 49 10 = A 49 10 := hh.1.2 10 (by decide)
  have e49_6 : A 49 6 = I 49 6 := congrFun (h0.1 49 (by decide)) 6
  have f49_6 : B 49 6 = A 49 6 := hh.1.2 6 (by decide)
  have e49_33 : A 49 33 = I 49 33 := congrFun (h0.1 49 (by decide)) 33
  have f49_33 : B 49 33 = A 49 33 := hh.1.2 33 (by decide)
  have f51_304 : B 51 304 = I 51 304 := k51 304 (by omega)
  have f51_305 : B 51 305 = I 51 305 := k51 305 (by omega)
  have f51_306 : B 51 306 = I 51 306 := k51 306 (by omega)
  have f51_309 : B 51 309 = I 51 309 := k51 309 (by omega)
  exact ⟨CPF_g h hC ⟨by omega, by omega, by omega, by omega, by omega, by omega, by omega⟩ (TB5_k tb f8_1 ((yc 9 (by decide)).trans (Fw_row h0.2.2.2.1 9 (by decide) (by decide) (by decide))) ((hh.1.1 55 (by decide) (by decide)).trans (h0.1 55 (by decide)))) (OL5_k ol ((yc 2 (by decide)).trans (Fw_row h0.2.2.2.1 2 (by decide) (by decide) (by decide))) (fun j hj => k51 _ (by omega))) (WN5_k wn ((yc 6 (by decide)).trans (Fw_row h0.2.2.2.1 6 (by decide) (by decide) (by decide))) (fun j hj => k51 _ (by omega))) (TR5_k tr f0_12 ((yc 46 (by decide)).trans (Fw_row h0.2.2.2.1 46 (by decide) (by decide) (by decide))) ((hh.1.1 67 (by decide) (by decide)).trans (h0.1 67 (by decide)))) (SR_of h0.2.2.2.2.1 (yc 43 (by decide)) (yc 45 (by decide))) ((hh.1.1 52 (by decide) (by decide)).trans (h0.1 52 (by decide))) ((hh.1.1 53 (by decide) (by decide)).trans (h0.1 53 (by decide))) (fun k hk => (yc k (by omega)).trans (h0.1 k (by omega))), by
    by_cases hv9 : (1 ≤ a ∧ a ≤ 3 ∧ 2 ≤ b ∧ b ≤ 4 ∧ 0 ≤ c ∧ c ≤ 8)
    · by_cases hw9 : (a = I 1 5 ∧ b = I 1 6 ∧ ¬ TBX a b c = 0)
      · exact (u0.2.2 hv9 hw9).trans (u1.2.2 hv9 hw9).symm
      · exact (u0.2.1 hv9 hw9).trans (u1.2.1 hv9 hw9).symm
    · exact (u0.1 hv9).trans (u1.1 hv9).symm⟩
set_option maxHeartbeats 1000000 in
theorem CF_unwant {I A B J JA JB : aI1} {R : aR1} {S : aS1} {x y : Int} (h : CPF I R) (hC : CI I R S) (h0 : Kp 0 49 I A ∧ Kp 0 49 J JA ∧ CX A ∧ Fw [33] [(1, 11)] I A ∧ x = I 1 11 ∧ A 1 11 = 0) (hh : Ch [51] [1] A B ∧ Kp 49 73 JA JB ∧ RX B ∧ y = A 51 309 ∧ B 51 = up1 (A 51) 309 0) : CPF B R ∧ x = y := by
  obtain ⟨⟨q8, q15, q12, q5, q6, q7, q11⟩, tb, ol, wn, tr, sr, hi, di, im⟩ := id h
  have yc : ∀ k, k < 49 ∨ 73 ≤ k → B k = A k := Ch_kp hh.1 (by decide)
  have z51 : A 51 = I 51 := h0.1 51 (by decide)
  have x5 := XI_o hC.2.1.1
  obtain ⟨c1, c2⟩ := h0.2.2.2.2
  obtain ⟨d1, d2⟩ := hh.2.2.2
  have z304 : A 51 304 = I 51 304 := congrFun z51 304
  have z305 : A 51 305 = I 51 305 := congrFun z51 305
  have z306 : A 51 306 = I 51 306 := congrFun z51 306
  have z309 : A 51 309 = I 51 309 := congrFun z51 309
  have f8_1 : B 8 1 = I 8 1 := ((congrFun (yc 8 (by decide)) 1).trans (h0.2.2.2.1 8 1 (by decide) (by decide) (by decide)))
  have f0_15 : B 0 15 = I 0 15 := ((congrFun (yc 0 (by decide)) 15).trans (h0.2.2.2.1 0 15 (by decide) (by decide) (by decide)))
  have f0_12 : B 0 12 = I 0 12 := ((congrFun (yc 0 (by decide)) 12).trans (h0.2.2.2.1 0 12 (by decide) (by decide) (by decide)))
  have f1_5 : B 1 5 = I 1 5 := ((congrFun (yc 1 (by decide)) 5).trans (h0.2.2.2.1 1 5 (by decide) (by decide) (by decide)))
  have f1_6 : B 1 6 = I 1 6 := ((congrFun (yc 1 (by decide)) 6).trans (h0.2.2.2.1 1 6 (by decide) (by decide) (by decide)))
  have f1_7 : B 1 7 = I 1 7 := ((congrFun (yc 1 (by decide)) 7).trans (h0.2.2.2.1 1 7 (by decide) (by decide) (by decide)))
  have g1_11 : B 1 11 = A 1 11 := congrFun (yc 1 (by decide)) 11
  have e49_10 : A 49 10 = I 49 10 := congrFun (h0.1 49 (by decide)) 10
  have f49_10 : B 49 10 = A 49 10 := hh.1.2 10 (by decide)
  have e49_6 : A 49 6 = I 49 6 := congrFun (h0.1 49 (by decide)) 6
  have f49_6 : B 49 6 = A 49 6 := hh.1.2 6 (by decide)
  have e49_33 : A 49 33 = I 49 33 := congrFun (h0.1 49 (by decide)) 33
  have f49_33 : B 49 33 = A 49 33 := hh.1.2 33 (by decide)
  have v304 : B 51 304 = I 51 304 := by rw [d2]; exact (up1_n _ _ (by omega)).trans (congrFun z51 304)
  have v305 : B 51 305 = I 51 305 := by rw [d2]; exact (up1_n _ _ (by omega)).trans (congrFun z51 305)
  have v306 : B 51 306 = I 51 306 := by rw [d2]; exact (up1_n _ _ (by omega)).trans (congrFun z51 306)
  have v309 : B 51 309 = 0 := by rw [d2, up1_s]
  exact ⟨CPF_g h hC ⟨by omega, by omega, by omega, by omega, by omega, by omega, by omega⟩ (TB5_k tb f8_1 ((yc 9 (by decide)).trans (Fw_row h0.2.2.2.1 9 (by decide) (by decide) (by decide))) ((hh.1.1 55 (by decide) (by decide)).trans (h0.1 55 (by decide)))) (OL5_k ol ((yc 2 (by decide)).trans (Fw_row h0.2.2.2.1 2 (by decide) (by decide) (by decide))) (fun j hj => by rw [d2]; exact (up1_n _ _ (by omega)).trans (congrFun z51 _))) (WN5_k wn ((yc 6 (by decide)).trans (Fw_row h0.2.2.2.1 6 (by decide) (by decide) (by decide))) (fun j hj => by rw [d2]; exact (up1_n _ _ (by omega)).trans (congrFun z51 _))) (TR5_k tr f0_12 ((yc 46 (by decide)).trans (Fw_row h0.2.2.2.1 46 (by decide) (by decide) (by decide))) ((hh.1.1 67 (by decide) (by decide)).trans (h0.1 67 (by decide)))) (SR_of sr ((yc 43 (by decide)).trans (Fw_row h0.2.2.2.1 43 (by decide) (by decide) (by decide))) ((yc 45 (by decide)).trans (Fw_row h0.2.2.2.1 45 (by decide) (by decide) (by decide)))) ((hh.1.1 52 (by decide) (by decide)).trans (h0.1 52 (by decide))) ((hh.1.1 53 (by decide) (by decide)).trans (h0.1 53 (by decide))) (fun k hk => (yc k (by omega)).trans (h0.1 k (by omega))), by omega⟩
set_option maxHeartbeats 1000000 in
theorem CF_want {I A B J JA JB : aI1} {R : aR1} {S : aS1} {a x y : Int} (h : CPF I R) (hC : CI I R S) (h0 : Kp 0 49 I A ∧ Kp 0 49 J JA ∧ CX A ∧ Fw [6, 33, 48] [(0, 16), (1, 11)] I A ∧ (¬ (0 ≤ a ∧ a < I 1 6) → x = -1 ∧ RFc I A (-1)) ∧ ((0 ≤ a ∧ a < I 1 6) → (16 ≤ I 1 11 → x = -5 ∧ RFc I A (-5)) ∧ (I 1 11 < 16 → x = I 1 11 + 1 ∧ Fw [6, 33] [(0, 16), (1, 11)] I A ∧ A 0 16 = 0 ∧ A 1 11 = I 1 11 + 1 ∧ A 6 = up1 (I 6) (I 1 11).toNat a))) (hh : Ch [50, 51] [0, 1] A B ∧ Kp 49 73 JA JB ∧ RX B ∧ (¬ (0 ≤ a ∧ a < A 51 305) → y = -1 ∧ B 51 = A 51) ∧ ((0 ≤ a ∧ a < A 51 305) → (16 ≤ A 51 309 → y = -5 ∧ B 51 = A 51) ∧ (A 51 309 < 16 → y = A 51 309 + 1 ∧ B 51 = up1 (up1 (A 51) (288 + (A 51 309).toNat) a) 309 (A 51 309 + 1)))) : CPF B R ∧ x = y := by
  obtain ⟨⟨q8, q15, q12, q5, q6, q7, q11⟩, tb, ol, wn, tr, sr, hi, di, im⟩ := id h
  have yc : ∀ k, k < 49 ∨ 73 ≤ k → B k = A k := Ch_kp hh.1 (by decide)
  have z51 : A 51 = I 51 := h0.1 51 (by decide)
  have x5 := XI_o hC.2.1.1
  have e305 : A 51 305 = I 1 6 := by rw [z51, ← q6]
  have e309 : A 51 309 = I 1 11 := by rw [z51, ← q11]
  have hd0 := hh.2.2.2
  rw [e305, e309] at hd0
  by_cases hv : (0 ≤ a ∧ a < I 1 6)
  · by_cases hw : 16 ≤ I 1 11
    · have hb := (h0.2.2.2.2.2 hv).1 hw
      have hd := (hd0.2 hv).1 hw
      have f8_1 : B 8 1 = I 8 1 := ((congrFun (yc 8 (by decide)) 1).trans (hb.2.1 8 1 (by decide) (by decide) (by decide)))
      have f0_15 : B 0 15 = I 0 15 := ((congrFun (yc 0 (by decide)) 15).trans (hb.2.1 0 15 (by decide) (by decide) (by decide)))
      have f0_12 : B 0 12 = I 0 12 := ((congrFun (yc 0 (by decide)) 12).trans (hb.2.1 0 12 (by decide) (by decide) (by decide)))
      have f1_5 : B 1 5 = I 1 5 := ((congrFun (yc 1 (by decide)) 5).trans (hb.2.1 1 5 (by decide) (by decide) (by decide)))
      have f1_6 : B 1 6 = I 1 6 := ((congrFun (yc 1 (by decide)) 6).trans (hb.2.1 1 6 (by decide) (by decide) (by decide)))
      have f1_7 : B 1 7 = I 1 7 := ((congrFun (yc 1 (by decide)) 7).trans (hb.2.1 1 7 (by decide) (by decide) (by decide)))
      have f1_11 : B 1 11 = I 1 11 := ((congrFun (yc 1 (by decide)) 11).trans (hb.2.1 1 11 (by decide) (by decide) (by decide)))
      have e49_10 : A 49 10 = I 49 10 := congrFun (h0.1 49 (by decide)) 10
      have f49_10 : B 49 10 = A 49 10 := hh.1.2 10 (by decide)
      have e49_6 : A 49 6 = I 49 6 := congrFun (h0.1 49 (by decide)) 6
      have f49_6 : B 49 6 = A 49 6 := hh.1.2 6 (by decide)
      have e49_33 : A 49 33 = I 49 33 := congrFun (h0.1 49 (by decide)) 33
      have f49_33 : B 49 33 = A 49 33 := hh.1.2 33 (by decide)
      have y51 : B 51 = I 51 := hd.2.trans z51
      have f51_304 : B 51 304 = I 51 304 := congrFun y51 304
      have f51_305 : B 51 305 = I 51 305 := congrFun y51 305
      have f51_306 : B 51 306 = I 51 306 := congrFun y51 306
      have f51_309 : B 51 309 = I 51 309 := congrFun y51 309
      exact ⟨CPF_g h hC ⟨by omega, by omega, by omega, by omega, by omega, by omega, by omega⟩ (TB5_k tb f8_1 ((yc 9 (by decide)).trans (Fw_row hb.2.1 9 (by decide) (by decide) (by decide))) ((hh.1.1 55 (by decide) (by decide)).trans (h0.1 55 (by decide)))) (OL5_k ol ((yc 2 (by decide)).trans (Fw_row hb.2.1 2 (by decide) (by decide) (by decide))) (fun j _ => congrFun y51 _)) (WN5_k wn ((yc 6 (by decide)).trans (Fw_row hb.2.1 6 (by decide) (by decide) (by decide))) (fun j _ => congrFun y51 _)) (TR5_k tr f0_12 ((yc 46 (by decide)).trans (Fw_row hb.2.1 46 (by decide) (by decide) (by decide))) ((hh.1.1 67 (by decide) (by decide)).trans (h0.1 67 (by decide)))) (SR_of sr ((yc 43 (by decide)).trans (Fw_row hb.2.1 43 (by decide) (by decide) (by decide))) ((yc 45 (by decide)).trans (Fw_row hb.2.1 45 (by decide) (by decide) (by decide)))) ((hh.1.1 52 (by decide) (by decide)).trans (h0.1 52 (by decide))) ((hh.1.1 53 (by decide) (by decide)).trans (h0.1 53 (by decide))) (fun k hk => (yc k (by omega)).trans (h0.1 k (by omega))), by omega⟩
    · obtain ⟨c1, -, -, c2, c3⟩ := (h0.2.2.2.2.2 hv).2 (by omega)
      obtain ⟨d1, d2⟩ := (hd0.2 hv).2 (by omega)
      have f8_1 : B 8 1 = I 8 1 := ((congrFun (yc 8 (by decide)) 1).trans (h0.2.2.2.1 8 1 (by decide) (by decide) (by decide)))
      have f0_15 : B 0 15 = I 0 15 := ((congrFun (yc 0 (by decide)) 15).trans (h0.2.2.2.1 0 15 (by decide) (by decide) (by decide)))
      have f0_12 : B 0 12 = I 0 12 := ((congrFun (yc 0 (by decide)) 12).trans (h0.2.2.2.1 0 12 (by decide) (by decide) (by decide)))
      have f1_5 : B 1 5 = I 1 5 := ((congrFun (yc 1 (by decide)) 5).trans (h0.2.2.2.1 1 5 (by decide) (by decide) (by decide)))
      have f1_6 : B 1 6 = I 1 6 := ((congrFun (yc 1 (by decide)) 6).trans (h0.2.2.2.1 1 6 (by decide) (by decide) (by decide)))
      have f1_7 : B 1 7 = I 1 7 := ((congrFun (yc 1 (by decide)) 7).trans (h0.2.2.2.1 1 7 (by decide) (by decide) (by decide)))
      have g1_11 : B 1 11 = A 1 11 := congrFun (yc 1 (by decide)) 11
      have e49_10 : A 49 10 = I 49 10 := congrFun (h0.1 49 (by decide)) 10
      have f49_10 : B 49 10 = A 49 10 := hh.1.2 10 (by decide)
      have e49_6 : A 49 6 = I 49 6 := congrFun (h0.1 49 (by decide)) 6
      have f49_6 : B 49 6 = A 49 6 := hh.1.2 6 (by decide)
      have e49_33 : A 49 33 = I 49 33 := congrFun (h0.1 49 (by decide)) 33
      have f49_33 : B 49 33 = A 49 33 := hh.1.2 33 (by decide)
      have v304 : B 51 304 = I 51 304 := by rw [d2]; exact (up1_n _ _ (by omega)).trans ((up1_n _ _ (by omega)).trans (congrFun z51 304))
      have v305 : B 51 305 = I 51 305 := by rw [d2]; exact (up1_n _ _ (by omega)).trans ((up1_n _ _ (by omega)).trans (congrFun z51 305))
      have v306 : B 51 306 = I 51 306 := by rw [d2]; exact (up1_n _ _ (by omega)).trans ((up1_n _ _ (by omega)).trans (congrFun z51 306))
      have v309 : B 51 309 = I 1 11 + 1 := by rw [d2, up1_s]
      exact ⟨CPF_g h hC ⟨by omega, by omega, by omega, by omega, by omega, by omega, by omega⟩ (TB5_k tb f8_1 ((yc 9 (by decide)).trans (Fw_row h0.2.2.2.1 9 (by decide) (by decide) (by decide))) ((hh.1.1 55 (by decide) (by decide)).trans (h0.1 55 (by decide)))) (OL5_k ol ((yc 2 (by decide)).trans (Fw_row h0.2.2.2.1 2 (by decide) (by decide) (by decide))) (fun j hj => by rw [d2]; exact (up1_n _ _ (by omega)).trans ((up1_n _ _ (by omega)).trans (congrFun z51 _)))) (fun j hj => by
        rw [yc 6 (by decide), c3, d2, z51, show up1 (up1 (I 51) (288 + (I 1 11).toNat) a) 309 (I 1 11 + 1) (288 + j) = up1 (I 51) (288 + (I 1 11).toNat) a (288 + j) from up1_n _ _ (by omega)]
        by_cases e9 : j = (I 1 11).toNat
        · rw [e9, up1_s, up1_s]
        · rw [up1_n _ _ e9, up1_n _ _ (by omega)]; exact wn j hj) (TR5_k tr f0_12 ((yc 46 (by decide)).trans (Fw_row h0.2.2.2.1 46 (by decide) (by decide) (by decide))) ((hh.1.1 67 (by decide) (by decide)).trans (h0.1 67 (by decide)))) (SR_of sr ((yc 43 (by decide)).trans (Fw_row h0.2.2.2.1 43 (by decide) (by decide) (by decide))) ((yc 45 (by decide)).trans (Fw_row h0.2.2.2.1 45 (by decide) (by decide) (by decide)))) ((hh.1.1 52 (by decide) (by decide)).trans (h0.1 52 (by decide))) ((hh.1.1 53 (by decide) (by decide)).trans (h0.1 53 (by decide))) (fun k hk => (yc k (by omega)).trans (h0.1 k (by omega))), by omega⟩
  · have hb := h0.2.2.2.2.1 hv
    have hd := hd0.1 hv
    have f8_1 : B 8 1 = I 8 1 := ((congrFun (yc 8 (by decide)) 1).trans (hb.2.1 8 1 (by decide) (by decide) (by decide)))
    have f0_15 : B 0 15 = I 0 15 := ((congrFun (yc 0 (by decide)) 15).trans (hb.2.1 0 15 (by decide) (by decide) (by decide)))
    have f0_12 : B 0 12 = I 0 12 := ((congrFun (yc 0 (by decide)) 12).trans (hb.2.1 0 12 (by decide) (by decide) (by decide)))
    have f1_5 : B 1 5 = I 1 5 := ((congrFun (yc 1 (by decide)) 5).trans (hb.2.1 1 5 (by decide) (by decide) (by decide)))
    have f1_6 : B 1 6 = I 1 6 := ((congrFun (yc 1 (by decide)) 6).trans (hb.2.1 1 6 (by decide) (by decide) (by decide)))
    have f1_7 : B 1 7 = I 1 7 := ((congrFun (yc 1 (by decide)) 7).trans (hb.2.1 1 7 (by decide) (by decide) (by decide)))
    have f1_11 : B 1 11 = I 1 11 := ((congrFun (yc 1 (by decide)) 11).trans (hb.2.1 1 11 (by decide) (by decide) (by decide)))
    have e49_10 : A 49 10 = I 49 10 := congrFun (h0.1 49 (by decide)) 10
    have f49_10 : B 49 10 = A 49 10 := hh.1.2 10 (by decide)
    have e49_6 : A 49 6 = I 49 6 := congrFun (h0.1 49 (by decide)) 6
    have f49_6 : B 49 6 = A 49 6 := hh.1.2 6 (by decide)
    have e49_33 : A 49 33 = I 49 33 := congrFun (h0.1 49 (by decide)) 33
    have f49_33 : B 49 33 = A 49 33 := hh.1.2 33 (by decide)
    have y51 : B 51 = I 51 := hd.2.trans z51
    have f51_304 : B 51 304 = I 51 304 := congrFun y51 304
    have f51_305 : B 51 305 = I 51 305 := congrFun y51 305
    have f51_306 : B 51 306 = I 51 306 := congrFun y51 306
    have f51_309 : B 51 309 = I 51 309 := congrFun y51 309
    exact ⟨CPF_g h hC ⟨by omega, by omega, by omega, by omega, by omega, by omega, by omega⟩ (TB5_k tb f8_1 ((yc 9 (by decide)).trans (Fw_row hb.2.1 9 (by decide) (by decide) (by decide))) ((hh.1.1 55 (by decide) (by decide)).trans (h0.1 55 (by decide)))) (OL5_k ol ((yc 2 (by decide)).trans (Fw_row hb.2.1 2 (by decide) (by decide) (by decide))) (fun j _ => congrFun y51 _)) (WN5_k wn ((yc 6 (by decide)).trans (Fw_row hb.2.1 6 (by decide) (by decide) (by decide))) (fun j _ => congrFun y51 _)) (TR5_k tr f0_12 ((yc 46 (by decide)).trans (Fw_row hb.2.1 46 (by decide) (by decide) (by decide))) ((hh.1.1 67 (by decide) (by decide)).trans (h0.1 67 (by decide)))) (SR_of sr ((yc 43 (by decide)).trans (Fw_row hb.2.1 43 (by decide) (by decide) (by decide))) ((yc 45 (by decide)).trans (Fw_row hb.2.1 45 (by decide) (by decide) (by decide)))) ((hh.1.1 52 (by decide) (by decide)).trans (h0.1 52 (by decide))) ((hh.1.1 53 (by decide) (by decide)).trans (h0.1 53 (by decide))) (fun k hk => (yc k (by omega)).trans (h0.1 k (by omega))), by omega⟩
set_option maxHeartbeats 1000000 in
theorem CF_end {I A B J JA JB : aI1} {R : aR1} {S : aS1} {a x y : Int} (h : CPF I R) (hC : CI I R S) (h0 : Kp 0 49 I A ∧ Kp 0 49 J JA ∧ CX A ∧ Fw [] [(8, 1)] I A ∧ ((0 ≤ a ∧ a ≤ I 8 1) → x = a ∧ A 8 1 = a) ∧ (¬ (0 ≤ a ∧ a ≤ I 8 1) → x = -1 ∧ A 8 1 = I 8 1)) (hh : Ch [] [10] A B ∧ Kp 49 73 JA JB ∧ RX B ∧ ((0 ≤ a ∧ a ≤ A 49 10) → y = a ∧ B 49 10 = a) ∧ (¬ (0 ≤ a ∧ a ≤ A 49 10) → y = -1 ∧ B 49 10 = A 49 10)) : CPF B R ∧ x = y := by
  obtain ⟨⟨q8, q15, q12, q5, q6, q7, q11⟩, tb, ol, wn, tr, sr, hi, di, im⟩ := id h
  have yc : ∀ k, k < 49 ∨ 73 ≤ k → B k = A k := Ch_kp hh.1 (by decide)
  have z51 : A 51 = I 51 := h0.1 51 (by decide)
  have x5 := XI_o hC.2.1.1
  have u0 := h0.2.2.2.2
  have u1 := hh.2.2.2
  have g8_1 : B 8 1 = A 8 1 := congrFun (yc 8 (by decide)) 1
  have f0_15 : B 0 15 = I 0 15 := ((congrFun (yc 0 (by decide)) 15).trans (h0.2.2.2.1 0 15 (by decide) (by decide) (by decide)))
  have f0_12 : B 0 12 = I 0 12 := ((congrFun (yc 0 (by decide)) 12).trans (h0.2.2.2.1 0 12 (by decide) (by decide) (by decide)))
  have f1_5 : B 1 5 = I 1 5 := ((congrFun (yc 1 (by decide)) 5).trans (h0.2.2.2.1 1 5 (by decide) (by decide) (by decide)))
  have f1_6 : B 1 6 = I 1 6 := ((congrFun (yc 1 (by decide)) 6).trans (h0.2.2.2.1 1 6 (by decide) (by decide) (by decide)))
  have f1_7 : B 1 7 = I 1 7 := ((congrFun (yc 1 (by decide)) 7).trans (h0.2.2.2.1 1 7 (by decide) (by decide) (by decide)))
  have f1_11 : B 1 11 = I 1 11 := ((congrFun (yc 1 (by decide)) 11).trans (h0.2.2.2.1 1 11 (by decide) (by decide) (by decide)))
  have e49_10 : A 49 10 = I 49 10 := congrFun (h0.1 49 (by decide)) 10
  have e49_6 : A 49 6 = I 49 6 := congrFun (h0.1 49 (by decide)) 6
  have f49_6 : B 49 6 = A 49 6 := hh.1.2 6 (by decide)
  have e49_33 : A 49 33 = I 49 33 := congrFun (h0.1 49 (by decide)) 33
  have f49_33 : B 49 33 = A 49 33 := hh.1.2 33 (by decide)
  have y51 : B 51 = I 51 := (hh.1.1 51 (by decide) (by decide)).trans z51
  have f51_304 : B 51 304 = I 51 304 := congrFun y51 304
  have f51_305 : B 51 305 = I 51 305 := congrFun y51 305
  have f51_306 : B 51 306 = I 51 306 := congrFun y51 306
  have f51_309 : B 51 309 = I 51 309 := congrFun y51 309
  exact ⟨CPF_g h hC ⟨by omega, by omega, by omega, by omega, by omega, by omega, by omega⟩ (fun j hj => by rw [((yc 9 (by decide)).trans (Fw_row h0.2.2.2.1 9 (by decide) (by decide) (by decide))), ((hh.1.1 55 (by decide) (by decide)).trans (h0.1 55 (by decide)))]; exact tb j (by omega)) (OL5_k ol ((yc 2 (by decide)).trans (Fw_row h0.2.2.2.1 2 (by decide) (by decide) (by decide))) (fun j _ => congrFun y51 _)) (WN5_k wn ((yc 6 (by decide)).trans (Fw_row h0.2.2.2.1 6 (by decide) (by decide) (by decide))) (fun j _ => congrFun y51 _)) (TR5_k tr f0_12 ((yc 46 (by decide)).trans (Fw_row h0.2.2.2.1 46 (by decide) (by decide) (by decide))) ((hh.1.1 67 (by decide) (by decide)).trans (h0.1 67 (by decide)))) (SR_of sr ((yc 43 (by decide)).trans (Fw_row h0.2.2.2.1 43 (by decide) (by decide) (by decide))) ((yc 45 (by decide)).trans (Fw_row h0.2.2.2.1 45 (by decide) (by decide) (by decide)))) ((hh.1.1 52 (by decide) (by decide)).trans (h0.1 52 (by decide))) ((hh.1.1 53 (by decide) (by decide)).trans (h0.1 53 (by decide))) (fun k hk => (yc k (by omega)).trans (h0.1 k (by omega))), by omega⟩
set_option maxHeartbeats 1000000 in
theorem CF_feed {I A B J JA JB : aI1} {R : aR1} {S : aS1} {a b c e f x y : Int} (h : CPF I R) (hC : CI I R S) (h0 : Kp 0 49 I A ∧ Kp 0 49 J JA ∧ CX A ∧ Fw [8, 9] [] I A ∧ (I 8 1 ≤ 380 → x = I 8 1 + 20 ∧ A 8 1 = I 8 1 + 20 ∧ FDc (I 9) (A 9) (I 8 1) a b c e f) ∧ (¬ I 8 1 ≤ 380 → x = -1 ∧ A 8 1 = I 8 1 ∧ A 9 = I 9)) (hh : Ch [55, 56] [10] A B ∧ Kp 49 73 JA JB ∧ RX B ∧ (A 49 10 ≤ 380 → y = A 49 10 + 20 ∧ B 49 10 = A 49 10 + 20 ∧ FDr (A 55) (B 55) (A 49 10) a b c e f) ∧ (¬ A 49 10 ≤ 380 → y = -1 ∧ B 49 10 = A 49 10 ∧ B 55 = A 55)) : CPF B R ∧ x = y := by
  obtain ⟨⟨q8, q15, q12, q5, q6, q7, q11⟩, tb, ol, wn, tr, sr, hi, di, im⟩ := id h
  have yc : ∀ k, k < 49 ∨ 73 ≤ k → B k = A k := Ch_kp hh.1 (by decide)
  have z51 : A 51 = I 51 := h0.1 51 (by decide)
  have x5 := XI_o hC.2.1.1
  have e10 : A 49 10 = I 8 1 := (congrFun (h0.1 49 (by decide)) 10).trans q8.symm
  have hd0 := hh.2.2.2
  rw [e10] at hd0
  by_cases hv : I 8 1 ≤ 380
  · obtain ⟨c1, c2, c3⟩ := h0.2.2.2.2.1 hv
    obtain ⟨d1, d2, d3⟩ := hd0.1 hv
    have g8_1 : B 8 1 = A 8 1 := congrFun (yc 8 (by decide)) 1
    have f0_15 : B 0 15 = I 0 15 := ((congrFun (yc 0 (by decide)) 15).trans (h0.2.2.2.1 0 15 (by decide) (by decide) (by decide)))
    have f0_12 : B 0 12 = I 0 12 := ((congrFun (yc 0 (by decide)) 12).trans (h0.2.2.2.1 0 12 (by decide) (by decide) (by decide)))
    have f1_5 : B 1 5 = I 1 5 := ((congrFun (yc 1 (by decide)) 5).trans (h0.2.2.2.1 1 5 (by decide) (by decide) (by decide)))
    have f1_6 : B 1 6 = I 1 6 := ((congrFun (yc 1 (by decide)) 6).trans (h0.2.2.2.1 1 6 (by decide) (by decide) (by decide)))
    have f1_7 : B 1 7 = I 1 7 := ((congrFun (yc 1 (by decide)) 7).trans (h0.2.2.2.1 1 7 (by decide) (by decide) (by decide)))
    have f1_11 : B 1 11 = I 1 11 := ((congrFun (yc 1 (by decide)) 11).trans (h0.2.2.2.1 1 11 (by decide) (by decide) (by decide)))
    have e49_10 : A 49 10 = I 49 10 := congrFun (h0.1 49 (by decide)) 10
    have e49_6 : A 49 6 = I 49 6 := congrFun (h0.1 49 (by decide)) 6
    have f49_6 : B 49 6 = A 49 6 := hh.1.2 6 (by decide)
    have e49_33 : A 49 33 = I 49 33 := congrFun (h0.1 49 (by decide)) 33
    have f49_33 : B 49 33 = A 49 33 := hh.1.2 33 (by decide)
    have y51 : B 51 = I 51 := (hh.1.1 51 (by decide) (by decide)).trans z51
    have f51_304 : B 51 304 = I 51 304 := congrFun y51 304
    have f51_305 : B 51 305 = I 51 305 := congrFun y51 305
    have f51_306 : B 51 306 = I 51 306 := congrFun y51 306
    have f51_309 : B 51 309 = I 51 309 := congrFun y51 309
    exact ⟨CPF_g h hC ⟨by omega, by omega, by omega, by omega, by omega, by omega, by omega⟩ (fun j hj => by
        rw [yc 9 (by decide)]
        by_cases hj9 : (j : Int) < I 8 1
        · rw [c3.1 j hj9, d3.1 j (by omega), h0.1 55 (by decide)]; exact tb j hj9
        · have hk := c3.2 (j - (I 8 1).toNat) (by omega)
          have hd := d3.2 (j - (I 8 1).toNat) (by omega)
          have hb := by8_e (sel5 a b c e f ((j - (I 8 1).toNat) / 4)) (q := (j - (I 8 1).toNat) % 4) (by omega)
          rw [show (I 8 1).toNat + (j - (I 8 1).toNat) = j by omega] at hk hd
          rw [hk, hd]
          exact hb) (OL5_k ol ((yc 2 (by decide)).trans (Fw_row h0.2.2.2.1 2 (by decide) (by decide) (by decide))) (fun j _ => congrFun y51 _)) (WN5_k wn ((yc 6 (by decide)).trans (Fw_row h0.2.2.2.1 6 (by decide) (by decide) (by decide))) (fun j _ => congrFun y51 _)) (TR5_k tr f0_12 ((yc 46 (by decide)).trans (Fw_row h0.2.2.2.1 46 (by decide) (by decide) (by decide))) ((hh.1.1 67 (by decide) (by decide)).trans (h0.1 67 (by decide)))) (SR_of sr ((yc 43 (by decide)).trans (Fw_row h0.2.2.2.1 43 (by decide) (by decide) (by decide))) ((yc 45 (by decide)).trans (Fw_row h0.2.2.2.1 45 (by decide) (by decide) (by decide)))) ((hh.1.1 52 (by decide) (by decide)).trans (h0.1 52 (by decide))) ((hh.1.1 53 (by decide) (by decide)).trans (h0.1 53 (by decide))) (fun k hk => (yc k (by omega)).trans (h0.1 k (by omega))), by omega⟩
  · obtain ⟨c1, c2, c3⟩ := h0.2.2.2.2.2 hv
    obtain ⟨d1, d2, d3⟩ := hd0.2 hv
    have g8_1 : B 8 1 = A 8 1 := congrFun (yc 8 (by decide)) 1
    have f0_15 : B 0 15 = I 0 15 := ((congrFun (yc 0 (by decide)) 15).trans (h0.2.2.2.1 0 15 (by decide) (by decide) (by decide)))
    have f0_12 : B 0 12 = I 0 12 := ((congrFun (yc 0 (by decide)) 12).trans (h0.2.2.2.1 0 12 (by decide) (by decide) (by decide)))
    have f1_5 : B 1 5 = I 1 5 := ((congrFun (yc 1 (by decide)) 5).trans (h0.2.2.2.1 1 5 (by decide) (by decide) (by decide)))
    have f1_6 : B 1 6 = I 1 6 := ((congrFun (yc 1 (by decide)) 6).trans (h0.2.2.2.1 1 6 (by decide) (by decide) (by decide)))
    have f1_7 : B 1 7 = I 1 7 := ((congrFun (yc 1 (by decide)) 7).trans (h0.2.2.2.1 1 7 (by decide) (by decide) (by decide)))
    have f1_11 : B 1 11 = I 1 11 := ((congrFun (yc 1 (by decide)) 11).trans (h0.2.2.2.1 1 11 (by decide) (by decide) (by decide)))
    have e49_10 : A 49 10 = I 49 10 := congrFun (h0.1 49 (by decide)) 10
    have e49_6 : A 49 6 = I 49 6 := congrFun (h0.1 49 (by decide)) 6
    have f49_6 : B 49 6 = A 49 6 := hh.1.2 6 (by decide)
    have e49_33 : A 49 33 = I 49 33 := congrFun (h0.1 49 (by decide)) 33
    have f49_33 : B 49 33 = A 49 33 := hh.1.2 33 (by decide)
    have y51 : B 51 = I 51 := (hh.1.1 51 (by decide) (by decide)).trans z51
    have f51_304 : B 51 304 = I 51 304 := congrFun y51 304
    have f51_305 : B 51 305 = I 51 305 := congrFun y51 305
    have f51_306 : B 51 306 = I 51 306 := congrFun y51 306
    have f51_309 : B 51 309 = I 51 309 := congrFun y51 309
    exact ⟨CPF_g h hC ⟨by omega, by omega, by omega, by omega, by omega, by omega, by omega⟩ (TB5_k tb (by omega) ((yc 9 (by decide)).trans c3) (d3.trans (h0.1 55 (by decide)))) (OL5_k ol ((yc 2 (by decide)).trans (Fw_row h0.2.2.2.1 2 (by decide) (by decide) (by decide))) (fun j _ => congrFun y51 _)) (WN5_k wn ((yc 6 (by decide)).trans (Fw_row h0.2.2.2.1 6 (by decide) (by decide) (by decide))) (fun j _ => congrFun y51 _)) (TR5_k tr f0_12 ((yc 46 (by decide)).trans (Fw_row h0.2.2.2.1 46 (by decide) (by decide) (by decide))) ((hh.1.1 67 (by decide) (by decide)).trans (h0.1 67 (by decide)))) (SR_of sr ((yc 43 (by decide)).trans (Fw_row h0.2.2.2.1 43 (by decide) (by decide) (by decide))) ((yc 45 (by decide)).trans (Fw_row h0.2.2.2.1 45 (by decide) (by decide) (by decide)))) ((hh.1.1 52 (by decide) (by decide)).trans (h0.1 52 (by decide))) ((hh.1.1 53 (by decide) (by decide)).trans (h0.1 53 (by decide))) (fun k hk => (yc k (by omega)).trans (h0.1 k (by omega))), by omega⟩
set_option maxHeartbeats 1000000 in
theorem CF_trail {I A B J JA JB : aI1} {R : aR1} {S : aS1} {x y : Int} (h : CPF I R) (hC : CI I R S) (h0 : Kp 0 49 I A ∧ Kp 0 49 J JA ∧ CX A ∧ Fw [46, 48] [(0, 12), (0, 16), (8, 1)] I A ∧ (I 8 1 = 0 → x = -6 ∧ RFc I A (-6)) ∧ (¬ I 8 1 = 0 → x = min (I 8 1) 30 ∧ Fw [46] [(0, 12), (0, 16), (8, 1)] I A ∧ A 0 16 = 0 ∧ A 0 12 = min (I 8 1) 30 ∧ A 8 1 = 0 ∧ (∀ j : Nat, (j : Int) < min (I 8 1) 30 → A 46 j = I 9 j))) (hh : Ch [50, 67] [0, 1, 10, 33] A B ∧ Kp 49 73 JA JB ∧ RX B ∧ B 49 10 = 0 ∧ (A 49 10 = 0 → y = -6 ∧ B 49 33 = A 49 33 ∧ B 67 = A 67) ∧ (¬ A 49 10 = 0 → y = min (A 49 10) 30 ∧ B 49 33 = min (A 49 10) 30 ∧ (∀ j : Nat, (j : Int) < min (A 49 10) 30 → B 67 j = i_and (A 55 j) 255))) : CPF B R ∧ x = y := by
  obtain ⟨⟨q8, q15, q12, q5, q6, q7, q11⟩, tb, ol, wn, tr, sr, hi, di, im⟩ := id h
  have yc : ∀ k, k < 49 ∨ 73 ≤ k → B k = A k := Ch_kp hh.1 (by decide)
  have z51 : A 51 = I 51 := h0.1 51 (by decide)
  have x5 := XI_o hC.2.1.1
  have e10 : A 49 10 = I 8 1 := (congrFun (h0.1 49 (by decide)) 10).trans q8.symm
  have hd0 := hh.2.2.2
  rw [e10] at hd0
  by_cases hv : ¬ I 8 1 = 0
  · obtain ⟨c1, -, -, c2, c3, c4⟩ := h0.2.2.2.2.2 hv
    obtain ⟨d1, d2, d3⟩ := hd0.2.2 hv
    have d0 := hd0.1
    have g8_1 : B 8 1 = A 8 1 := congrFun (yc 8 (by decide)) 1
    have f0_15 : B 0 15 = I 0 15 := ((congrFun (yc 0 (by decide)) 15).trans (h0.2.2.2.1 0 15 (by decide) (by decide) (by decide)))
    have g0_12 : B 0 12 = A 0 12 := congrFun (yc 0 (by decide)) 12
    have f1_5 : B 1 5 = I 1 5 := ((congrFun (yc 1 (by decide)) 5).trans (h0.2.2.2.1 1 5 (by decide) (by decide) (by decide)))
    have f1_6 : B 1 6 = I 1 6 := ((congrFun (yc 1 (by decide)) 6).trans (h0.2.2.2.1 1 6 (by decide) (by decide) (by decide)))
    have f1_7 : B 1 7 = I 1 7 := ((congrFun (yc 1 (by decide)) 7).trans (h0.2.2.2.1 1 7 (by decide) (by decide) (by decide)))
    have f1_11 : B 1 11 = I 1 11 := ((congrFun (yc 1 (by decide)) 11).trans (h0.2.2.2.1 1 11 (by decide) (by decide) (by decide)))
    have e49_10 : A 49 10 = I 49 10 := congrFun (h0.1 49 (by decide)) 10
    have e49_6 : A 49 6 = I 49 6 := congrFun (h0.1 49 (by decide)) 6
    have f49_6 : B 49 6 = A 49 6 := hh.1.2 6 (by decide)
    have e49_33 : A 49 33 = I 49 33 := congrFun (h0.1 49 (by decide)) 33
    have y51 : B 51 = I 51 := (hh.1.1 51 (by decide) (by decide)).trans z51
    have f51_304 : B 51 304 = I 51 304 := congrFun y51 304
    have f51_305 : B 51 305 = I 51 305 := congrFun y51 305
    have f51_306 : B 51 306 = I 51 306 := congrFun y51 306
    have f51_309 : B 51 309 = I 51 309 := congrFun y51 309
    exact ⟨CPF_g h hC ⟨by omega, by omega, by omega, by omega, by omega, by omega, by omega⟩ (TB5_0 (by omega)) (OL5_k ol ((yc 2 (by decide)).trans (Fw_row h0.2.2.2.1 2 (by decide) (by decide) (by decide))) (fun j _ => congrFun y51 _)) (WN5_k wn ((yc 6 (by decide)).trans (Fw_row h0.2.2.2.1 6 (by decide) (by decide) (by decide))) (fun j _ => congrFun y51 _)) (fun j hj => by rw [yc 46 (by decide), c4 j (by omega), d3 j (by omega), iand255, h0.1 55 (by decide)]; exact (tb j (by omega)).1) (SR_of sr ((yc 43 (by decide)).trans (Fw_row h0.2.2.2.1 43 (by decide) (by decide) (by decide))) ((yc 45 (by decide)).trans (Fw_row h0.2.2.2.1 45 (by decide) (by decide) (by decide)))) ((hh.1.1 52 (by decide) (by decide)).trans (h0.1 52 (by decide))) ((hh.1.1 53 (by decide) (by decide)).trans (h0.1 53 (by decide))) (fun k hk => (yc k (by omega)).trans (h0.1 k (by omega))), by omega⟩
  · have hv : I 8 1 = 0 := by omega
    have hb := h0.2.2.2.2.1 hv
    obtain ⟨d1, d2, d3⟩ := hd0.2.1 hv
    have d0 := hd0.1
    have f8_1 : B 8 1 = I 8 1 := ((congrFun (yc 8 (by decide)) 1).trans (hb.2.1 8 1 (by decide) (by decide) (by decide)))
    have f0_15 : B 0 15 = I 0 15 := ((congrFun (yc 0 (by decide)) 15).trans (hb.2.1 0 15 (by decide) (by decide) (by decide)))
    have f0_12 : B 0 12 = I 0 12 := ((congrFun (yc 0 (by decide)) 12).trans (hb.2.1 0 12 (by decide) (by decide) (by decide)))
    have f1_5 : B 1 5 = I 1 5 := ((congrFun (yc 1 (by decide)) 5).trans (hb.2.1 1 5 (by decide) (by decide) (by decide)))
    have f1_6 : B 1 6 = I 1 6 := ((congrFun (yc 1 (by decide)) 6).trans (hb.2.1 1 6 (by decide) (by decide) (by decide)))
    have f1_7 : B 1 7 = I 1 7 := ((congrFun (yc 1 (by decide)) 7).trans (hb.2.1 1 7 (by decide) (by decide) (by decide)))
    have f1_11 : B 1 11 = I 1 11 := ((congrFun (yc 1 (by decide)) 11).trans (hb.2.1 1 11 (by decide) (by decide) (by decide)))
    have e49_10 : A 49 10 = I 49 10 := congrFun (h0.1 49 (by decide)) 10
    have e49_6 : A 49 6 = I 49 6 := congrFun (h0.1 49 (by decide)) 6
    have f49_6 : B 49 6 = A 49 6 := hh.1.2 6 (by decide)
    have e49_33 : A 49 33 = I 49 33 := congrFun (h0.1 49 (by decide)) 33
    have y51 : B 51 = I 51 := (hh.1.1 51 (by decide) (by decide)).trans z51
    have f51_304 : B 51 304 = I 51 304 := congrFun y51 304
    have f51_305 : B 51 305 = I 51 305 := congrFun y51 305
    have f51_306 : B 51 306 = I 51 306 := congrFun y51 306
    have f51_309 : B 51 309 = I 51 309 := congrFun y51 309
    exact ⟨CPF_g h hC ⟨by omega, by omega, by omega, by omega, by omega, by omega, by omega⟩ (TB5_0 (by omega)) (OL5_k ol ((yc 2 (by decide)).trans (Fw_row hb.2.1 2 (by decide) (by decide) (by decide))) (fun j _ => congrFun y51 _)) (WN5_k wn ((yc 6 (by decide)).trans (Fw_row hb.2.1 6 (by decide) (by decide) (by decide))) (fun j _ => congrFun y51 _)) (TR5_k tr f0_12 ((yc 46 (by decide)).trans (Fw_row hb.2.1 46 (by decide) (by decide) (by decide))) (d3.trans (h0.1 67 (by decide)))) (SR_of sr ((yc 43 (by decide)).trans (Fw_row hb.2.1 43 (by decide) (by decide) (by decide))) ((yc 45 (by decide)).trans (Fw_row hb.2.1 45 (by decide) (by decide) (by decide)))) ((hh.1.1 52 (by decide) (by decide)).trans (h0.1 52 (by decide))) ((hh.1.1 53 (by decide) (by decide)).trans (h0.1 53 (by decide))) (fun k hk => (yc k (by omega)).trans (h0.1 k (by omega))), by omega⟩
set_option maxHeartbeats 1000000 in
theorem CF_row {I A B J JA JB : aI1} {R : aR1} {S : aS1} {x y : Int} (h : CPF I R) (hC : CI I R S) (h0 : Kp 0 49 I A ∧ Kp 0 49 J JA ∧ CX A ∧ Fw [3, 18, 19, 20, 21, 22, 23, 24, 25, 26, 27, 28, 29, 30, 31, 32, 33, 34, 35, 36, 48] [(0, 15), (0, 16), (8, 1)] I A ∧ (I 8 1 = 0 → x = -6 ∧ RFc I A (-6)) ∧ (¬ I 8 1 = 0 → Fw [3, 18, 19, 20, 21, 22, 23, 24, 25, 26, 27, 28, 29, 30, 31, 32, 33, 34, 35, 36] [(0, 15), (0, 16), (8, 1)] I A ∧ A 0 16 = 0 ∧ A 8 1 = 0 ∧ A 0 15 = max 0 (I 8 1 - (FU (I 1 5) + 1)) ∧ (∀ j : Nat, A 3 j = if (j : Int) < FU (I 1 5) + 1 then RWv (I 9) (I 8 1) (I 1 6) j else I 3 j) ∧ x = cnR (A 3) (FU (I 1 5) + 1).toNat)) (hh : Ch [50, 51] [0, 1, 6, 10] A B ∧ Kp 49 73 JA JB ∧ RX B ∧ B 49 10 = 0 ∧ (A 49 10 = 0 → y = -6 ∧ B 49 6 = A 49 6 ∧ B 51 = A 51) ∧ (¬ A 49 10 = 0 → B 49 6 = max 0 (A 49 10 - (FU (A 51 304) + 1)) ∧ (∀ j : Nat, B 51 j = if (j : Int) < FU (A 51 304) + 1 then RWv (A 55) (A 49 10) (A 51 305) j else A 51 j) ∧ y = cnR (B 51) (FU (A 51 304) + 1).toNat)) : CPF B R ∧ x = y := by
  obtain ⟨⟨q8, q15, q12, q5, q6, q7, q11⟩, tb, ol, wn, tr, sr, hi, di, im⟩ := id h
  have yc : ∀ k, k < 49 ∨ 73 ≤ k → B k = A k := Ch_kp hh.1 (by decide)
  have z51 : A 51 = I 51 := h0.1 51 (by decide)
  have x5 := XI_o hC.2.1.1
  have ef : FU (A 51 304) = FU (I 1 5) := by rw [z51, ← q5]
  have e305 : A 51 305 = I 1 6 := by rw [z51, ← q6]
  have e10 : A 49 10 = I 8 1 := (congrFun (h0.1 49 (by decide)) 10).trans q8.symm
  have hd0 := hh.2.2.2
  rw [e10, ef, e305] at hd0
  by_cases hv : ¬ I 8 1 = 0
  · obtain ⟨-, -, c1, c2, c3, c4⟩ := h0.2.2.2.2.2 hv
    obtain ⟨d1, d2, d3⟩ := hd0.2.2 hv
    have d0 := hd0.1
    have k51 : ∀ j : Nat, 256 ≤ j → B 51 j = I 51 j := fun j hj => by rw [d2 j, if_neg (by omega)]; exact congrFun z51 j
    have hrw : ∀ j : Nat, RWv (A 55) (I 8 1) (I 1 6) j = RWv (I 9) (I 8 1) (I 1 6) j := fun j => by
      unfold RWv
      rw [h0.1 55 (by decide)]
      by_cases hj9 : (j : Int) < I 8 1
      · have h9 := tb j hj9
        have hc9 := x5
        by_cases h8 : 0 ≤ I 55 j ∧ I 55 j < I 1 6
        · rw [if_pos ⟨hj9, h8⟩, if_pos (by omega)]; omega
        · rw [if_neg (by omega), if_neg (by omega)]
      · rw [if_neg (by omega), if_neg (by omega)]
    have g8_1 : B 8 1 = A 8 1 := congrFun (yc 8 (by decide)) 1
    have g0_15 : B 0 15 = A 0 15 := congrFun (yc 0 (by decide)) 15
    have f0_12 : B 0 12 = I 0 12 := ((congrFun (yc 0 (by decide)) 12).trans (h0.2.2.2.1 0 12 (by decide) (by decide) (by decide)))
    have f1_5 : B 1 5 = I 1 5 := ((congrFun (yc 1 (by decide)) 5).trans (h0.2.2.2.1 1 5 (by decide) (by decide) (by decide)))
    have f1_6 : B 1 6 = I 1 6 := ((congrFun (yc 1 (by decide)) 6).trans (h0.2.2.2.1 1 6 (by decide) (by decide) (by decide)))
    have f1_7 : B 1 7 = I 1 7 := ((congrFun (yc 1 (by decide)) 7).trans (h0.2.2.2.1 1 7 (by decide) (by decide) (by decide)))
    have f1_11 : B 1 11 = I 1 11 := ((congrFun (yc 1 (by decide)) 11).trans (h0.2.2.2.1 1 11 (by decide) (by decide) (by decide)))
    have e49_10 : A 49 10 = I 49 10 := congrFun (h0.1 49 (by decide)) 10
    have e49_6 : A 49 6 = I 49 6 := congrFun (h0.1 49 (by decide)) 6
    have e49_33 : A 49 33 = I 49 33 := congrFun (h0.1 49 (by decide)) 33
    have f49_33 : B 49 33 = A 49 33 := hh.1.2 33 (by decide)
    have f51_304 : B 51 304 = I 51 304 := k51 304 (by omega)
    have f51_305 : B 51 305 = I 51 305 := k51 305 (by omega)
    have f51_306 : B 51 306 = I 51 306 := k51 306 (by omega)
    have f51_309 : B 51 309 = I 51 309 := k51 309 (by omega)
    exact ⟨CPF_g h hC ⟨by omega, by omega, by omega, by omega, by omega, by omega, by omega⟩ (TB5_0 (by omega)) (OL5_k ol ((yc 2 (by decide)).trans (Fw_row h0.2.2.2.1 2 (by decide) (by decide) (by decide))) (fun j hj => k51 _ (by omega))) (WN5_k wn ((yc 6 (by decide)).trans (Fw_row h0.2.2.2.1 6 (by decide) (by decide) (by decide))) (fun j hj => k51 _ (by omega))) (TR5_k tr f0_12 ((yc 46 (by decide)).trans (Fw_row h0.2.2.2.1 46 (by decide) (by decide) (by decide))) ((hh.1.1 67 (by decide) (by decide)).trans (h0.1 67 (by decide)))) (SR_of sr ((yc 43 (by decide)).trans (Fw_row h0.2.2.2.1 43 (by decide) (by decide) (by decide))) ((yc 45 (by decide)).trans (Fw_row h0.2.2.2.1 45 (by decide) (by decide) (by decide)))) ((hh.1.1 52 (by decide) (by decide)).trans (h0.1 52 (by decide))) ((hh.1.1 53 (by decide) (by decide)).trans (h0.1 53 (by decide))) (fun k hk => (yc k (by omega)).trans (h0.1 k (by omega))), by
        rw [c4, d3]
        refine cnR_cg _ (fun j hj => ?_)
        rw [c3 j, d2 j, if_pos (by omega), if_pos (by omega), hrw j]⟩
  · have hv : I 8 1 = 0 := by omega
    have hb := h0.2.2.2.2.1 hv
    obtain ⟨d1, d2, d3⟩ := hd0.2.1 hv
    have d0 := hd0.1
    have f8_1 : B 8 1 = I 8 1 := ((congrFun (yc 8 (by decide)) 1).trans (hb.2.1 8 1 (by decide) (by decide) (by decide)))
    have f0_15 : B 0 15 = I 0 15 := ((congrFun (yc 0 (by decide)) 15).trans (hb.2.1 0 15 (by decide) (by decide) (by decide)))
    have f0_12 : B 0 12 = I 0 12 := ((congrFun (yc 0 (by decide)) 12).trans (hb.2.1 0 12 (by decide) (by decide) (by decide)))
    have f1_5 : B 1 5 = I 1 5 := ((congrFun (yc 1 (by decide)) 5).trans (hb.2.1 1 5 (by decide) (by decide) (by decide)))
    have f1_6 : B 1 6 = I 1 6 := ((congrFun (yc 1 (by decide)) 6).trans (hb.2.1 1 6 (by decide) (by decide) (by decide)))
    have f1_7 : B 1 7 = I 1 7 := ((congrFun (yc 1 (by decide)) 7).trans (hb.2.1 1 7 (by decide) (by decide) (by decide)))
    have f1_11 : B 1 11 = I 1 11 := ((congrFun (yc 1 (by decide)) 11).trans (hb.2.1 1 11 (by decide) (by decide) (by decide)))
    have e49_10 : A 49 10 = I 49 10 := congrFun (h0.1 49 (by decide)) 10
    have e49_6 : A 49 6 = I 49 6 := congrFun (h0.1 49 (by decide)) 6
    have e49_33 : A 49 33 = I 49 33 := congrFun (h0.1 49 (by decide)) 33
    have f49_33 : B 49 33 = A 49 33 := hh.1.2 33 (by decide)
    have y51 : B 51 = I 51 := d3.trans z51
    have f51_304 : B 51 304 = I 51 304 := congrFun y51 304
    have f51_305 : B 51 305 = I 51 305 := congrFun y51 305
    have f51_306 : B 51 306 = I 51 306 := congrFun y51 306
    have f51_309 : B 51 309 = I 51 309 := congrFun y51 309
    exact ⟨CPF_g h hC ⟨by omega, by omega, by omega, by omega, by omega, by omega, by omega⟩ (TB5_0 (by omega)) (OL5_k ol ((yc 2 (by decide)).trans (Fw_row hb.2.1 2 (by decide) (by decide) (by decide))) (fun j _ => congrFun y51 _)) (WN5_k wn ((yc 6 (by decide)).trans (Fw_row hb.2.1 6 (by decide) (by decide) (by decide))) (fun j _ => congrFun y51 _)) (TR5_k tr f0_12 ((yc 46 (by decide)).trans (Fw_row hb.2.1 46 (by decide) (by decide) (by decide))) ((hh.1.1 67 (by decide) (by decide)).trans (h0.1 67 (by decide)))) (SR_of sr ((yc 43 (by decide)).trans (Fw_row hb.2.1 43 (by decide) (by decide) (by decide))) ((yc 45 (by decide)).trans (Fw_row hb.2.1 45 (by decide) (by decide) (by decide)))) ((hh.1.1 52 (by decide) (by decide)).trans (h0.1 52 (by decide))) ((hh.1.1 53 (by decide) (by decide)).trans (h0.1 53 (by decide))) (fun k hk => (yc k (by omega)).trans (h0.1 k (by omega))), by omega⟩
set_option maxHeartbeats 1000000 in
theorem CF_torn {I A B J JA JB : aI1} {R : aR1} {S : aS1} {x y : Int} (h : CPF I R) (hC : CI I R S) (h0 : Kp 0 49 I A ∧ Kp 0 49 J JA ∧ CX A ∧ Fw [] [] I A ∧ x = I 0 15) (hh : A = B ∧ JA = JB ∧ y = A 49 6) : CPF A R ∧ x = y := by
  obtain ⟨⟨q8, q15, q12, q5, q6, q7, q11⟩, tb, ol, wn, tr, sr, hi, di, im⟩ := id h
  obtain ⟨rfl, rfl, hh⟩ := hh
  have f8_1 : A 8 1 = I 8 1 := (h0.2.2.2.1 8 1 (by decide) (by decide) (by decide))
  have f0_15 : A 0 15 = I 0 15 := (h0.2.2.2.1 0 15 (by decide) (by decide) (by decide))
  have f0_12 : A 0 12 = I 0 12 := (h0.2.2.2.1 0 12 (by decide) (by decide) (by decide))
  have f1_5 : A 1 5 = I 1 5 := (h0.2.2.2.1 1 5 (by decide) (by decide) (by decide))
  have f1_6 : A 1 6 = I 1 6 := (h0.2.2.2.1 1 6 (by decide) (by decide) (by decide))
  have f1_7 : A 1 7 = I 1 7 := (h0.2.2.2.1 1 7 (by decide) (by decide) (by decide))
  have f1_11 : A 1 11 = I 1 11 := (h0.2.2.2.1 1 11 (by decide) (by decide) (by decide))
  have f49_10 : A 49 10 = I 49 10 := (congrFun (h0.1 49 (by decide)) 10)
  have f49_6 : A 49 6 = I 49 6 := (congrFun (h0.1 49 (by decide)) 6)
  have f49_33 : A 49 33 = I 49 33 := (congrFun (h0.1 49 (by decide)) 33)
  have y51 : A 51 = I 51 := (h0.1 51 (by decide))
  have f51_304 : A 51 304 = I 51 304 := congrFun y51 304
  have f51_305 : A 51 305 = I 51 305 := congrFun y51 305
  have f51_306 : A 51 306 = I 51 306 := congrFun y51 306
  have f51_309 : A 51 309 = I 51 309 := congrFun y51 309
  exact ⟨CPF_g h hC ⟨by omega, by omega, by omega, by omega, by omega, by omega, by omega⟩ (TB5_k tb f8_1 (Fw_row h0.2.2.2.1 9 (by decide) (by decide) (by decide)) (h0.1 55 (by decide))) (OL5_k ol (Fw_row h0.2.2.2.1 2 (by decide) (by decide) (by decide)) (fun j _ => congrFun y51 _)) (WN5_k wn (Fw_row h0.2.2.2.1 6 (by decide) (by decide) (by decide)) (fun j _ => congrFun y51 _)) (TR5_k tr f0_12 (Fw_row h0.2.2.2.1 46 (by decide) (by decide) (by decide)) (h0.1 67 (by decide))) (SR_of sr (Fw_row h0.2.2.2.1 43 (by decide) (by decide) (by decide)) (Fw_row h0.2.2.2.1 45 (by decide) (by decide) (by decide))) (h0.1 52 (by decide)) (h0.1 53 (by decide)) (fun k hk => (h0.1 k (by omega))), by have u0 := h0.2.2.2.2; omega⟩
set_option maxHeartbeats 1000000 in
theorem CF_of {I A B J JA JB : aI1} {R : aR1} {S : aS1} (h : CPF I R) (hC : CI I R S) (h0 : Kp 0 49 I A ∧ Kp 0 49 J JA ∧ CX A ∧ Fw [] [] I A ∧ True) (hh : A = B ∧ JA = JB ∧ True) : CPF A R := by
  obtain ⟨⟨q8, q15, q12, q5, q6, q7, q11⟩, tb, ol, wn, tr, sr, hi, di, im⟩ := id h
  obtain ⟨rfl, rfl, hh⟩ := hh
  have f8_1 : A 8 1 = I 8 1 := (h0.2.2.2.1 8 1 (by decide) (by decide) (by decide))
  have f0_15 : A 0 15 = I 0 15 := (h0.2.2.2.1 0 15 (by decide) (by decide) (by decide))
  have f0_12 : A 0 12 = I 0 12 := (h0.2.2.2.1 0 12 (by decide) (by decide) (by decide))
  have f1_5 : A 1 5 = I 1 5 := (h0.2.2.2.1 1 5 (by decide) (by decide) (by decide))
  have f1_6 : A 1 6 = I 1 6 := (h0.2.2.2.1 1 6 (by decide) (by decide) (by decide))
  have f1_7 : A 1 7 = I 1 7 := (h0.2.2.2.1 1 7 (by decide) (by decide) (by decide))
  have f1_11 : A 1 11 = I 1 11 := (h0.2.2.2.1 1 11 (by decide) (by decide) (by decide))
  have f49_10 : A 49 10 = I 49 10 := (congrFun (h0.1 49 (by decide)) 10)
  have f49_6 : A 49 6 = I 49 6 := (congrFun (h0.1 49 (by decide)) 6)
  have f49_33 : A 49 33 = I 49 33 := (congrFun (h0.1 49 (by decide)) 33)
  have y51 : A 51 = I 51 := (h0.1 51 (by decide))
  have f51_304 : A 51 304 = I 51 304 := congrFun y51 304
  have f51_305 : A 51 305 = I 51 305 := congrFun y51 305
  have f51_306 : A 51 306 = I 51 306 := congrFun y51 306
  have f51_309 : A 51 309 = I 51 309 := congrFun y51 309
  exact CPF_g h hC ⟨by omega, by omega, by omega, by omega, by omega, by omega, by omega⟩ (TB5_k tb f8_1 (Fw_row h0.2.2.2.1 9 (by decide) (by decide) (by decide)) (h0.1 55 (by decide))) (OL5_k ol (Fw_row h0.2.2.2.1 2 (by decide) (by decide) (by decide)) (fun j _ => congrFun y51 _)) (WN5_k wn (Fw_row h0.2.2.2.1 6 (by decide) (by decide) (by decide)) (fun j _ => congrFun y51 _)) (TR5_k tr f0_12 (Fw_row h0.2.2.2.1 46 (by decide) (by decide) (by decide)) (h0.1 67 (by decide))) (SR_of sr (Fw_row h0.2.2.2.1 43 (by decide) (by decide) (by decide)) (Fw_row h0.2.2.2.1 45 (by decide) (by decide) (by decide))) (h0.1 52 (by decide)) (h0.1 53 (by decide)) (fun k hk => (h0.1 k (by omega)))
set_option maxHeartbeats 1000000 in
theorem CF_fault {I A B J JA JB : aI1} {R : aR1} {S : aS1} (h : CPF I R) (hC : CI I R S) (h0 : Kp 0 49 I A ∧ Kp 0 49 J JA ∧ CX A ∧ Fw [] [] I A ∧ True) (hh : A = B ∧ JA = JB ∧ True) : CPF A R := by
  obtain ⟨⟨q8, q15, q12, q5, q6, q7, q11⟩, tb, ol, wn, tr, sr, hi, di, im⟩ := id h
  obtain ⟨rfl, rfl, hh⟩ := hh
  have f8_1 : A 8 1 = I 8 1 := (h0.2.2.2.1 8 1 (by decide) (by decide) (by decide))
  have f0_15 : A 0 15 = I 0 15 := (h0.2.2.2.1 0 15 (by decide) (by decide) (by decide))
  have f0_12 : A 0 12 = I 0 12 := (h0.2.2.2.1 0 12 (by decide) (by decide) (by decide))
  have f1_5 : A 1 5 = I 1 5 := (h0.2.2.2.1 1 5 (by decide) (by decide) (by decide))
  have f1_6 : A 1 6 = I 1 6 := (h0.2.2.2.1 1 6 (by decide) (by decide) (by decide))
  have f1_7 : A 1 7 = I 1 7 := (h0.2.2.2.1 1 7 (by decide) (by decide) (by decide))
  have f1_11 : A 1 11 = I 1 11 := (h0.2.2.2.1 1 11 (by decide) (by decide) (by decide))
  have f49_10 : A 49 10 = I 49 10 := (congrFun (h0.1 49 (by decide)) 10)
  have f49_6 : A 49 6 = I 49 6 := (congrFun (h0.1 49 (by decide)) 6)
  have f49_33 : A 49 33 = I 49 33 := (congrFun (h0.1 49 (by decide)) 33)
  have y51 : A 51 = I 51 := (h0.1 51 (by decide))
  have f51_304 : A 51 304 = I 51 304 := congrFun y51 304
  have f51_305 : A 51 305 = I 51 305 := congrFun y51 305
  have f51_306 : A 51 306 = I 51 306 := congrFun y51 306
  have f51_309 : A 51 309 = I 51 309 := congrFun y51 309
  exact CPF_g h hC ⟨by omega, by omega, by omega, by omega, by omega, by omega, by omega⟩ (TB5_k tb f8_1 (Fw_row h0.2.2.2.1 9 (by decide) (by decide) (by decide)) (h0.1 55 (by decide))) (OL5_k ol (Fw_row h0.2.2.2.1 2 (by decide) (by decide) (by decide)) (fun j _ => congrFun y51 _)) (WN5_k wn (Fw_row h0.2.2.2.1 6 (by decide) (by decide) (by decide)) (fun j _ => congrFun y51 _)) (TR5_k tr f0_12 (Fw_row h0.2.2.2.1 46 (by decide) (by decide) (by decide)) (h0.1 67 (by decide))) (SR_of sr (Fw_row h0.2.2.2.1 43 (by decide) (by decide) (by decide)) (Fw_row h0.2.2.2.1 45 (by decide) (by decide) (by decide))) (h0.1 52 (by decide)) (h0.1 53 (by decide)) (fun k hk => (h0.1 k (by omega)))
set_option maxHeartbeats 1000000 in
theorem CF_next {I A B J JA JB : aI1} {R : aR1} {S : aS1} (h : CPF I R) (hC : CI I R S) (h0 : Kp 0 49 I A ∧ Kp 0 49 J JA ∧ CX A ∧ Fw [18, 19, 20, 21, 22, 23, 24, 25, 26, 27, 28, 29, 30, 31, 32, 33, 34, 35, 36] [] I A ∧ True) (hh : Ch [61] [25] A B ∧ Kp 49 73 JA JB ∧ RX B ∧ True) : CPF B R := by
  obtain ⟨⟨q8, q15, q12, q5, q6, q7, q11⟩, tb, ol, wn, tr, sr, hi, di, im⟩ := id h
  have yc : ∀ k, k < 49 ∨ 73 ≤ k → B k = A k := Ch_kp hh.1 (by decide)
  have f8_1 : B 8 1 = I 8 1 := ((congrFun (yc 8 (by decide)) 1).trans (h0.2.2.2.1 8 1 (by decide) (by decide) (by decide)))
  have f0_15 : B 0 15 = I 0 15 := ((congrFun (yc 0 (by decide)) 15).trans (h0.2.2.2.1 0 15 (by decide) (by decide) (by decide)))
  have f0_12 : B 0 12 = I 0 12 := ((congrFun (yc 0 (by decide)) 12).trans (h0.2.2.2.1 0 12 (by decide) (by decide) (by decide)))
  have f1_5 : B 1 5 = I 1 5 := ((congrFun (yc 1 (by decide)) 5).trans (h0.2.2.2.1 1 5 (by decide) (by decide) (by decide)))
  have f1_6 : B 1 6 = I 1 6 := ((congrFun (yc 1 (by decide)) 6).trans (h0.2.2.2.1 1 6 (by decide) (by decide) (by decide)))
  have f1_7 : B 1 7 = I 1 7 := ((congrFun (yc 1 (by decide)) 7).trans (h0.2.2.2.1 1 7 (by decide) (by decide) (by decide)))
  have f1_11 : B 1 11 = I 1 11 := ((congrFun (yc 1 (by decide)) 11).trans (h0.2.2.2.1 1 11 (by decide) (by decide) (by decide)))
  have f49_10 : B 49 10 = I 49 10 := ((hh.1.2 10 (by decide)).trans (congrFun (h0.1 49 (by decide)) 10))
  have f49_6 : B 49 6 = I 49 6 := ((hh.1.2 6 (by decide)).trans (congrFun (h0.1 49 (by decide)) 6))
  have f49_33 : B 49 33 = I 49 33 := ((hh.1.2 33 (by decide)).trans (congrFun (h0.1 49 (by decide)) 33))
  have y51 : B 51 = I 51 := ((hh.1.1 51 (by decide) (by decide)).trans (h0.1 51 (by decide)))
  have f51_304 : B 51 304 = I 51 304 := congrFun y51 304
  have f51_305 : B 51 305 = I 51 305 := congrFun y51 305
  have f51_306 : B 51 306 = I 51 306 := congrFun y51 306
  have f51_309 : B 51 309 = I 51 309 := congrFun y51 309
  exact CPF_g h hC ⟨by omega, by omega, by omega, by omega, by omega, by omega, by omega⟩ (TB5_k tb f8_1 ((yc 9 (by decide)).trans (Fw_row h0.2.2.2.1 9 (by decide) (by decide) (by decide))) ((hh.1.1 55 (by decide) (by decide)).trans (h0.1 55 (by decide)))) (OL5_k ol ((yc 2 (by decide)).trans (Fw_row h0.2.2.2.1 2 (by decide) (by decide) (by decide))) (fun j _ => congrFun y51 _)) (WN5_k wn ((yc 6 (by decide)).trans (Fw_row h0.2.2.2.1 6 (by decide) (by decide) (by decide))) (fun j _ => congrFun y51 _)) (TR5_k tr f0_12 ((yc 46 (by decide)).trans (Fw_row h0.2.2.2.1 46 (by decide) (by decide) (by decide))) ((hh.1.1 67 (by decide) (by decide)).trans (h0.1 67 (by decide)))) (SR_of sr ((yc 43 (by decide)).trans (Fw_row h0.2.2.2.1 43 (by decide) (by decide) (by decide))) ((yc 45 (by decide)).trans (Fw_row h0.2.2.2.1 45 (by decide) (by decide) (by decide)))) ((hh.1.1 52 (by decide) (by decide)).trans (h0.1 52 (by decide))) ((hh.1.1 53 (by decide) (by decide)).trans (h0.1 53 (by decide))) (fun k hk => (yc k (by omega)).trans (h0.1 k (by omega)))
set_option maxHeartbeats 1000000 in
theorem CF_ways {I A B J JA JB : aI1} {R : aR1} {S : aS1} (h : CPF I R) (hC : CI I R S) (h0 : Kp 0 49 I A ∧ Kp 0 49 J JA ∧ CX A ∧ Fw [] [] I A ∧ True) (hh : A = B ∧ JA = JB ∧ True) : CPF A R := by
  obtain ⟨⟨q8, q15, q12, q5, q6, q7, q11⟩, tb, ol, wn, tr, sr, hi, di, im⟩ := id h
  obtain ⟨rfl, rfl, hh⟩ := hh
  have f8_1 : A 8 1 = I 8 1 := (h0.2.2.2.1 8 1 (by decide) (by decide) (by decide))
  have f0_15 : A 0 15 = I 0 15 := (h0.2.2.2.1 0 15 (by decide) (by decide) (by decide))
  have f0_12 : A 0 12 = I 0 12 := (h0.2.2.2.1 0 12 (by decide) (by decide) (by decide))
  have f1_5 : A 1 5 = I 1 5 := (h0.2.2.2.1 1 5 (by decide) (by decide) (by decide))
  have f1_6 : A 1 6 = I 1 6 := (h0.2.2.2.1 1 6 (by decide) (by decide) (by decide))
  have f1_7 : A 1 7 = I 1 7 := (h0.2.2.2.1 1 7 (by decide) (by decide) (by decide))
  have f1_11 : A 1 11 = I 1 11 := (h0.2.2.2.1 1 11 (by decide) (by decide) (by decide))
  have f49_10 : A 49 10 = I 49 10 := (congrFun (h0.1 49 (by decide)) 10)
  have f49_6 : A 49 6 = I 49 6 := (congrFun (h0.1 49 (by decide)) 6)
  have f49_33 : A 49 33 = I 49 33 := (congrFun (h0.1 49 (by decide)) 33)
  have y51 : A 51 = I 51 := (h0.1 51 (by decide))
  have f51_304 : A 51 304 = I 51 304 := congrFun y51 304
  have f51_305 : A 51 305 = I 51 305 := congrFun y51 305
  have f51_306 : A 51 306 = I 51 306 := congrFun y51 306
  have f51_309 : A 51 309 = I 51 309 := congrFun y51 309
  exact CPF_g h hC ⟨by omega, by omega, by omega, by omega, by omega, by omega, by omega⟩ (TB5_k tb f8_1 (Fw_row h0.2.2.2.1 9 (by decide) (by decide) (by decide)) (h0.1 55 (by decide))) (OL5_k ol (Fw_row h0.2.2.2.1 2 (by decide) (by decide) (by decide)) (fun j _ => congrFun y51 _)) (WN5_k wn (Fw_row h0.2.2.2.1 6 (by decide) (by decide) (by decide)) (fun j _ => congrFun y51 _)) (TR5_k tr f0_12 (Fw_row h0.2.2.2.1 46 (by decide) (by decide) (by decide)) (h0.1 67 (by decide))) (SR_of sr (Fw_row h0.2.2.2.1 43 (by decide) (by decide) (by decide)) (Fw_row h0.2.2.2.1 45 (by decide) (by decide) (by decide))) (h0.1 52 (by decide)) (h0.1 53 (by decide)) (fun k hk => (h0.1 k (by omega)))
set_option maxHeartbeats 1000000 in
theorem CF_lasts {I A B J JA JB : aI1} {R : aR1} {S : aS1} (h : CPF I R) (hC : CI I R S) (h0 : Kp 0 49 I A ∧ Kp 0 49 J JA ∧ CX A ∧ Fw [18, 19, 20, 21, 22, 23, 24, 25, 26, 27, 28, 29, 30, 31, 32, 33, 34, 35, 36] [] I A ∧ True) (hh : Ch [61] [25] A B ∧ Kp 49 73 JA JB ∧ RX B ∧ True) : CPF B R := by
  obtain ⟨⟨q8, q15, q12, q5, q6, q7, q11⟩, tb, ol, wn, tr, sr, hi, di, im⟩ := id h
  have yc : ∀ k, k < 49 ∨ 73 ≤ k → B k = A k := Ch_kp hh.1 (by decide)
  have f8_1 : B 8 1 = I 8 1 := ((congrFun (yc 8 (by decide)) 1).trans (h0.2.2.2.1 8 1 (by decide) (by decide) (by decide)))
  have f0_15 : B 0 15 = I 0 15 := ((congrFun (yc 0 (by decide)) 15).trans (h0.2.2.2.1 0 15 (by decide) (by decide) (by decide)))
  have f0_12 : B 0 12 = I 0 12 := ((congrFun (yc 0 (by decide)) 12).trans (h0.2.2.2.1 0 12 (by decide) (by decide) (by decide)))
  have f1_5 : B 1 5 = I 1 5 := ((congrFun (yc 1 (by decide)) 5).trans (h0.2.2.2.1 1 5 (by decide) (by decide) (by decide)))
  have f1_6 : B 1 6 = I 1 6 := ((congrFun (yc 1 (by decide)) 6).trans (h0.2.2.2.1 1 6 (by decide) (by decide) (by decide)))
  have f1_7 : B 1 7 = I 1 7 := ((congrFun (yc 1 (by decide)) 7).trans (h0.2.2.2.1 1 7 (by decide) (by decide) (by decide)))
  have f1_11 : B 1 11 = I 1 11 := ((congrFun (yc 1 (by decide)) 11).trans (h0.2.2.2.1 1 11 (by decide) (by decide) (by decide)))
  have f49_10 : B 49 10 = I 49 10 := ((hh.1.2 10 (by decide)).trans (congrFun (h0.1 49 (by decide)) 10))
  have f49_6 : B 49 6 = I 49 6 := ((hh.1.2 6 (by decide)).trans (congrFun (h0.1 49 (by decide)) 6))
  have f49_33 : B 49 33 = I 49 33 := ((hh.1.2 33 (by decide)).trans (congrFun (h0.1 49 (by decide)) 33))
  have y51 : B 51 = I 51 := ((hh.1.1 51 (by decide) (by decide)).trans (h0.1 51 (by decide)))
  have f51_304 : B 51 304 = I 51 304 := congrFun y51 304
  have f51_305 : B 51 305 = I 51 305 := congrFun y51 305
  have f51_306 : B 51 306 = I 51 306 := congrFun y51 306
  have f51_309 : B 51 309 = I 51 309 := congrFun y51 309
  exact CPF_g h hC ⟨by omega, by omega, by omega, by omega, by omega, by omega, by omega⟩ (TB5_k tb f8_1 ((yc 9 (by decide)).trans (Fw_row h0.2.2.2.1 9 (by decide) (by decide) (by decide))) ((hh.1.1 55 (by decide) (by decide)).trans (h0.1 55 (by decide)))) (OL5_k ol ((yc 2 (by decide)).trans (Fw_row h0.2.2.2.1 2 (by decide) (by decide) (by decide))) (fun j _ => congrFun y51 _)) (WN5_k wn ((yc 6 (by decide)).trans (Fw_row h0.2.2.2.1 6 (by decide) (by decide) (by decide))) (fun j _ => congrFun y51 _)) (TR5_k tr f0_12 ((yc 46 (by decide)).trans (Fw_row h0.2.2.2.1 46 (by decide) (by decide) (by decide))) ((hh.1.1 67 (by decide) (by decide)).trans (h0.1 67 (by decide)))) (SR_of sr ((yc 43 (by decide)).trans (Fw_row h0.2.2.2.1 43 (by decide) (by decide) (by decide))) ((yc 45 (by decide)).trans (Fw_row h0.2.2.2.1 45 (by decide) (by decide) (by decide)))) ((hh.1.1 52 (by decide) (by decide)).trans (h0.1 52 (by decide))) ((hh.1.1 53 (by decide) (by decide)).trans (h0.1 53 (by decide))) (fun k hk => (yc k (by omega)).trans (h0.1 k (by omega)))
set_option maxHeartbeats 1000000 in
theorem CF_mean {I A B J JA JB : aI1} {R : aR1} {S : aS1} (h : CPF I R) (hC : CI I R S) (h0 : Kp 0 49 I A ∧ Kp 0 49 J JA ∧ CX A ∧ Fw [18, 19, 20, 21, 22, 23, 24, 25, 26, 27, 28, 29, 30, 31, 32, 33, 34, 35, 36] [] I A ∧ True) (hh : Ch [61] [25] A B ∧ Kp 49 73 JA JB ∧ RX B ∧ True) : CPF B R := by
  obtain ⟨⟨q8, q15, q12, q5, q6, q7, q11⟩, tb, ol, wn, tr, sr, hi, di, im⟩ := id h
  have yc : ∀ k, k < 49 ∨ 73 ≤ k → B k = A k := Ch_kp hh.1 (by decide)
  have f8_1 : B 8 1 = I 8 1 := ((congrFun (yc 8 (by decide)) 1).trans (h0.2.2.2.1 8 1 (by decide) (by decide) (by decide)))
  have f0_15 : B 0 15 = I 0 15 := ((congrFun (yc 0 (by decide)) 15).trans (h0.2.2.2.1 0 15 (by decide) (by decide) (by decide)))
  have f0_12 : B 0 12 = I 0 12 := ((congrFun (yc 0 (by decide)) 12).trans (h0.2.2.2.1 0 12 (by decide) (by decide) (by decide)))
  have f1_5 : B 1 5 = I 1 5 := ((congrFun (yc 1 (by decide)) 5).trans (h0.2.2.2.1 1 5 (by decide) (by decide) (by decide)))
  have f1_6 : B 1 6 = I 1 6 := ((congrFun (yc 1 (by decide)) 6).trans (h0.2.2.2.1 1 6 (by decide) (by decide) (by decide)))
  have f1_7 : B 1 7 = I 1 7 := ((congrFun (yc 1 (by decide)) 7).trans (h0.2.2.2.1 1 7 (by decide) (by decide) (by decide)))
  have f1_11 : B 1 11 = I 1 11 := ((congrFun (yc 1 (by decide)) 11).trans (h0.2.2.2.1 1 11 (by decide) (by decide) (by decide)))
  have f49_10 : B 49 10 = I 49 10 := ((hh.1.2 10 (by decide)).trans (congrFun (h0.1 49 (by decide)) 10))
  have f49_6 : B 49 6 = I 49 6 := ((hh.1.2 6 (by decide)).trans (congrFun (h0.1 49 (by decide)) 6))
  have f49_33 : B 49 33 = I 49 33 := ((hh.1.2 33 (by decide)).trans (congrFun (h0.1 49 (by decide)) 33))
  have y51 : B 51 = I 51 := ((hh.1.1 51 (by decide) (by decide)).trans (h0.1 51 (by decide)))
  have f51_304 : B 51 304 = I 51 304 := congrFun y51 304
  have f51_305 : B 51 305 = I 51 305 := congrFun y51 305
  have f51_306 : B 51 306 = I 51 306 := congrFun y51 306
  have f51_309 : B 51 309 = I 51 309 := congrFun y51 309
  exact CPF_g h hC ⟨by omega, by omega, by omega, by omega, by omega, by omega, by omega⟩ (TB5_k tb f8_1 ((yc 9 (by decide)).trans (Fw_row h0.2.2.2.1 9 (by decide) (by decide) (by decide))) ((hh.1.1 55 (by decide) (by decide)).trans (h0.1 55 (by decide)))) (OL5_k ol ((yc 2 (by decide)).trans (Fw_row h0.2.2.2.1 2 (by decide) (by decide) (by decide))) (fun j _ => congrFun y51 _)) (WN5_k wn ((yc 6 (by decide)).trans (Fw_row h0.2.2.2.1 6 (by decide) (by decide) (by decide))) (fun j _ => congrFun y51 _)) (TR5_k tr f0_12 ((yc 46 (by decide)).trans (Fw_row h0.2.2.2.1 46 (by decide) (by decide) (by decide))) ((hh.1.1 67 (by decide) (by decide)).trans (h0.1 67 (by decide)))) (SR_of sr ((yc 43 (by decide)).trans (Fw_row h0.2.2.2.1 43 (by decide) (by decide) (by decide))) ((yc 45 (by decide)).trans (Fw_row h0.2.2.2.1 45 (by decide) (by decide) (by decide)))) ((hh.1.1 52 (by decide) (by decide)).trans (h0.1 52 (by decide))) ((hh.1.1 53 (by decide) (by decide)).trans (h0.1 53 (by decide))) (fun k hk => (yc k (by omega)).trans (h0.1 k (by omega)))
set_option maxHeartbeats 1000000 in
theorem CF_reached {I A B J JA JB : aI1} {R : aR1} {S : aS1} (h : CPF I R) (hC : CI I R S) (h0 : Kp 0 49 I A ∧ Kp 0 49 J JA ∧ CX A ∧ Fw [] [] I A ∧ True) (hh : Ch [63] [] A B ∧ Kp 49 73 JA JB ∧ RX B ∧ True) : CPF B R := by
  obtain ⟨⟨q8, q15, q12, q5, q6, q7, q11⟩, tb, ol, wn, tr, sr, hi, di, im⟩ := id h
  have yc : ∀ k, k < 49 ∨ 73 ≤ k → B k = A k := Ch_kp hh.1 (by decide)
  have f8_1 : B 8 1 = I 8 1 := ((congrFun (yc 8 (by decide)) 1).trans (h0.2.2.2.1 8 1 (by decide) (by decide) (by decide)))
  have f0_15 : B 0 15 = I 0 15 := ((congrFun (yc 0 (by decide)) 15).trans (h0.2.2.2.1 0 15 (by decide) (by decide) (by decide)))
  have f0_12 : B 0 12 = I 0 12 := ((congrFun (yc 0 (by decide)) 12).trans (h0.2.2.2.1 0 12 (by decide) (by decide) (by decide)))
  have f1_5 : B 1 5 = I 1 5 := ((congrFun (yc 1 (by decide)) 5).trans (h0.2.2.2.1 1 5 (by decide) (by decide) (by decide)))
  have f1_6 : B 1 6 = I 1 6 := ((congrFun (yc 1 (by decide)) 6).trans (h0.2.2.2.1 1 6 (by decide) (by decide) (by decide)))
  have f1_7 : B 1 7 = I 1 7 := ((congrFun (yc 1 (by decide)) 7).trans (h0.2.2.2.1 1 7 (by decide) (by decide) (by decide)))
  have f1_11 : B 1 11 = I 1 11 := ((congrFun (yc 1 (by decide)) 11).trans (h0.2.2.2.1 1 11 (by decide) (by decide) (by decide)))
  have f49_10 : B 49 10 = I 49 10 := ((hh.1.2 10 (by decide)).trans (congrFun (h0.1 49 (by decide)) 10))
  have f49_6 : B 49 6 = I 49 6 := ((hh.1.2 6 (by decide)).trans (congrFun (h0.1 49 (by decide)) 6))
  have f49_33 : B 49 33 = I 49 33 := ((hh.1.2 33 (by decide)).trans (congrFun (h0.1 49 (by decide)) 33))
  have y51 : B 51 = I 51 := ((hh.1.1 51 (by decide) (by decide)).trans (h0.1 51 (by decide)))
  have f51_304 : B 51 304 = I 51 304 := congrFun y51 304
  have f51_305 : B 51 305 = I 51 305 := congrFun y51 305
  have f51_306 : B 51 306 = I 51 306 := congrFun y51 306
  have f51_309 : B 51 309 = I 51 309 := congrFun y51 309
  exact CPF_g h hC ⟨by omega, by omega, by omega, by omega, by omega, by omega, by omega⟩ (TB5_k tb f8_1 ((yc 9 (by decide)).trans (Fw_row h0.2.2.2.1 9 (by decide) (by decide) (by decide))) ((hh.1.1 55 (by decide) (by decide)).trans (h0.1 55 (by decide)))) (OL5_k ol ((yc 2 (by decide)).trans (Fw_row h0.2.2.2.1 2 (by decide) (by decide) (by decide))) (fun j _ => congrFun y51 _)) (WN5_k wn ((yc 6 (by decide)).trans (Fw_row h0.2.2.2.1 6 (by decide) (by decide) (by decide))) (fun j _ => congrFun y51 _)) (TR5_k tr f0_12 ((yc 46 (by decide)).trans (Fw_row h0.2.2.2.1 46 (by decide) (by decide) (by decide))) ((hh.1.1 67 (by decide) (by decide)).trans (h0.1 67 (by decide)))) (SR_of sr ((yc 43 (by decide)).trans (Fw_row h0.2.2.2.1 43 (by decide) (by decide) (by decide))) ((yc 45 (by decide)).trans (Fw_row h0.2.2.2.1 45 (by decide) (by decide) (by decide)))) ((hh.1.1 52 (by decide) (by decide)).trans (h0.1 52 (by decide))) ((hh.1.1 53 (by decide) (by decide)).trans (h0.1 53 (by decide))) (fun k hk => (yc k (by omega)).trans (h0.1 k (by omega)))
set_option maxHeartbeats 1000000 in
theorem CF_failing {I A B J JA JB : aI1} {R : aR1} {S : aS1} (h : CPF I R) (hC : CI I R S) (h0 : Kp 0 49 I A ∧ Kp 0 49 J JA ∧ CX A ∧ Fw [18, 19, 20, 21, 22, 23, 24, 25, 26, 27, 28, 29, 30, 31, 32, 33, 34, 35, 36] [] I A ∧ True) (hh : Ch [61, 64] [25, 28] A B ∧ Kp 49 73 JA JB ∧ RX B ∧ True) : CPF B R := by
  obtain ⟨⟨q8, q15, q12, q5, q6, q7, q11⟩, tb, ol, wn, tr, sr, hi, di, im⟩ := id h
  have yc : ∀ k, k < 49 ∨ 73 ≤ k → B k = A k := Ch_kp hh.1 (by decide)
  have f8_1 : B 8 1 = I 8 1 := ((congrFun (yc 8 (by decide)) 1).trans (h0.2.2.2.1 8 1 (by decide) (by decide) (by decide)))
  have f0_15 : B 0 15 = I 0 15 := ((congrFun (yc 0 (by decide)) 15).trans (h0.2.2.2.1 0 15 (by decide) (by decide) (by decide)))
  have f0_12 : B 0 12 = I 0 12 := ((congrFun (yc 0 (by decide)) 12).trans (h0.2.2.2.1 0 12 (by decide) (by decide) (by decide)))
  have f1_5 : B 1 5 = I 1 5 := ((congrFun (yc 1 (by decide)) 5).trans (h0.2.2.2.1 1 5 (by decide) (by decide) (by decide)))
  have f1_6 : B 1 6 = I 1 6 := ((congrFun (yc 1 (by decide)) 6).trans (h0.2.2.2.1 1 6 (by decide) (by decide) (by decide)))
  have f1_7 : B 1 7 = I 1 7 := ((congrFun (yc 1 (by decide)) 7).trans (h0.2.2.2.1 1 7 (by decide) (by decide) (by decide)))
  have f1_11 : B 1 11 = I 1 11 := ((congrFun (yc 1 (by decide)) 11).trans (h0.2.2.2.1 1 11 (by decide) (by decide) (by decide)))
  have f49_10 : B 49 10 = I 49 10 := ((hh.1.2 10 (by decide)).trans (congrFun (h0.1 49 (by decide)) 10))
  have f49_6 : B 49 6 = I 49 6 := ((hh.1.2 6 (by decide)).trans (congrFun (h0.1 49 (by decide)) 6))
  have f49_33 : B 49 33 = I 49 33 := ((hh.1.2 33 (by decide)).trans (congrFun (h0.1 49 (by decide)) 33))
  have y51 : B 51 = I 51 := ((hh.1.1 51 (by decide) (by decide)).trans (h0.1 51 (by decide)))
  have f51_304 : B 51 304 = I 51 304 := congrFun y51 304
  have f51_305 : B 51 305 = I 51 305 := congrFun y51 305
  have f51_306 : B 51 306 = I 51 306 := congrFun y51 306
  have f51_309 : B 51 309 = I 51 309 := congrFun y51 309
  exact CPF_g h hC ⟨by omega, by omega, by omega, by omega, by omega, by omega, by omega⟩ (TB5_k tb f8_1 ((yc 9 (by decide)).trans (Fw_row h0.2.2.2.1 9 (by decide) (by decide) (by decide))) ((hh.1.1 55 (by decide) (by decide)).trans (h0.1 55 (by decide)))) (OL5_k ol ((yc 2 (by decide)).trans (Fw_row h0.2.2.2.1 2 (by decide) (by decide) (by decide))) (fun j _ => congrFun y51 _)) (WN5_k wn ((yc 6 (by decide)).trans (Fw_row h0.2.2.2.1 6 (by decide) (by decide) (by decide))) (fun j _ => congrFun y51 _)) (TR5_k tr f0_12 ((yc 46 (by decide)).trans (Fw_row h0.2.2.2.1 46 (by decide) (by decide) (by decide))) ((hh.1.1 67 (by decide) (by decide)).trans (h0.1 67 (by decide)))) (SR_of sr ((yc 43 (by decide)).trans (Fw_row h0.2.2.2.1 43 (by decide) (by decide) (by decide))) ((yc 45 (by decide)).trans (Fw_row h0.2.2.2.1 45 (by decide) (by decide) (by decide)))) ((hh.1.1 52 (by decide) (by decide)).trans (h0.1 52 (by decide))) ((hh.1.1 53 (by decide) (by decide)).trans (h0.1 53 (by decide))) (fun k hk => (yc k (by omega)).trans (h0.1 k (by omega)))
set_option maxHeartbeats 1000000 in
theorem CF_hurts {I A B J JA JB : aI1} {R : aR1} {S : aS1} (h : CPF I R) (hC : CI I R S) (h0 : Kp 0 49 I A ∧ Kp 0 49 J JA ∧ CX A ∧ Fw [18, 19, 20, 21, 22, 23, 24, 25, 26, 27, 28, 29, 30, 31, 32, 33, 34, 35, 36] [] I A ∧ True) (hh : Ch [61] [25] A B ∧ Kp 49 73 JA JB ∧ RX B ∧ True) : CPF B R := by
  obtain ⟨⟨q8, q15, q12, q5, q6, q7, q11⟩, tb, ol, wn, tr, sr, hi, di, im⟩ := id h
  have yc : ∀ k, k < 49 ∨ 73 ≤ k → B k = A k := Ch_kp hh.1 (by decide)
  have f8_1 : B 8 1 = I 8 1 := ((congrFun (yc 8 (by decide)) 1).trans (h0.2.2.2.1 8 1 (by decide) (by decide) (by decide)))
  have f0_15 : B 0 15 = I 0 15 := ((congrFun (yc 0 (by decide)) 15).trans (h0.2.2.2.1 0 15 (by decide) (by decide) (by decide)))
  have f0_12 : B 0 12 = I 0 12 := ((congrFun (yc 0 (by decide)) 12).trans (h0.2.2.2.1 0 12 (by decide) (by decide) (by decide)))
  have f1_5 : B 1 5 = I 1 5 := ((congrFun (yc 1 (by decide)) 5).trans (h0.2.2.2.1 1 5 (by decide) (by decide) (by decide)))
  have f1_6 : B 1 6 = I 1 6 := ((congrFun (yc 1 (by decide)) 6).trans (h0.2.2.2.1 1 6 (by decide) (by decide) (by decide)))
  have f1_7 : B 1 7 = I 1 7 := ((congrFun (yc 1 (by decide)) 7).trans (h0.2.2.2.1 1 7 (by decide) (by decide) (by decide)))
  have f1_11 : B 1 11 = I 1 11 := ((congrFun (yc 1 (by decide)) 11).trans (h0.2.2.2.1 1 11 (by decide) (by decide) (by decide)))
  have f49_10 : B 49 10 = I 49 10 := ((hh.1.2 10 (by decide)).trans (congrFun (h0.1 49 (by decide)) 10))
  have f49_6 : B 49 6 = I 49 6 := ((hh.1.2 6 (by decide)).trans (congrFun (h0.1 49 (by decide)) 6))
  have f49_33 : B 49 33 = I 49 33 := ((hh.1.2 33 (by decide)).trans (congrFun (h0.1 49 (by decide)) 33))
  have y51 : B 51 = I 51 := ((hh.1.1 51 (by decide) (by decide)).trans (h0.1 51 (by decide)))
  have f51_304 : B 51 304 = I 51 304 := congrFun y51 304
  have f51_305 : B 51 305 = I 51 305 := congrFun y51 305
  have f51_306 : B 51 306 = I 51 306 := congrFun y51 306
  have f51_309 : B 51 309 = I 51 309 := congrFun y51 309
  exact CPF_g h hC ⟨by omega, by omega, by omega, by omega, by omega, by omega, by omega⟩ (TB5_k tb f8_1 ((yc 9 (by decide)).trans (Fw_row h0.2.2.2.1 9 (by decide) (by decide) (by decide))) ((hh.1.1 55 (by decide) (by decide)).trans (h0.1 55 (by decide)))) (OL5_k ol ((yc 2 (by decide)).trans (Fw_row h0.2.2.2.1 2 (by decide) (by decide) (by decide))) (fun j _ => congrFun y51 _)) (WN5_k wn ((yc 6 (by decide)).trans (Fw_row h0.2.2.2.1 6 (by decide) (by decide) (by decide))) (fun j _ => congrFun y51 _)) (TR5_k tr f0_12 ((yc 46 (by decide)).trans (Fw_row h0.2.2.2.1 46 (by decide) (by decide) (by decide))) ((hh.1.1 67 (by decide) (by decide)).trans (h0.1 67 (by decide)))) (SR_of sr ((yc 43 (by decide)).trans (Fw_row h0.2.2.2.1 43 (by decide) (by decide) (by decide))) ((yc 45 (by decide)).trans (Fw_row h0.2.2.2.1 45 (by decide) (by decide) (by decide)))) ((hh.1.1 52 (by decide) (by decide)).trans (h0.1 52 (by decide))) ((hh.1.1 53 (by decide) (by decide)).trans (h0.1 53 (by decide))) (fun k hk => (yc k (by omega)).trans (h0.1 k (by omega)))
set_option maxHeartbeats 1000000 in
theorem CF_log {I A B J JA JB : aI1} {R : aR1} {S : aS1} (h : CPF I R) (hC : CI I R S) (h0 : Kp 0 49 I A ∧ Kp 0 49 J JA ∧ CX A ∧ Fw [] [] I A ∧ True) (hh : A = B ∧ JA = JB ∧ True) : CPF A R := by
  obtain ⟨⟨q8, q15, q12, q5, q6, q7, q11⟩, tb, ol, wn, tr, sr, hi, di, im⟩ := id h
  obtain ⟨rfl, rfl, hh⟩ := hh
  have f8_1 : A 8 1 = I 8 1 := (h0.2.2.2.1 8 1 (by decide) (by decide) (by decide))
  have f0_15 : A 0 15 = I 0 15 := (h0.2.2.2.1 0 15 (by decide) (by decide) (by decide))
  have f0_12 : A 0 12 = I 0 12 := (h0.2.2.2.1 0 12 (by decide) (by decide) (by decide))
  have f1_5 : A 1 5 = I 1 5 := (h0.2.2.2.1 1 5 (by decide) (by decide) (by decide))
  have f1_6 : A 1 6 = I 1 6 := (h0.2.2.2.1 1 6 (by decide) (by decide) (by decide))
  have f1_7 : A 1 7 = I 1 7 := (h0.2.2.2.1 1 7 (by decide) (by decide) (by decide))
  have f1_11 : A 1 11 = I 1 11 := (h0.2.2.2.1 1 11 (by decide) (by decide) (by decide))
  have f49_10 : A 49 10 = I 49 10 := (congrFun (h0.1 49 (by decide)) 10)
  have f49_6 : A 49 6 = I 49 6 := (congrFun (h0.1 49 (by decide)) 6)
  have f49_33 : A 49 33 = I 49 33 := (congrFun (h0.1 49 (by decide)) 33)
  have y51 : A 51 = I 51 := (h0.1 51 (by decide))
  have f51_304 : A 51 304 = I 51 304 := congrFun y51 304
  have f51_305 : A 51 305 = I 51 305 := congrFun y51 305
  have f51_306 : A 51 306 = I 51 306 := congrFun y51 306
  have f51_309 : A 51 309 = I 51 309 := congrFun y51 309
  exact CPF_g h hC ⟨by omega, by omega, by omega, by omega, by omega, by omega, by omega⟩ (TB5_k tb f8_1 (Fw_row h0.2.2.2.1 9 (by decide) (by decide) (by decide)) (h0.1 55 (by decide))) (OL5_k ol (Fw_row h0.2.2.2.1 2 (by decide) (by decide) (by decide)) (fun j _ => congrFun y51 _)) (WN5_k wn (Fw_row h0.2.2.2.1 6 (by decide) (by decide) (by decide)) (fun j _ => congrFun y51 _)) (TR5_k tr f0_12 (Fw_row h0.2.2.2.1 46 (by decide) (by decide) (by decide)) (h0.1 67 (by decide))) (SR_of sr (Fw_row h0.2.2.2.1 43 (by decide) (by decide) (by decide)) (Fw_row h0.2.2.2.1 45 (by decide) (by decide) (by decide))) (h0.1 52 (by decide)) (h0.1 53 (by decide)) (fun k hk => (h0.1 k (by omega)))
set_option maxHeartbeats 1000000 in
theorem CF_burnt {I A B J JA JB : aI1} {R : aR1} {S : aS1} (h : CPF I R) (hC : CI I R S) (h0 : Kp 0 49 I A ∧ Kp 0 49 J JA ∧ CX A ∧ Fw [18, 19, 20, 21, 22, 23, 24, 25, 26, 27, 28, 29, 30, 31, 32, 33, 34, 35, 36] [] I A ∧ True) (hh : A = B ∧ JA = JB ∧ True) : CPF A R := by
  obtain ⟨⟨q8, q15, q12, q5, q6, q7, q11⟩, tb, ol, wn, tr, sr, hi, di, im⟩ := id h
  obtain ⟨rfl, rfl, hh⟩ := hh
  have f8_1 : A 8 1 = I 8 1 := (h0.2.2.2.1 8 1 (by decide) (by decide) (by decide))
  have f0_15 : A 0 15 = I 0 15 := (h0.2.2.2.1 0 15 (by decide) (by decide) (by decide))
  have f0_12 : A 0 12 = I 0 12 := (h0.2.2.2.1 0 12 (by decide) (by decide) (by decide))
  have f1_5 : A 1 5 = I 1 5 := (h0.2.2.2.1 1 5 (by decide) (by decide) (by decide))
  have f1_6 : A 1 6 = I 1 6 := (h0.2.2.2.1 1 6 (by decide) (by decide) (by decide))
  have f1_7 : A 1 7 = I 1 7 := (h0.2.2.2.1 1 7 (by decide) (by decide) (by decide))
  have f1_11 : A 1 11 = I 1 11 := (h0.2.2.2.1 1 11 (by decide) (by decide) (by decide))
  have f49_10 : A 49 10 = I 49 10 := (congrFun (h0.1 49 (by decide)) 10)
  have f49_6 : A 49 6 = I 49 6 := (congrFun (h0.1 49 (by decide)) 6)
  have f49_33 : A 49 33 = I 49 33 := (congrFun (h0.1 49 (by decide)) 33)
  have y51 : A 51 = I 51 := (h0.1 51 (by decide))
  have f51_304 : A 51 304 = I 51 304 := congrFun y51 304
  have f51_305 : A 51 305 = I 51 305 := congrFun y51 305
  have f51_306 : A 51 306 = I 51 306 := congrFun y51 306
  have f51_309 : A 51 309 = I 51 309 := congrFun y51 309
  exact CPF_g h hC ⟨by omega, by omega, by omega, by omega, by omega, by omega, by omega⟩ (TB5_k tb f8_1 (Fw_row h0.2.2.2.1 9 (by decide) (by decide) (by decide)) (h0.1 55 (by decide))) (OL5_k ol (Fw_row h0.2.2.2.1 2 (by decide) (by decide) (by decide)) (fun j _ => congrFun y51 _)) (WN5_k wn (Fw_row h0.2.2.2.1 6 (by decide) (by decide) (by decide)) (fun j _ => congrFun y51 _)) (TR5_k tr f0_12 (Fw_row h0.2.2.2.1 46 (by decide) (by decide) (by decide)) (h0.1 67 (by decide))) (SR_of sr (Fw_row h0.2.2.2.1 43 (by decide) (by decide) (by decide)) (Fw_row h0.2.2.2.1 45 (by decide) (by decide) (by decide))) (h0.1 52 (by decide)) (h0.1 53 (by decide)) (fun k hk => (h0.1 k (by omega)))
set_option maxHeartbeats 1000000 in
theorem CF_judge {I A B J JA JB : aI1} {R : aR1} {S : aS1} (h : CPF I R) (hC : CI I R S) (h0 : Kp 0 49 I A ∧ Kp 0 49 J JA ∧ CX A ∧ Fw [18, 19, 20, 21, 22, 23, 24, 25, 26, 27, 28, 29, 30, 31, 32, 33, 34, 35, 36] [] I A ∧ True) (hh : Ch [61] [25] A B ∧ Kp 49 73 JA JB ∧ RX B ∧ True) : CPF B R := by
  obtain ⟨⟨q8, q15, q12, q5, q6, q7, q11⟩, tb, ol, wn, tr, sr, hi, di, im⟩ := id h
  have yc : ∀ k, k < 49 ∨ 73 ≤ k → B k = A k := Ch_kp hh.1 (by decide)
  have f8_1 : B 8 1 = I 8 1 := ((congrFun (yc 8 (by decide)) 1).trans (h0.2.2.2.1 8 1 (by decide) (by decide) (by decide)))
  have f0_15 : B 0 15 = I 0 15 := ((congrFun (yc 0 (by decide)) 15).trans (h0.2.2.2.1 0 15 (by decide) (by decide) (by decide)))
  have f0_12 : B 0 12 = I 0 12 := ((congrFun (yc 0 (by decide)) 12).trans (h0.2.2.2.1 0 12 (by decide) (by decide) (by decide)))
  have f1_5 : B 1 5 = I 1 5 := ((congrFun (yc 1 (by decide)) 5).trans (h0.2.2.2.1 1 5 (by decide) (by decide) (by decide)))
  have f1_6 : B 1 6 = I 1 6 := ((congrFun (yc 1 (by decide)) 6).trans (h0.2.2.2.1 1 6 (by decide) (by decide) (by decide)))
  have f1_7 : B 1 7 = I 1 7 := ((congrFun (yc 1 (by decide)) 7).trans (h0.2.2.2.1 1 7 (by decide) (by decide) (by decide)))
  have f1_11 : B 1 11 = I 1 11 := ((congrFun (yc 1 (by decide)) 11).trans (h0.2.2.2.1 1 11 (by decide) (by decide) (by decide)))
  have f49_10 : B 49 10 = I 49 10 := ((hh.1.2 10 (by decide)).trans (congrFun (h0.1 49 (by decide)) 10))
  have f49_6 : B 49 6 = I 49 6 := ((hh.1.2 6 (by decide)).trans (congrFun (h0.1 49 (by decide)) 6))
  have f49_33 : B 49 33 = I 49 33 := ((hh.1.2 33 (by decide)).trans (congrFun (h0.1 49 (by decide)) 33))
  have y51 : B 51 = I 51 := ((hh.1.1 51 (by decide) (by decide)).trans (h0.1 51 (by decide)))
  have f51_304 : B 51 304 = I 51 304 := congrFun y51 304
  have f51_305 : B 51 305 = I 51 305 := congrFun y51 305
  have f51_306 : B 51 306 = I 51 306 := congrFun y51 306
  have f51_309 : B 51 309 = I 51 309 := congrFun y51 309
  exact CPF_g h hC ⟨by omega, by omega, by omega, by omega, by omega, by omega, by omega⟩ (TB5_k tb f8_1 ((yc 9 (by decide)).trans (Fw_row h0.2.2.2.1 9 (by decide) (by decide) (by decide))) ((hh.1.1 55 (by decide) (by decide)).trans (h0.1 55 (by decide)))) (OL5_k ol ((yc 2 (by decide)).trans (Fw_row h0.2.2.2.1 2 (by decide) (by decide) (by decide))) (fun j _ => congrFun y51 _)) (WN5_k wn ((yc 6 (by decide)).trans (Fw_row h0.2.2.2.1 6 (by decide) (by decide) (by decide))) (fun j _ => congrFun y51 _)) (TR5_k tr f0_12 ((yc 46 (by decide)).trans (Fw_row h0.2.2.2.1 46 (by decide) (by decide) (by decide))) ((hh.1.1 67 (by decide) (by decide)).trans (h0.1 67 (by decide)))) (SR_of sr ((yc 43 (by decide)).trans (Fw_row h0.2.2.2.1 43 (by decide) (by decide) (by decide))) ((yc 45 (by decide)).trans (Fw_row h0.2.2.2.1 45 (by decide) (by decide) (by decide)))) ((hh.1.1 52 (by decide) (by decide)).trans (h0.1 52 (by decide))) ((hh.1.1 53 (by decide) (by decide)).trans (h0.1 53 (by decide))) (fun k hk => (yc k (by omega)).trans (h0.1 k (by omega)))
set_option maxHeartbeats 1000000 in
theorem CF_rows {I A B J JA JB : aI1} {R : aR1} {S : aS1} (h : CPF I R) (hC : CI I R S) (h0 : Kp 0 49 I A ∧ Kp 0 49 J JA ∧ CX A ∧ Fw [18, 19, 20, 21, 22, 23, 24, 25, 26, 27, 28, 29, 30, 31, 32, 33, 34, 35, 36] [] I A ∧ True) (hh : Ch [61] [25] A B ∧ Kp 49 73 JA JB ∧ RX B ∧ True) : CPF B R := by
  obtain ⟨⟨q8, q15, q12, q5, q6, q7, q11⟩, tb, ol, wn, tr, sr, hi, di, im⟩ := id h
  have yc : ∀ k, k < 49 ∨ 73 ≤ k → B k = A k := Ch_kp hh.1 (by decide)
  have f8_1 : B 8 1 = I 8 1 := ((congrFun (yc 8 (by decide)) 1).trans (h0.2.2.2.1 8 1 (by decide) (by decide) (by decide)))
  have f0_15 : B 0 15 = I 0 15 := ((congrFun (yc 0 (by decide)) 15).trans (h0.2.2.2.1 0 15 (by decide) (by decide) (by decide)))
  have f0_12 : B 0 12 = I 0 12 := ((congrFun (yc 0 (by decide)) 12).trans (h0.2.2.2.1 0 12 (by decide) (by decide) (by decide)))
  have f1_5 : B 1 5 = I 1 5 := ((congrFun (yc 1 (by decide)) 5).trans (h0.2.2.2.1 1 5 (by decide) (by decide) (by decide)))
  have f1_6 : B 1 6 = I 1 6 := ((congrFun (yc 1 (by decide)) 6).trans (h0.2.2.2.1 1 6 (by decide) (by decide) (by decide)))
  have f1_7 : B 1 7 = I 1 7 := ((congrFun (yc 1 (by decide)) 7).trans (h0.2.2.2.1 1 7 (by decide) (by decide) (by decide)))
  have f1_11 : B 1 11 = I 1 11 := ((congrFun (yc 1 (by decide)) 11).trans (h0.2.2.2.1 1 11 (by decide) (by decide) (by decide)))
  have f49_10 : B 49 10 = I 49 10 := ((hh.1.2 10 (by decide)).trans (congrFun (h0.1 49 (by decide)) 10))
  have f49_6 : B 49 6 = I 49 6 := ((hh.1.2 6 (by decide)).trans (congrFun (h0.1 49 (by decide)) 6))
  have f49_33 : B 49 33 = I 49 33 := ((hh.1.2 33 (by decide)).trans (congrFun (h0.1 49 (by decide)) 33))
  have y51 : B 51 = I 51 := ((hh.1.1 51 (by decide) (by decide)).trans (h0.1 51 (by decide)))
  have f51_304 : B 51 304 = I 51 304 := congrFun y51 304
  have f51_305 : B 51 305 = I 51 305 := congrFun y51 305
  have f51_306 : B 51 306 = I 51 306 := congrFun y51 306
  have f51_309 : B 51 309 = I 51 309 := congrFun y51 309
  exact CPF_g h hC ⟨by omega, by omega, by omega, by omega, by omega, by omega, by omega⟩ (TB5_k tb f8_1 ((yc 9 (by decide)).trans (Fw_row h0.2.2.2.1 9 (by decide) (by decide) (by decide))) ((hh.1.1 55 (by decide) (by decide)).trans (h0.1 55 (by decide)))) (OL5_k ol ((yc 2 (by decide)).trans (Fw_row h0.2.2.2.1 2 (by decide) (by decide) (by decide))) (fun j _ => congrFun y51 _)) (WN5_k wn ((yc 6 (by decide)).trans (Fw_row h0.2.2.2.1 6 (by decide) (by decide) (by decide))) (fun j _ => congrFun y51 _)) (TR5_k tr f0_12 ((yc 46 (by decide)).trans (Fw_row h0.2.2.2.1 46 (by decide) (by decide) (by decide))) ((hh.1.1 67 (by decide) (by decide)).trans (h0.1 67 (by decide)))) (SR_of sr ((yc 43 (by decide)).trans (Fw_row h0.2.2.2.1 43 (by decide) (by decide) (by decide))) ((yc 45 (by decide)).trans (Fw_row h0.2.2.2.1 45 (by decide) (by decide) (by decide)))) ((hh.1.1 52 (by decide) (by decide)).trans (h0.1 52 (by decide))) ((hh.1.1 53 (by decide) (by decide)).trans (h0.1 53 (by decide))) (fun k hk => (yc k (by omega)).trans (h0.1 k (by omega)))
set_option maxHeartbeats 1000000 in
theorem CF_could {I A B J JA JB : aI1} {R : aR1} {S : aS1} (h : CPF I R) (hC : CI I R S) (h0 : Kp 0 49 I A ∧ Kp 0 49 J JA ∧ CX A ∧ Fw [18, 19, 20, 21, 22, 23, 24, 25, 26, 27, 28, 29, 30, 31, 32, 33, 34, 35, 36] [] I A ∧ True) (hh : Ch [61] [25] A B ∧ Kp 49 73 JA JB ∧ RX B ∧ True) : CPF B R := by
  obtain ⟨⟨q8, q15, q12, q5, q6, q7, q11⟩, tb, ol, wn, tr, sr, hi, di, im⟩ := id h
  have yc : ∀ k, k < 49 ∨ 73 ≤ k → B k = A k := Ch_kp hh.1 (by decide)
  have f8_1 : B 8 1 = I 8 1 := ((congrFun (yc 8 (by decide)) 1).trans (h0.2.2.2.1 8 1 (by decide) (by decide) (by decide)))
  have f0_15 : B 0 15 = I 0 15 := ((congrFun (yc 0 (by decide)) 15).trans (h0.2.2.2.1 0 15 (by decide) (by decide) (by decide)))
  have f0_12 : B 0 12 = I 0 12 := ((congrFun (yc 0 (by decide)) 12).trans (h0.2.2.2.1 0 12 (by decide) (by decide) (by decide)))
  have f1_5 : B 1 5 = I 1 5 := ((congrFun (yc 1 (by decide)) 5).trans (h0.2.2.2.1 1 5 (by decide) (by decide) (by decide)))
  have f1_6 : B 1 6 = I 1 6 := ((congrFun (yc 1 (by decide)) 6).trans (h0.2.2.2.1 1 6 (by decide) (by decide) (by decide)))
  have f1_7 : B 1 7 = I 1 7 := ((congrFun (yc 1 (by decide)) 7).trans (h0.2.2.2.1 1 7 (by decide) (by decide) (by decide)))
  have f1_11 : B 1 11 = I 1 11 := ((congrFun (yc 1 (by decide)) 11).trans (h0.2.2.2.1 1 11 (by decide) (by decide) (by decide)))
  have f49_10 : B 49 10 = I 49 10 := ((hh.1.2 10 (by decide)).trans (congrFun (h0.1 49 (by decide)) 10))
  have f49_6 : B 49 6 = I 49 6 := ((hh.1.2 6 (by decide)).trans (congrFun (h0.1 49 (by decide)) 6))
  have f49_33 : B 49 33 = I 49 33 := ((hh.1.2 33 (by decide)).trans (congrFun (h0.1 49 (by decide)) 33))
  have y51 : B 51 = I 51 := ((hh.1.1 51 (by decide) (by decide)).trans (h0.1 51 (by decide)))
  have f51_304 : B 51 304 = I 51 304 := congrFun y51 304
  have f51_305 : B 51 305 = I 51 305 := congrFun y51 305
  have f51_306 : B 51 306 = I 51 306 := congrFun y51 306
  have f51_309 : B 51 309 = I 51 309 := congrFun y51 309
  exact CPF_g h hC ⟨by omega, by omega, by omega, by omega, by omega, by omega, by omega⟩ (TB5_k tb f8_1 ((yc 9 (by decide)).trans (Fw_row h0.2.2.2.1 9 (by decide) (by decide) (by decide))) ((hh.1.1 55 (by decide) (by decide)).trans (h0.1 55 (by decide)))) (OL5_k ol ((yc 2 (by decide)).trans (Fw_row h0.2.2.2.1 2 (by decide) (by decide) (by decide))) (fun j _ => congrFun y51 _)) (WN5_k wn ((yc 6 (by decide)).trans (Fw_row h0.2.2.2.1 6 (by decide) (by decide) (by decide))) (fun j _ => congrFun y51 _)) (TR5_k tr f0_12 ((yc 46 (by decide)).trans (Fw_row h0.2.2.2.1 46 (by decide) (by decide) (by decide))) ((hh.1.1 67 (by decide) (by decide)).trans (h0.1 67 (by decide)))) (SR_of sr ((yc 43 (by decide)).trans (Fw_row h0.2.2.2.1 43 (by decide) (by decide) (by decide))) ((yc 45 (by decide)).trans (Fw_row h0.2.2.2.1 45 (by decide) (by decide) (by decide)))) ((hh.1.1 52 (by decide) (by decide)).trans (h0.1 52 (by decide))) ((hh.1.1 53 (by decide) (by decide)).trans (h0.1 53 (by decide))) (fun k hk => (yc k (by omega)).trans (h0.1 k (by omega)))
set_option maxHeartbeats 1000000 in
theorem CF_maybe {I A B J JA JB : aI1} {R : aR1} {S : aS1} (h : CPF I R) (hC : CI I R S) (h0 : Kp 0 49 I A ∧ Kp 0 49 J JA ∧ CX A ∧ Fw [] [] I A ∧ True) (hh : Ch [63] [] A B ∧ Kp 49 73 JA JB ∧ RX B ∧ True) : CPF B R := by
  obtain ⟨⟨q8, q15, q12, q5, q6, q7, q11⟩, tb, ol, wn, tr, sr, hi, di, im⟩ := id h
  have yc : ∀ k, k < 49 ∨ 73 ≤ k → B k = A k := Ch_kp hh.1 (by decide)
  have f8_1 : B 8 1 = I 8 1 := ((congrFun (yc 8 (by decide)) 1).trans (h0.2.2.2.1 8 1 (by decide) (by decide) (by decide)))
  have f0_15 : B 0 15 = I 0 15 := ((congrFun (yc 0 (by decide)) 15).trans (h0.2.2.2.1 0 15 (by decide) (by decide) (by decide)))
  have f0_12 : B 0 12 = I 0 12 := ((congrFun (yc 0 (by decide)) 12).trans (h0.2.2.2.1 0 12 (by decide) (by decide) (by decide)))
  have f1_5 : B 1 5 = I 1 5 := ((congrFun (yc 1 (by decide)) 5).trans (h0.2.2.2.1 1 5 (by decide) (by decide) (by decide)))
  have f1_6 : B 1 6 = I 1 6 := ((congrFun (yc 1 (by decide)) 6).trans (h0.2.2.2.1 1 6 (by decide) (by decide) (by decide)))
  have f1_7 : B 1 7 = I 1 7 := ((congrFun (yc 1 (by decide)) 7).trans (h0.2.2.2.1 1 7 (by decide) (by decide) (by decide)))
  have f1_11 : B 1 11 = I 1 11 := ((congrFun (yc 1 (by decide)) 11).trans (h0.2.2.2.1 1 11 (by decide) (by decide) (by decide)))
  have f49_10 : B 49 10 = I 49 10 := ((hh.1.2 10 (by decide)).trans (congrFun (h0.1 49 (by decide)) 10))
  have f49_6 : B 49 6 = I 49 6 := ((hh.1.2 6 (by decide)).trans (congrFun (h0.1 49 (by decide)) 6))
  have f49_33 : B 49 33 = I 49 33 := ((hh.1.2 33 (by decide)).trans (congrFun (h0.1 49 (by decide)) 33))
  have y51 : B 51 = I 51 := ((hh.1.1 51 (by decide) (by decide)).trans (h0.1 51 (by decide)))
  have f51_304 : B 51 304 = I 51 304 := congrFun y51 304
  have f51_305 : B 51 305 = I 51 305 := congrFun y51 305
  have f51_306 : B 51 306 = I 51 306 := congrFun y51 306
  have f51_309 : B 51 309 = I 51 309 := congrFun y51 309
  exact CPF_g h hC ⟨by omega, by omega, by omega, by omega, by omega, by omega, by omega⟩ (TB5_k tb f8_1 ((yc 9 (by decide)).trans (Fw_row h0.2.2.2.1 9 (by decide) (by decide) (by decide))) ((hh.1.1 55 (by decide) (by decide)).trans (h0.1 55 (by decide)))) (OL5_k ol ((yc 2 (by decide)).trans (Fw_row h0.2.2.2.1 2 (by decide) (by decide) (by decide))) (fun j _ => congrFun y51 _)) (WN5_k wn ((yc 6 (by decide)).trans (Fw_row h0.2.2.2.1 6 (by decide) (by decide) (by decide))) (fun j _ => congrFun y51 _)) (TR5_k tr f0_12 ((yc 46 (by decide)).trans (Fw_row h0.2.2.2.1 46 (by decide) (by decide) (by decide))) ((hh.1.1 67 (by decide) (by decide)).trans (h0.1 67 (by decide)))) (SR_of sr ((yc 43 (by decide)).trans (Fw_row h0.2.2.2.1 43 (by decide) (by decide) (by decide))) ((yc 45 (by decide)).trans (Fw_row h0.2.2.2.1 45 (by decide) (by decide) (by decide)))) ((hh.1.1 52 (by decide) (by decide)).trans (h0.1 52 (by decide))) ((hh.1.1 53 (by decide) (by decide)).trans (h0.1 53 (by decide))) (fun k hk => (yc k (by omega)).trans (h0.1 k (by omega)))
set_option maxHeartbeats 1000000 in
theorem CF_safe {I A B J JA JB : aI1} {R : aR1} {S : aS1} (h : CPF I R) (hC : CI I R S) (h0 : Kp 0 49 I A ∧ Kp 0 49 J JA ∧ CX A ∧ Fw [18, 19, 20, 21, 22, 23, 24, 25, 26, 27, 28, 29, 30, 31, 32, 33, 34, 35, 36] [] I A ∧ True) (hh : Ch [63] [] A B ∧ Kp 49 73 JA JB ∧ RX B ∧ True) : CPF B R := by
  obtain ⟨⟨q8, q15, q12, q5, q6, q7, q11⟩, tb, ol, wn, tr, sr, hi, di, im⟩ := id h
  have yc : ∀ k, k < 49 ∨ 73 ≤ k → B k = A k := Ch_kp hh.1 (by decide)
  have f8_1 : B 8 1 = I 8 1 := ((congrFun (yc 8 (by decide)) 1).trans (h0.2.2.2.1 8 1 (by decide) (by decide) (by decide)))
  have f0_15 : B 0 15 = I 0 15 := ((congrFun (yc 0 (by decide)) 15).trans (h0.2.2.2.1 0 15 (by decide) (by decide) (by decide)))
  have f0_12 : B 0 12 = I 0 12 := ((congrFun (yc 0 (by decide)) 12).trans (h0.2.2.2.1 0 12 (by decide) (by decide) (by decide)))
  have f1_5 : B 1 5 = I 1 5 := ((congrFun (yc 1 (by decide)) 5).trans (h0.2.2.2.1 1 5 (by decide) (by decide) (by decide)))
  have f1_6 : B 1 6 = I 1 6 := ((congrFun (yc 1 (by decide)) 6).trans (h0.2.2.2.1 1 6 (by decide) (by decide) (by decide)))
  have f1_7 : B 1 7 = I 1 7 := ((congrFun (yc 1 (by decide)) 7).trans (h0.2.2.2.1 1 7 (by decide) (by decide) (by decide)))
  have f1_11 : B 1 11 = I 1 11 := ((congrFun (yc 1 (by decide)) 11).trans (h0.2.2.2.1 1 11 (by decide) (by decide) (by decide)))
  have f49_10 : B 49 10 = I 49 10 := ((hh.1.2 10 (by decide)).trans (congrFun (h0.1 49 (by decide)) 10))
  have f49_6 : B 49 6 = I 49 6 := ((hh.1.2 6 (by decide)).trans (congrFun (h0.1 49 (by decide)) 6))
  have f49_33 : B 49 33 = I 49 33 := ((hh.1.2 33 (by decide)).trans (congrFun (h0.1 49 (by decide)) 33))
  have y51 : B 51 = I 51 := ((hh.1.1 51 (by decide) (by decide)).trans (h0.1 51 (by decide)))
  have f51_304 : B 51 304 = I 51 304 := congrFun y51 304
  have f51_305 : B 51 305 = I 51 305 := congrFun y51 305
  have f51_306 : B 51 306 = I 51 306 := congrFun y51 306
  have f51_309 : B 51 309 = I 51 309 := congrFun y51 309
  exact CPF_g h hC ⟨by omega, by omega, by omega, by omega, by omega, by omega, by omega⟩ (TB5_k tb f8_1 ((yc 9 (by decide)).trans (Fw_row h0.2.2.2.1 9 (by decide) (by decide) (by decide))) ((hh.1.1 55 (by decide) (by decide)).trans (h0.1 55 (by decide)))) (OL5_k ol ((yc 2 (by decide)).trans (Fw_row h0.2.2.2.1 2 (by decide) (by decide) (by decide))) (fun j _ => congrFun y51 _)) (WN5_k wn ((yc 6 (by decide)).trans (Fw_row h0.2.2.2.1 6 (by decide) (by decide) (by decide))) (fun j _ => congrFun y51 _)) (TR5_k tr f0_12 ((yc 46 (by decide)).trans (Fw_row h0.2.2.2.1 46 (by decide) (by decide) (by decide))) ((hh.1.1 67 (by decide) (by decide)).trans (h0.1 67 (by decide)))) (SR_of sr ((yc 43 (by decide)).trans (Fw_row h0.2.2.2.1 43 (by decide) (by decide) (by decide))) ((yc 45 (by decide)).trans (Fw_row h0.2.2.2.1 45 (by decide) (by decide) (by decide)))) ((hh.1.1 52 (by decide) (by decide)).trans (h0.1 52 (by decide))) ((hh.1.1 53 (by decide) (by decide)).trans (h0.1 53 (by decide))) (fun k hk => (yc k (by omega)).trans (h0.1 k (by omega)))
set_option maxHeartbeats 1000000 in
theorem CF_spy {I A B J JA JB : aI1} {R : aR1} {S : aS1} (h : CPF I R) (hC : CI I R S) (h0 : Kp 0 49 I A ∧ Kp 0 49 J JA ∧ CX A ∧ Fw [] [] I A ∧ True) (hh : Ch [63] [] A B ∧ Kp 49 73 JA JB ∧ RX B ∧ True) : CPF B R := by
  obtain ⟨⟨q8, q15, q12, q5, q6, q7, q11⟩, tb, ol, wn, tr, sr, hi, di, im⟩ := id h
  have yc : ∀ k, k < 49 ∨ 73 ≤ k → B k = A k := Ch_kp hh.1 (by decide)
  have f8_1 : B 8 1 = I 8 1 := ((congrFun (yc 8 (by decide)) 1).trans (h0.2.2.2.1 8 1 (by decide) (by decide) (by decide)))
  have f0_15 : B 0 15 = I 0 15 := ((congrFun (yc 0 (by decide)) 15).trans (h0.2.2.2.1 0 15 (by decide) (by decide) (by decide)))
  have f0_12 : B 0 12 = I 0 12 := ((congrFun (yc 0 (by decide)) 12).trans (h0.2.2.2.1 0 12 (by decide) (by decide) (by decide)))
  have f1_5 : B 1 5 = I 1 5 := ((congrFun (yc 1 (by decide)) 5).trans (h0.2.2.2.1 1 5 (by decide) (by decide) (by decide)))
  have f1_6 : B 1 6 = I 1 6 := ((congrFun (yc 1 (by decide)) 6).trans (h0.2.2.2.1 1 6 (by decide) (by decide) (by decide)))
  have f1_7 : B 1 7 = I 1 7 := ((congrFun (yc 1 (by decide)) 7).trans (h0.2.2.2.1 1 7 (by decide) (by decide) (by decide)))
  have f1_11 : B 1 11 = I 1 11 := ((congrFun (yc 1 (by decide)) 11).trans (h0.2.2.2.1 1 11 (by decide) (by decide) (by decide)))
  have f49_10 : B 49 10 = I 49 10 := ((hh.1.2 10 (by decide)).trans (congrFun (h0.1 49 (by decide)) 10))
  have f49_6 : B 49 6 = I 49 6 := ((hh.1.2 6 (by decide)).trans (congrFun (h0.1 49 (by decide)) 6))
  have f49_33 : B 49 33 = I 49 33 := ((hh.1.2 33 (by decide)).trans (congrFun (h0.1 49 (by decide)) 33))
  have y51 : B 51 = I 51 := ((hh.1.1 51 (by decide) (by decide)).trans (h0.1 51 (by decide)))
  have f51_304 : B 51 304 = I 51 304 := congrFun y51 304
  have f51_305 : B 51 305 = I 51 305 := congrFun y51 305
  have f51_306 : B 51 306 = I 51 306 := congrFun y51 306
  have f51_309 : B 51 309 = I 51 309 := congrFun y51 309
  exact CPF_g h hC ⟨by omega, by omega, by omega, by omega, by omega, by omega, by omega⟩ (TB5_k tb f8_1 ((yc 9 (by decide)).trans (Fw_row h0.2.2.2.1 9 (by decide) (by decide) (by decide))) ((hh.1.1 55 (by decide) (by decide)).trans (h0.1 55 (by decide)))) (OL5_k ol ((yc 2 (by decide)).trans (Fw_row h0.2.2.2.1 2 (by decide) (by decide) (by decide))) (fun j _ => congrFun y51 _)) (WN5_k wn ((yc 6 (by decide)).trans (Fw_row h0.2.2.2.1 6 (by decide) (by decide) (by decide))) (fun j _ => congrFun y51 _)) (TR5_k tr f0_12 ((yc 46 (by decide)).trans (Fw_row h0.2.2.2.1 46 (by decide) (by decide) (by decide))) ((hh.1.1 67 (by decide) (by decide)).trans (h0.1 67 (by decide)))) (SR_of sr ((yc 43 (by decide)).trans (Fw_row h0.2.2.2.1 43 (by decide) (by decide) (by decide))) ((yc 45 (by decide)).trans (Fw_row h0.2.2.2.1 45 (by decide) (by decide) (by decide)))) ((hh.1.1 52 (by decide) (by decide)).trans (h0.1 52 (by decide))) ((hh.1.1 53 (by decide) (by decide)).trans (h0.1 53 (by decide))) (fun k hk => (yc k (by omega)).trans (h0.1 k (by omega)))
set_option maxHeartbeats 1000000 in
theorem CF_cheap {I A B J JA JB : aI1} {R : aR1} {S : aS1} (h : CPF I R) (hC : CI I R S) (h0 : Kp 0 49 I A ∧ Kp 0 49 J JA ∧ CX A ∧ Fw [18, 19, 20, 21, 22, 23, 24, 25, 26, 27, 28, 29, 30, 31, 32, 33, 34, 35, 36] [] I A ∧ True) (hh : Ch [70, 71] [] A B ∧ Kp 49 73 JA JB ∧ RX B ∧ True) : CPF B R := by
  obtain ⟨⟨q8, q15, q12, q5, q6, q7, q11⟩, tb, ol, wn, tr, sr, hi, di, im⟩ := id h
  have yc : ∀ k, k < 49 ∨ 73 ≤ k → B k = A k := Ch_kp hh.1 (by decide)
  have f8_1 : B 8 1 = I 8 1 := ((congrFun (yc 8 (by decide)) 1).trans (h0.2.2.2.1 8 1 (by decide) (by decide) (by decide)))
  have f0_15 : B 0 15 = I 0 15 := ((congrFun (yc 0 (by decide)) 15).trans (h0.2.2.2.1 0 15 (by decide) (by decide) (by decide)))
  have f0_12 : B 0 12 = I 0 12 := ((congrFun (yc 0 (by decide)) 12).trans (h0.2.2.2.1 0 12 (by decide) (by decide) (by decide)))
  have f1_5 : B 1 5 = I 1 5 := ((congrFun (yc 1 (by decide)) 5).trans (h0.2.2.2.1 1 5 (by decide) (by decide) (by decide)))
  have f1_6 : B 1 6 = I 1 6 := ((congrFun (yc 1 (by decide)) 6).trans (h0.2.2.2.1 1 6 (by decide) (by decide) (by decide)))
  have f1_7 : B 1 7 = I 1 7 := ((congrFun (yc 1 (by decide)) 7).trans (h0.2.2.2.1 1 7 (by decide) (by decide) (by decide)))
  have f1_11 : B 1 11 = I 1 11 := ((congrFun (yc 1 (by decide)) 11).trans (h0.2.2.2.1 1 11 (by decide) (by decide) (by decide)))
  have f49_10 : B 49 10 = I 49 10 := ((hh.1.2 10 (by decide)).trans (congrFun (h0.1 49 (by decide)) 10))
  have f49_6 : B 49 6 = I 49 6 := ((hh.1.2 6 (by decide)).trans (congrFun (h0.1 49 (by decide)) 6))
  have f49_33 : B 49 33 = I 49 33 := ((hh.1.2 33 (by decide)).trans (congrFun (h0.1 49 (by decide)) 33))
  have y51 : B 51 = I 51 := ((hh.1.1 51 (by decide) (by decide)).trans (h0.1 51 (by decide)))
  have f51_304 : B 51 304 = I 51 304 := congrFun y51 304
  have f51_305 : B 51 305 = I 51 305 := congrFun y51 305
  have f51_306 : B 51 306 = I 51 306 := congrFun y51 306
  have f51_309 : B 51 309 = I 51 309 := congrFun y51 309
  exact CPF_g h hC ⟨by omega, by omega, by omega, by omega, by omega, by omega, by omega⟩ (TB5_k tb f8_1 ((yc 9 (by decide)).trans (Fw_row h0.2.2.2.1 9 (by decide) (by decide) (by decide))) ((hh.1.1 55 (by decide) (by decide)).trans (h0.1 55 (by decide)))) (OL5_k ol ((yc 2 (by decide)).trans (Fw_row h0.2.2.2.1 2 (by decide) (by decide) (by decide))) (fun j _ => congrFun y51 _)) (WN5_k wn ((yc 6 (by decide)).trans (Fw_row h0.2.2.2.1 6 (by decide) (by decide) (by decide))) (fun j _ => congrFun y51 _)) (TR5_k tr f0_12 ((yc 46 (by decide)).trans (Fw_row h0.2.2.2.1 46 (by decide) (by decide) (by decide))) ((hh.1.1 67 (by decide) (by decide)).trans (h0.1 67 (by decide)))) (SR_of sr ((yc 43 (by decide)).trans (Fw_row h0.2.2.2.1 43 (by decide) (by decide) (by decide))) ((yc 45 (by decide)).trans (Fw_row h0.2.2.2.1 45 (by decide) (by decide) (by decide)))) ((hh.1.1 52 (by decide) (by decide)).trans (h0.1 52 (by decide))) ((hh.1.1 53 (by decide) (by decide)).trans (h0.1 53 (by decide))) (fun k hk => (yc k (by omega)).trans (h0.1 k (by omega)))
set_option maxHeartbeats 1000000 in
theorem CF_plan {I A B J JA JB : aI1} {R : aR1} {S : aS1} (h : CPF I R) (hC : CI I R S) (h0 : Kp 0 49 I A ∧ Kp 0 49 J JA ∧ CX A ∧ Fw [18, 19, 20, 21, 22, 23, 24, 25, 26, 27, 28, 29, 30, 31, 32, 33, 34, 35, 36] [] I A ∧ True) (hh : Ch [70, 71] [] A B ∧ Kp 49 73 JA JB ∧ RX B ∧ True) : CPF B R := by
  obtain ⟨⟨q8, q15, q12, q5, q6, q7, q11⟩, tb, ol, wn, tr, sr, hi, di, im⟩ := id h
  have yc : ∀ k, k < 49 ∨ 73 ≤ k → B k = A k := Ch_kp hh.1 (by decide)
  have f8_1 : B 8 1 = I 8 1 := ((congrFun (yc 8 (by decide)) 1).trans (h0.2.2.2.1 8 1 (by decide) (by decide) (by decide)))
  have f0_15 : B 0 15 = I 0 15 := ((congrFun (yc 0 (by decide)) 15).trans (h0.2.2.2.1 0 15 (by decide) (by decide) (by decide)))
  have f0_12 : B 0 12 = I 0 12 := ((congrFun (yc 0 (by decide)) 12).trans (h0.2.2.2.1 0 12 (by decide) (by decide) (by decide)))
  have f1_5 : B 1 5 = I 1 5 := ((congrFun (yc 1 (by decide)) 5).trans (h0.2.2.2.1 1 5 (by decide) (by decide) (by decide)))
  have f1_6 : B 1 6 = I 1 6 := ((congrFun (yc 1 (by decide)) 6).trans (h0.2.2.2.1 1 6 (by decide) (by decide) (by decide)))
  have f1_7 : B 1 7 = I 1 7 := ((congrFun (yc 1 (by decide)) 7).trans (h0.2.2.2.1 1 7 (by decide) (by decide) (by decide)))
  have f1_11 : B 1 11 = I 1 11 := ((congrFun (yc 1 (by decide)) 11).trans (h0.2.2.2.1 1 11 (by decide) (by decide) (by decide)))
  have f49_10 : B 49 10 = I 49 10 := ((hh.1.2 10 (by decide)).trans (congrFun (h0.1 49 (by decide)) 10))
  have f49_6 : B 49 6 = I 49 6 := ((hh.1.2 6 (by decide)).trans (congrFun (h0.1 49 (by decide)) 6))
  have f49_33 : B 49 33 = I 49 33 := ((hh.1.2 33 (by decide)).trans (congrFun (h0.1 49 (by decide)) 33))
  have y51 : B 51 = I 51 := ((hh.1.1 51 (by decide) (by decide)).trans (h0.1 51 (by decide)))
  have f51_304 : B 51 304 = I 51 304 := congrFun y51 304
  have f51_305 : B 51 305 = I 51 305 := congrFun y51 305
  have f51_306 : B 51 306 = I 51 306 := congrFun y51 306
  have f51_309 : B 51 309 = I 51 309 := congrFun y51 309
  exact CPF_g h hC ⟨by omega, by omega, by omega, by omega, by omega, by omega, by omega⟩ (TB5_k tb f8_1 ((yc 9 (by decide)).trans (Fw_row h0.2.2.2.1 9 (by decide) (by decide) (by decide))) ((hh.1.1 55 (by decide) (by decide)).trans (h0.1 55 (by decide)))) (OL5_k ol ((yc 2 (by decide)).trans (Fw_row h0.2.2.2.1 2 (by decide) (by decide) (by decide))) (fun j _ => congrFun y51 _)) (WN5_k wn ((yc 6 (by decide)).trans (Fw_row h0.2.2.2.1 6 (by decide) (by decide) (by decide))) (fun j _ => congrFun y51 _)) (TR5_k tr f0_12 ((yc 46 (by decide)).trans (Fw_row h0.2.2.2.1 46 (by decide) (by decide) (by decide))) ((hh.1.1 67 (by decide) (by decide)).trans (h0.1 67 (by decide)))) (SR_of sr ((yc 43 (by decide)).trans (Fw_row h0.2.2.2.1 43 (by decide) (by decide) (by decide))) ((yc 45 (by decide)).trans (Fw_row h0.2.2.2.1 45 (by decide) (by decide) (by decide)))) ((hh.1.1 52 (by decide) (by decide)).trans (h0.1 52 (by decide))) ((hh.1.1 53 (by decide) (by decide)).trans (h0.1 53 (by decide))) (fun k hk => (yc k (by omega)).trans (h0.1 k (by omega)))
set_option maxHeartbeats 1000000 in
theorem CF_night {I A B J JA JB : aI1} {R : aR1} {S : aS1} (h : CPF I R) (hC : CI I R S) (h0 : Kp 0 49 I A ∧ Kp 0 49 J JA ∧ CX A ∧ Fw [18, 19, 20, 21, 22, 23, 24, 25, 26, 27, 28, 29, 30, 31, 32, 33, 34, 35, 36, 47, 48] [(0, 13), (0, 14), (0, 16)] I A ∧ True) (hh : Ch [50, 61, 72] [0, 1, 25, 39, 40, 41] A B ∧ Kp 49 73 JA JB ∧ RX B ∧ True) : CPF B R := by
  obtain ⟨⟨q8, q15, q12, q5, q6, q7, q11⟩, tb, ol, wn, tr, sr, hi, di, im⟩ := id h
  have yc : ∀ k, k < 49 ∨ 73 ≤ k → B k = A k := Ch_kp hh.1 (by decide)
  have f8_1 : B 8 1 = I 8 1 := ((congrFun (yc 8 (by decide)) 1).trans (h0.2.2.2.1 8 1 (by decide) (by decide) (by decide)))
  have f0_15 : B 0 15 = I 0 15 := ((congrFun (yc 0 (by decide)) 15).trans (h0.2.2.2.1 0 15 (by decide) (by decide) (by decide)))
  have f0_12 : B 0 12 = I 0 12 := ((congrFun (yc 0 (by decide)) 12).trans (h0.2.2.2.1 0 12 (by decide) (by decide) (by decide)))
  have f1_5 : B 1 5 = I 1 5 := ((congrFun (yc 1 (by decide)) 5).trans (h0.2.2.2.1 1 5 (by decide) (by decide) (by decide)))
  have f1_6 : B 1 6 = I 1 6 := ((congrFun (yc 1 (by decide)) 6).trans (h0.2.2.2.1 1 6 (by decide) (by decide) (by decide)))
  have f1_7 : B 1 7 = I 1 7 := ((congrFun (yc 1 (by decide)) 7).trans (h0.2.2.2.1 1 7 (by decide) (by decide) (by decide)))
  have f1_11 : B 1 11 = I 1 11 := ((congrFun (yc 1 (by decide)) 11).trans (h0.2.2.2.1 1 11 (by decide) (by decide) (by decide)))
  have f49_10 : B 49 10 = I 49 10 := ((hh.1.2 10 (by decide)).trans (congrFun (h0.1 49 (by decide)) 10))
  have f49_6 : B 49 6 = I 49 6 := ((hh.1.2 6 (by decide)).trans (congrFun (h0.1 49 (by decide)) 6))
  have f49_33 : B 49 33 = I 49 33 := ((hh.1.2 33 (by decide)).trans (congrFun (h0.1 49 (by decide)) 33))
  have y51 : B 51 = I 51 := ((hh.1.1 51 (by decide) (by decide)).trans (h0.1 51 (by decide)))
  have f51_304 : B 51 304 = I 51 304 := congrFun y51 304
  have f51_305 : B 51 305 = I 51 305 := congrFun y51 305
  have f51_306 : B 51 306 = I 51 306 := congrFun y51 306
  have f51_309 : B 51 309 = I 51 309 := congrFun y51 309
  exact CPF_g h hC ⟨by omega, by omega, by omega, by omega, by omega, by omega, by omega⟩ (TB5_k tb f8_1 ((yc 9 (by decide)).trans (Fw_row h0.2.2.2.1 9 (by decide) (by decide) (by decide))) ((hh.1.1 55 (by decide) (by decide)).trans (h0.1 55 (by decide)))) (OL5_k ol ((yc 2 (by decide)).trans (Fw_row h0.2.2.2.1 2 (by decide) (by decide) (by decide))) (fun j _ => congrFun y51 _)) (WN5_k wn ((yc 6 (by decide)).trans (Fw_row h0.2.2.2.1 6 (by decide) (by decide) (by decide))) (fun j _ => congrFun y51 _)) (TR5_k tr f0_12 ((yc 46 (by decide)).trans (Fw_row h0.2.2.2.1 46 (by decide) (by decide) (by decide))) ((hh.1.1 67 (by decide) (by decide)).trans (h0.1 67 (by decide)))) (SR_of sr ((yc 43 (by decide)).trans (Fw_row h0.2.2.2.1 43 (by decide) (by decide) (by decide))) ((yc 45 (by decide)).trans (Fw_row h0.2.2.2.1 45 (by decide) (by decide) (by decide)))) ((hh.1.1 52 (by decide) (by decide)).trans (h0.1 52 (by decide))) ((hh.1.1 53 (by decide) (by decide)).trans (h0.1 53 (by decide))) (fun k hk => (yc k (by omega)).trans (h0.1 k (by omega)))
set_option maxHeartbeats 1000000 in
theorem CF_drawn {I A B J JA JB : aI1} {R : aR1} {S : aS1} (h : CPF I R) (hC : CI I R S) (h0 : Kp 0 49 I A ∧ Kp 0 49 J JA ∧ CX A ∧ Fw [] [] I A ∧ True) (hh : A = B ∧ JA = JB ∧ True) : CPF A R := by
  obtain ⟨⟨q8, q15, q12, q5, q6, q7, q11⟩, tb, ol, wn, tr, sr, hi, di, im⟩ := id h
  obtain ⟨rfl, rfl, hh⟩ := hh
  have f8_1 : A 8 1 = I 8 1 := (h0.2.2.2.1 8 1 (by decide) (by decide) (by decide))
  have f0_15 : A 0 15 = I 0 15 := (h0.2.2.2.1 0 15 (by decide) (by decide) (by decide))
  have f0_12 : A 0 12 = I 0 12 := (h0.2.2.2.1 0 12 (by decide) (by decide) (by decide))
  have f1_5 : A 1 5 = I 1 5 := (h0.2.2.2.1 1 5 (by decide) (by decide) (by decide))
  have f1_6 : A 1 6 = I 1 6 := (h0.2.2.2.1 1 6 (by decide) (by decide) (by decide))
  have f1_7 : A 1 7 = I 1 7 := (h0.2.2.2.1 1 7 (by decide) (by decide) (by decide))
  have f1_11 : A 1 11 = I 1 11 := (h0.2.2.2.1 1 11 (by decide) (by decide) (by decide))
  have f49_10 : A 49 10 = I 49 10 := (congrFun (h0.1 49 (by decide)) 10)
  have f49_6 : A 49 6 = I 49 6 := (congrFun (h0.1 49 (by decide)) 6)
  have f49_33 : A 49 33 = I 49 33 := (congrFun (h0.1 49 (by decide)) 33)
  have y51 : A 51 = I 51 := (h0.1 51 (by decide))
  have f51_304 : A 51 304 = I 51 304 := congrFun y51 304
  have f51_305 : A 51 305 = I 51 305 := congrFun y51 305
  have f51_306 : A 51 306 = I 51 306 := congrFun y51 306
  have f51_309 : A 51 309 = I 51 309 := congrFun y51 309
  exact CPF_g h hC ⟨by omega, by omega, by omega, by omega, by omega, by omega, by omega⟩ (TB5_k tb f8_1 (Fw_row h0.2.2.2.1 9 (by decide) (by decide) (by decide)) (h0.1 55 (by decide))) (OL5_k ol (Fw_row h0.2.2.2.1 2 (by decide) (by decide) (by decide)) (fun j _ => congrFun y51 _)) (WN5_k wn (Fw_row h0.2.2.2.1 6 (by decide) (by decide) (by decide)) (fun j _ => congrFun y51 _)) (TR5_k tr f0_12 (Fw_row h0.2.2.2.1 46 (by decide) (by decide) (by decide)) (h0.1 67 (by decide))) (SR_of sr (Fw_row h0.2.2.2.1 43 (by decide) (by decide) (by decide)) (Fw_row h0.2.2.2.1 45 (by decide) (by decide) (by decide))) (h0.1 52 (by decide)) (h0.1 53 (by decide)) (fun k hk => (h0.1 k (by omega)))
set_option maxHeartbeats 1000000 in
theorem CF_count {I A B J JA JB : aI1} {R : aR1} {S : aS1} (h : CPF I R) (hC : CI I R S) (h0 : Kp 0 49 I A ∧ Kp 0 49 J JA ∧ CX A ∧ Fw [] [] I A ∧ True) (hh : A = B ∧ JA = JB ∧ True) : CPF A R := by
  obtain ⟨⟨q8, q15, q12, q5, q6, q7, q11⟩, tb, ol, wn, tr, sr, hi, di, im⟩ := id h
  obtain ⟨rfl, rfl, hh⟩ := hh
  have f8_1 : A 8 1 = I 8 1 := (h0.2.2.2.1 8 1 (by decide) (by decide) (by decide))
  have f0_15 : A 0 15 = I 0 15 := (h0.2.2.2.1 0 15 (by decide) (by decide) (by decide))
  have f0_12 : A 0 12 = I 0 12 := (h0.2.2.2.1 0 12 (by decide) (by decide) (by decide))
  have f1_5 : A 1 5 = I 1 5 := (h0.2.2.2.1 1 5 (by decide) (by decide) (by decide))
  have f1_6 : A 1 6 = I 1 6 := (h0.2.2.2.1 1 6 (by decide) (by decide) (by decide))
  have f1_7 : A 1 7 = I 1 7 := (h0.2.2.2.1 1 7 (by decide) (by decide) (by decide))
  have f1_11 : A 1 11 = I 1 11 := (h0.2.2.2.1 1 11 (by decide) (by decide) (by decide))
  have f49_10 : A 49 10 = I 49 10 := (congrFun (h0.1 49 (by decide)) 10)
  have f49_6 : A 49 6 = I 49 6 := (congrFun (h0.1 49 (by decide)) 6)
  have f49_33 : A 49 33 = I 49 33 := (congrFun (h0.1 49 (by decide)) 33)
  have y51 : A 51 = I 51 := (h0.1 51 (by decide))
  have f51_304 : A 51 304 = I 51 304 := congrFun y51 304
  have f51_305 : A 51 305 = I 51 305 := congrFun y51 305
  have f51_306 : A 51 306 = I 51 306 := congrFun y51 306
  have f51_309 : A 51 309 = I 51 309 := congrFun y51 309
  exact CPF_g h hC ⟨by omega, by omega, by omega, by omega, by omega, by omega, by omega⟩ (TB5_k tb f8_1 (Fw_row h0.2.2.2.1 9 (by decide) (by decide) (by decide)) (h0.1 55 (by decide))) (OL5_k ol (Fw_row h0.2.2.2.1 2 (by decide) (by decide) (by decide)) (fun j _ => congrFun y51 _)) (WN5_k wn (Fw_row h0.2.2.2.1 6 (by decide) (by decide) (by decide)) (fun j _ => congrFun y51 _)) (TR5_k tr f0_12 (Fw_row h0.2.2.2.1 46 (by decide) (by decide) (by decide)) (h0.1 67 (by decide))) (SR_of sr (Fw_row h0.2.2.2.1 43 (by decide) (by decide) (by decide)) (Fw_row h0.2.2.2.1 45 (by decide) (by decide) (by decide))) (h0.1 52 (by decide)) (h0.1 53 (by decide)) (fun k hk => (h0.1 k (by omega)))
set_option maxHeartbeats 1000000 in
theorem CF_status {I A B J JA JB : aI1} {R : aR1} {S : aS1} (h : CPF I R) (hC : CI I R S) (h0 : Kp 0 49 I A ∧ Kp 0 49 J JA ∧ CX A ∧ Fw [] [] I A ∧ True) (hh : A = B ∧ JA = JB ∧ True) : CPF A R := by
  obtain ⟨⟨q8, q15, q12, q5, q6, q7, q11⟩, tb, ol, wn, tr, sr, hi, di, im⟩ := id h
  obtain ⟨rfl, rfl, hh⟩ := hh
  have f8_1 : A 8 1 = I 8 1 := (h0.2.2.2.1 8 1 (by decide) (by decide) (by decide))
  have f0_15 : A 0 15 = I 0 15 := (h0.2.2.2.1 0 15 (by decide) (by decide) (by decide))
  have f0_12 : A 0 12 = I 0 12 := (h0.2.2.2.1 0 12 (by decide) (by decide) (by decide))
  have f1_5 : A 1 5 = I 1 5 := (h0.2.2.2.1 1 5 (by decide) (by decide) (by decide))
  have f1_6 : A 1 6 = I 1 6 := (h0.2.2.2.1 1 6 (by decide) (by decide) (by decide))
  have f1_7 : A 1 7 = I 1 7 := (h0.2.2.2.1 1 7 (by decide) (by decide) (by decide))
  have f1_11 : A 1 11 = I 1 11 := (h0.2.2.2.1 1 11 (by decide) (by decide) (by decide))
  have f49_10 : A 49 10 = I 49 10 := (congrFun (h0.1 49 (by decide)) 10)
  have f49_6 : A 49 6 = I 49 6 := (congrFun (h0.1 49 (by decide)) 6)
  have f49_33 : A 49 33 = I 49 33 := (congrFun (h0.1 49 (by decide)) 33)
  have y51 : A 51 = I 51 := (h0.1 51 (by decide))
  have f51_304 : A 51 304 = I 51 304 := congrFun y51 304
  have f51_305 : A 51 305 = I 51 305 := congrFun y51 305
  have f51_306 : A 51 306 = I 51 306 := congrFun y51 306
  have f51_309 : A 51 309 = I 51 309 := congrFun y51 309
  exact CPF_g h hC ⟨by omega, by omega, by omega, by omega, by omega, by omega, by omega⟩ (TB5_k tb f8_1 (Fw_row h0.2.2.2.1 9 (by decide) (by decide) (by decide)) (h0.1 55 (by decide))) (OL5_k ol (Fw_row h0.2.2.2.1 2 (by decide) (by decide) (by decide)) (fun j _ => congrFun y51 _)) (WN5_k wn (Fw_row h0.2.2.2.1 6 (by decide) (by decide) (by decide)) (fun j _ => congrFun y51 _)) (TR5_k tr f0_12 (Fw_row h0.2.2.2.1 46 (by decide) (by decide) (by decide)) (h0.1 67 (by decide))) (SR_of sr (Fw_row h0.2.2.2.1 43 (by decide) (by decide) (by decide)) (Fw_row h0.2.2.2.1 45 (by decide) (by decide) (by decide))) (h0.1 52 (by decide)) (h0.1 53 (by decide)) (fun k hk => (h0.1 k (by omega)))
set_option maxHeartbeats 1000000 in
theorem CF_law {I A B J JA JB : aI1} {R R' : aR1} {S S' : aS1} (h : CPF I R) (hC : CI I R S) (h0 : CI A R' S' ∧ (∀ k, 49 ≤ k → k < 73 → A k = I k ∧ JA k = J k ∧ R' k = R k) ∧ Fw [10, 11, 12, 13, 14, 48] [(0, 16), (1, 9), (8, 1)] I A ∧ R' 7 = R 7 ∧ (∀ k, 73 ≤ k → k < S.length → A k = I k ∧ R' k = R k) ∧ A 8 1 = 0) (hh : Ch [50, 51, 57, 58, 59] [0, 1, 10, 11, 15, 16, 17, 18] A B ∧ Kp 49 73 JA JB ∧ RX B ∧ B 49 10 = 0 ∧ (∀ j : Nat, j < 310 → B 51 j = A 51 j)) : CPF B R' := by
  obtain ⟨⟨q8, q15, q12, q5, q6, q7, q11⟩, tb, ol, wn, tr, sr, hi, di, im⟩ := id h
  have yc : ∀ k, k < 49 ∨ 73 ≤ k → B k = A k := Ch_kp hh.1 (by decide)
  have z51 : A 51 = I 51 := (h0.2.1 51 (by decide) (by decide)).1
  have x5 := XI_o hC.2.1.1
  have k51 : ∀ j : Nat, j < 310 → B 51 j = I 51 j := fun j h1 => (hh.2.2.2.2 j h1).trans (congrFun z51 j)
  have c0 := h0.2.2.2.2.2
  have d0 := hh.2.2.2.1
  have g8_1 : B 8 1 = A 8 1 := congrFun (yc 8 (by decide)) 1
  have f0_15 : B 0 15 = I 0 15 := ((congrFun (yc 0 (by decide)) 15).trans (h0.2.2.1 0 15 (by decide) (by decide) (by decide)))
  have f0_12 : B 0 12 = I 0 12 := ((congrFun (yc 0 (by decide)) 12).trans (h0.2.2.1 0 12 (by decide) (by decide) (by decide)))
  have f1_5 : B 1 5 = I 1 5 := ((congrFun (yc 1 (by decide)) 5).trans (h0.2.2.1 1 5 (by decide) (by decide) (by decide)))
  have f1_6 : B 1 6 = I 1 6 := ((congrFun (yc 1 (by decide)) 6).trans (h0.2.2.1 1 6 (by decide) (by decide) (by decide)))
  have f1_7 : B 1 7 = I 1 7 := ((congrFun (yc 1 (by decide)) 7).trans (h0.2.2.1 1 7 (by decide) (by decide) (by decide)))
  have f1_11 : B 1 11 = I 1 11 := ((congrFun (yc 1 (by decide)) 11).trans (h0.2.2.1 1 11 (by decide) (by decide) (by decide)))
  have e49_10 : A 49 10 = I 49 10 := congrFun ((h0.2.1 49 (by decide) (by decide)).1) 10
  have e49_6 : A 49 6 = I 49 6 := congrFun ((h0.2.1 49 (by decide) (by decide)).1) 6
  have f49_6 : B 49 6 = A 49 6 := hh.1.2 6 (by decide)
  have e49_33 : A 49 33 = I 49 33 := congrFun ((h0.2.1 49 (by decide) (by decide)).1) 33
  have f49_33 : B 49 33 = A 49 33 := hh.1.2 33 (by decide)
  have f51_304 : B 51 304 = I 51 304 := k51 304 (by omega)
  have f51_305 : B 51 305 = I 51 305 := k51 305 (by omega)
  have f51_306 : B 51 306 = I 51 306 := k51 306 (by omega)
  have f51_309 : B 51 309 = I 51 309 := k51 309 (by omega)
  obtain ⟨r1, r2, r3⟩ : SC5 B ∧ B 52 = I 52 ∧ B 53 = I 53 := ⟨⟨by omega, by omega, by omega, by omega, by omega, by omega, by omega⟩, ((hh.1.1 52 (by decide) (by decide)).trans (h0.2.1 52 (by decide) (by decide)).1), ((hh.1.1 53 (by decide) (by decide)).trans (h0.2.1 53 (by decide) (by decide)).1)⟩
  refine ⟨r1, TB5_0 (by omega), (OL5_k ol ((yc 2 (by decide)).trans (Fw_row h0.2.2.1 2 (by decide) (by decide) (by decide))) (fun j hj => k51 _ (by omega))), (WN5_k wn ((yc 6 (by decide)).trans (Fw_row h0.2.2.1 6 (by decide) (by decide) (by decide))) (fun j hj => k51 _ (by omega))), (TR5_k tr f0_12 ((yc 46 (by decide)).trans (Fw_row h0.2.2.1 46 (by decide) (by decide) (by decide))) ((hh.1.1 67 (by decide) (by decide)).trans (h0.2.1 67 (by decide) (by decide)).1)), (SR_of sr ((yc 43 (by decide)).trans (Fw_row h0.2.2.1 43 (by decide) (by decide) (by decide))) ((yc 45 (by decide)).trans (Fw_row h0.2.2.1 45 (by decide) (by decide) (by decide)))), fun i hi9 => ?_, fun i j hi9 hj9 c9 p1 p2 => di i j hi9 hj9 c9 (by rw [← h0.2.2.2.1]; exact p1) (by rw [← h0.2.2.2.1]; exact p2), fun i hi9 c9 hq => ?_⟩
  · rw [h0.2.2.2.1, r3]; exact hi i hi9
  · rw [h0.2.2.2.1] at hq
    have hc9 := hC.2.2.2 i hi9 c9 hq
    have h73 := hc9.1
    have hl9 := (List.getElem?_eq_some_iff.mp hc9.2.1.2.2.2.2.2.1).1
    rw [yc c9 (by omega), yc (c9 + 1) (by omega), yc (c9 + 5) (by omega), (h0.2.2.2.2.1 c9 h73 (by omega)).1, (h0.2.2.2.2.1 (c9 + 1) (by omega) (by omega)).1, (h0.2.2.2.2.1 (c9 + 5) (by omega) (by omega)).1, r2]
    exact im i hi9 c9 hq
set_option maxHeartbeats 1000000 in
theorem CF_image {I A B J JA JB : aI1} {R R' : aR1} {S S' : aS1} {a x y : Int} (h : CPF I R) (hC : CI I R S) (h0 : CI A R' S' ∧ (∀ k, 49 ≤ k → k < 73 → A k = I k ∧ JA k = J k ∧ R' k = R k) ∧ Fw [48] [(0, 16)] I A ∧ (¬ (0 ≤ a ∧ a < 2) → x = -1 ∧ RFc I A (-1)) ∧ (¬ (0 ≤ a ∧ a < 2) → R' 7 = R 7 ∧ R' 4 = R 4 ∧ (∀ k, 73 ≤ k → A k = I k ∧ R' k = R k)) ∧ ((0 ≤ a ∧ a < 2) → x = 0 ∧ Fw [] [(0, 16)] I A ∧ A 0 16 = 0 ∧ ∃ c, R' 7 a.toNat = some c ∧ ImC I A R R' c ∧ (∀ j, j ≠ a.toNat → R' 7 j = R 7 j) ∧ (∀ j, j < 2 → j ≠ a.toNat → ∀ c', R 7 j = some c' → (∀ k, k < 6 → A (c' + k) = I (c' + k)) ∧ R' (c' + 3) = R (c' + 3)) ∧ ((R 7 a.toNat = some c ∧ R' 7 = R 7) ∨ c = S.length) ∧ R' 4 = R 4)) (hh : Ch [50, 52, 53] [0, 1] A B ∧ Kp 49 73 JA JB ∧ RX B ∧ (¬ (0 ≤ a ∧ a < 2) → y = -1 ∧ B 53 = A 53 ∧ B 52 = A 52) ∧ ((0 ≤ a ∧ a < 2) → y = 0 ∧ B 53 = up1 (A 53) a.toNat 1 ∧ (∀ j : Nat, j < 5117 → B 52 (5117 * a.toNat + j) = A 51 j) ∧ (∀ b : Nat, (b < 5117 * a.toNat ∨ 5117 * a.toNat + 5117 ≤ b) → B 52 b = A 52 b))) : CPF B R' ∧ x = y := by
  obtain ⟨⟨q8, q15, q12, q5, q6, q7, q11⟩, tb, ol, wn, tr, sr, hi, di, im⟩ := id h
  have yc : ∀ k, k < 49 ∨ 73 ≤ k → B k = A k := Ch_kp hh.1 (by decide)
  have zz : ∀ k, 49 ≤ k → k < 73 → A k = I k := fun k h1 h2 => (h0.2.1 k h1 h2).1
  have w := h0.2.2.1
  have f8_1 : B 8 1 = I 8 1 := (congrFun (yc 8 (by decide)) 1).trans (w 8 1 (by decide) (by decide) (by decide))
  have f0_15 : B 0 15 = I 0 15 := (congrFun (yc 0 (by decide)) 15).trans (w 0 15 (by decide) (by decide) (by decide))
  have f0_12 : B 0 12 = I 0 12 := (congrFun (yc 0 (by decide)) 12).trans (w 0 12 (by decide) (by decide) (by decide))
  have e49 : ∀ j, j ∉ [0, 1] → B 49 j = I 49 j := fun j hj => (hh.1.2 j hj).trans (congrFun (zz 49 (by decide) (by decide)) j)
  have f49_10 := e49 10 (by decide)
  have f49_6 := e49 6 (by decide)
  have f49_33 := e49 33 (by decide)
  have htb : TB5 B := TB5_k tb f8_1 ((yc 9 (by decide)).trans (Fw_row w 9 (by decide) (by decide) (by decide))) ((hh.1.1 55 (by decide) (by decide)).trans (zz 55 (by decide) (by decide)))
  have htr : TR5 B := TR5_k tr f0_12 ((yc 46 (by decide)).trans (Fw_row w 46 (by decide) (by decide) (by decide))) ((hh.1.1 67 (by decide) (by decide)).trans (zz 67 (by decide) (by decide)))
  have hsr : SR B := SR_of sr ((yc 43 (by decide)).trans (Fw_row w 43 (by decide) (by decide) (by decide))) ((yc 45 (by decide)).trans (Fw_row w 45 (by decide) (by decide) (by decide)))
  have same : R' 7 = R 7 → (∀ k, 73 ≤ k → A k = I k) → B 52 = A 52 → B 53 = A 53 → HI5 B R' ∧ DI5 R' ∧ IM5 B R' := fun r7 k73 b52 b53 => by
    refine ⟨fun i hi9 => by rw [r7, b53, zz 53 (by decide) (by decide)]; exact hi i hi9, fun i j hi9 hj9 c9 p1 p2 => di i j hi9 hj9 c9 (by rw [← r7]; exact p1) (by rw [← r7]; exact p2), fun i hi9 c9 hq => ?_⟩
    rw [r7] at hq
    have h73 := (hC.2.2.2 i hi9 c9 hq).1
    rw [yc c9 (by omega), yc (c9 + 1) (by omega), yc (c9 + 5) (by omega), k73 c9 h73, k73 (c9 + 1) (by omega), k73 (c9 + 5) (by omega), b52, zz 52 (by decide) (by decide)]
    exact im i hi9 c9 hq
  have f1_5 : B 1 5 = I 1 5 := (congrFun (yc 1 (by decide)) 5).trans (w 1 5 (by decide) (by decide) (by decide))
  have f1_6 : B 1 6 = I 1 6 := (congrFun (yc 1 (by decide)) 6).trans (w 1 6 (by decide) (by decide) (by decide))
  have f1_7 : B 1 7 = I 1 7 := (congrFun (yc 1 (by decide)) 7).trans (w 1 7 (by decide) (by decide) (by decide))
  have f1_11 : B 1 11 = I 1 11 := (congrFun (yc 1 (by decide)) 11).trans (w 1 11 (by decide) (by decide) (by decide))
  have y51 : B 51 = I 51 := (hh.1.1 51 (by decide) (by decide)).trans (zz 51 (by decide) (by decide))
  have f51_304 := congrFun y51 304
  have f51_305 := congrFun y51 305
  have f51_306 := congrFun y51 306
  have f51_309 := congrFun y51 309
  have hs : SC5 B := ⟨by omega, by omega, by omega, by omega, by omega, by omega, by omega⟩
  have ho : OL5 B := OL5_k ol ((yc 2 (by decide)).trans (Fw_row w 2 (by decide) (by decide) (by decide))) (fun j _ => congrFun y51 _)
  have hw : WN5 B := WN5_k wn ((yc 6 (by decide)).trans (Fw_row w 6 (by decide) (by decide) (by decide))) (fun j _ => congrFun y51 _)
  by_cases hv : 0 ≤ a ∧ a < 2
  · obtain ⟨c1, -, -, c0, r1, ic, r2, r3, r4, -⟩ := h0.2.2.2.2.2 hv
    obtain ⟨d1, d2, d3, d4⟩ := hh.2.2.2.2 hv
    have hlen : ∀ i, i < 2 → ∀ c9, R 7 i = some c9 → c9 < S.length := fun i hi9 c9 hq => (List.getElem?_eq_some_iff.mp (hC.2.2.2 i hi9 c9 hq).2.1.1).1
    have hdi : DI5 R' := fun i j hi9 hj9 c9 p1 p2 => by
      rcases r4 with ⟨-, r4⟩ | r4
      · rw [r4] at p1 p2; exact di i j hi9 hj9 c9 p1 p2
      · by_cases e1 : i = a.toNat
        · by_cases e2 : j = a.toNat
          · omega
          · rw [e1, r1] at p1
            cases p1
            rw [r2 j e2] at p2
            have := hlen j hj9 _ p2
            omega
        · by_cases e2 : j = a.toNat
          · rw [e2, r1] at p2
            cases p2
            rw [r2 i e1] at p1
            have := hlen i hi9 _ p1
            omega
          · rw [r2 i e1] at p1
            rw [r2 j e2] at p2
            exact di i j hi9 hj9 c9 p1 p2
    refine ⟨⟨hs, htb, ho, hw, htr, hsr, fun i hi9 => ?_, hdi, fun i hi9 c9 hq => ?_⟩, by omega⟩
    · rw [d2, zz 53 (by decide) (by decide)]
      by_cases e1 : i = a.toNat
      · subst e1
        rw [up1_s, r1]
        exact ⟨fun q => absurd q (by simp), fun q => absurd q (by decide)⟩
      · rw [up1_n _ _ e1, r2 i e1]
        exact hi i hi9
    · have h73 := (h0.1.2.2.2 i hi9 c9 hq).1
      rw [yc c9 (by omega), yc (c9 + 1) (by omega), yc (c9 + 5) (by omega)]
      by_cases e1 : i = a.toNat
      · subst e1
        rw [r1] at hq
        cases hq
        have z51 := zz 51 (by decide) (by decide)
        refine ⟨?_, ?_, ?_, ?_, fun j hj => ?_, fun j hj => ?_⟩
        · rw [d3 304 (by decide), ic.1 5 (by decide) (by decide), z51]; exact q5
        · rw [d3 305 (by decide), ic.1 6 (by decide) (by decide), z51]; exact q6
        · rw [d3 306 (by decide), ic.1 7 (by decide) (by decide), z51]; exact q7
        · rw [d3 309 (by decide), ic.1 11 (by decide) (by decide), z51]; exact q11
        · rw [d3 (256 + j) (by omega), ic.2.1 j hj, z51]; exact ol j hj
        · rw [d3 (288 + j) (by omega), ic.2.2.2.2.1 j hj, z51]; exact wn j hj
      · rw [r2 i e1] at hq
        obtain ⟨o1, -⟩ := r3 i hi9 e1 c9 hq
        have k0 : A c9 = I c9 := o1 0 (by decide)
        have z52 := zz 52 (by decide) (by decide)
        obtain ⟨m1, m2, m3, m4, m5, m6⟩ := im i hi9 c9 hq
        rw [k0, o1 1 (by decide), o1 5 (by decide)]
        refine ⟨?_, ?_, ?_, ?_, fun j hj => ?_, fun j hj => ?_⟩
        · rw [d4 _ (by omega), z52]; exact m1
        · rw [d4 _ (by omega), z52]; exact m2
        · rw [d4 _ (by omega), z52]; exact m3
        · rw [d4 _ (by omega), z52]; exact m4
        · rw [d4 _ (by omega), z52]; exact m5 j hj
        · rw [d4 _ (by omega), z52]; exact m6 j hj
  · obtain ⟨d1, d2, d3⟩ := hh.2.2.2.1 hv
    have c1 := (h0.2.2.2.1 hv).1
    obtain ⟨r7, -, k73⟩ := h0.2.2.2.2.1 hv
    obtain ⟨t1, t2, t3⟩ := same r7 (fun k hk => (k73 k hk).1) d3 d2
    exact ⟨⟨hs, htb, ho, hw, htr, hsr, t1, t2, t3⟩, by omega⟩
set_option maxHeartbeats 1000000 in
theorem CF_back {I A B J JA JB : aI1} {R R' : aR1} {S S' : aS1} {a x y : Int} (h : CPF I R) (hC : CI I R S) (h0 : CI A R' S' ∧ (∀ k, 49 ≤ k → k < 73 → A k = I k ∧ JA k = J k ∧ R' k = R k) ∧ Fw [1, 2, 3, 5, 6, 18, 19, 20, 21, 22, 23, 24, 25, 26, 27, 28, 29, 30, 31, 32, 33, 34, 35, 36, 48] [(0, 16)] I A ∧ (¬ (0 ≤ a ∧ a < 2) → x = -1 ∧ RFc I A (-1)) ∧ (¬ (0 ≤ a ∧ a < 2) → R' 7 = R 7 ∧ R' 4 = R 4 ∧ (∀ k, 73 ≤ k → A k = I k ∧ R' k = R k)) ∧ ((0 ≤ a ∧ a < 2) → R 7 a.toNat = none → x = -2 ∧ RFc I A (-2) ∧ R' 7 = R 7 ∧ R' 4 = R 4 ∧ (∀ k, 73 ≤ k → A k = I k ∧ R' k = R k)) ∧ ((0 ≤ a ∧ a < 2) → ∀ c, R 7 a.toNat = some c → x = 0 ∧ Fw [1, 2, 3, 5, 6, 18, 19, 20, 21, 22, 23, 24, 25, 26, 27, 28, 29, 30, 31, 32, 33, 34, 35, 36] [(0, 16)] I A ∧ A 0 16 = 0 ∧ BkC I A R R' c ∧ R' 7 = R 7 ∧ (∀ k, 73 ≤ k → A k = I k ∧ R' k = R k))) (hh : Ch [50, 51] [0, 1] A B ∧ Kp 49 73 JA JB ∧ RX B ∧ (¬ (0 ≤ a ∧ a < 2) → y = -1 ∧ B 51 = A 51) ∧ ((0 ≤ a ∧ a < 2) → (A 53 a.toNat = 0 → y = -2 ∧ B 51 = A 51) ∧ (¬ A 53 a.toNat = 0 → y = 0 ∧ ∀ j : Nat, j < 5117 → B 51 j = A 52 (5117 * a.toNat + j)))) : CPF B R' ∧ x = y := by
  obtain ⟨⟨q8, q15, q12, q5, q6, q7, q11⟩, tb, ol, wn, tr, sr, hi, di, im⟩ := id h
  have yc : ∀ k, k < 49 ∨ 73 ≤ k → B k = A k := Ch_kp hh.1 (by decide)
  have zz : ∀ k, 49 ≤ k → k < 73 → A k = I k := fun k h1 h2 => (h0.2.1 k h1 h2).1
  have w := h0.2.2.1
  have f8_1 : B 8 1 = I 8 1 := (congrFun (yc 8 (by decide)) 1).trans (w 8 1 (by decide) (by decide) (by decide))
  have f0_15 : B 0 15 = I 0 15 := (congrFun (yc 0 (by decide)) 15).trans (w 0 15 (by decide) (by decide) (by decide))
  have f0_12 : B 0 12 = I 0 12 := (congrFun (yc 0 (by decide)) 12).trans (w 0 12 (by decide) (by decide) (by decide))
  have e49 : ∀ j, j ∉ [0, 1] → B 49 j = I 49 j := fun j hj => (hh.1.2 j hj).trans (congrFun (zz 49 (by decide) (by decide)) j)
  have f49_10 := e49 10 (by decide)
  have f49_6 := e49 6 (by decide)
  have f49_33 := e49 33 (by decide)
  have htb : TB5 B := TB5_k tb f8_1 ((yc 9 (by decide)).trans (Fw_row w 9 (by decide) (by decide) (by decide))) ((hh.1.1 55 (by decide) (by decide)).trans (zz 55 (by decide) (by decide)))
  have htr : TR5 B := TR5_k tr f0_12 ((yc 46 (by decide)).trans (Fw_row w 46 (by decide) (by decide) (by decide))) ((hh.1.1 67 (by decide) (by decide)).trans (zz 67 (by decide) (by decide)))
  have hsr : SR B := SR_of sr ((yc 43 (by decide)).trans (Fw_row w 43 (by decide) (by decide) (by decide))) ((yc 45 (by decide)).trans (Fw_row w 45 (by decide) (by decide) (by decide)))
  have same : R' 7 = R 7 → (∀ k, 73 ≤ k → A k = I k) → B 52 = A 52 → B 53 = A 53 → HI5 B R' ∧ DI5 R' ∧ IM5 B R' := fun r7 k73 b52 b53 => by
    refine ⟨fun i hi9 => by rw [r7, b53, zz 53 (by decide) (by decide)]; exact hi i hi9, fun i j hi9 hj9 c9 p1 p2 => di i j hi9 hj9 c9 (by rw [← r7]; exact p1) (by rw [← r7]; exact p2), fun i hi9 c9 hq => ?_⟩
    rw [r7] at hq
    have h73 := (hC.2.2.2 i hi9 c9 hq).1
    rw [yc c9 (by omega), yc (c9 + 1) (by omega), yc (c9 + 5) (by omega), k73 c9 h73, k73 (c9 + 1) (by omega), k73 (c9 + 5) (by omega), b52, zz 52 (by decide) (by decide)]
    exact im i hi9 c9 hq
  have z51 := zz 51 (by decide) (by decide)
  have z53 := zz 53 (by decide) (by decide)
  have b52 : B 52 = A 52 := hh.1.1 52 (by decide) (by decide)
  have b53 : B 53 = A 53 := hh.1.1 53 (by decide) (by decide)
  have keep : ∀ {rs : List Nat} {ws : List (Nat × Nat)}, Fw rs ws I A → 1 ∉ rs → 2 ∉ rs → 6 ∉ rs → (∀ p ∈ ws, p.1 ≠ 1 ∧ p.1 ≠ 2 ∧ p.1 ≠ 6) → B 51 = A 51 → SC5 B ∧ OL5 B ∧ WN5 B := fun v n1 n2 n6 nw b51 => by
    have r1 : B 1 = I 1 := (yc 1 (by decide)).trans (Fw_row v 1 (by decide) n1 (fun p hp => (nw p hp).1))
    have y51 : B 51 = I 51 := b51.trans z51
    have g5 := congrFun r1 5
    have g6 := congrFun r1 6
    have g7 := congrFun r1 7
    have g11 := congrFun r1 11
    have f51_304 := congrFun y51 304
    have f51_305 := congrFun y51 305
    have f51_306 := congrFun y51 306
    have f51_309 := congrFun y51 309
    exact ⟨⟨by omega, by omega, by omega, by omega, by omega, by omega, by omega⟩, OL5_k ol ((yc 2 (by decide)).trans (Fw_row v 2 (by decide) n2 (fun p hp => (nw p hp).2.1))) (fun j _ => congrFun y51 _), WN5_k wn ((yc 6 (by decide)).trans (Fw_row v 6 (by decide) n6 (fun p hp => (nw p hp).2.2))) (fun j _ => congrFun y51 _)⟩
  by_cases hv : 0 ≤ a ∧ a < 2
  · have hd0 := hh.2.2.2.2 hv
    rw [z53] at hd0
    have h4 := hi a.toNat (by omega)
    cases hn : R 7 a.toNat with
    | none =>
      obtain ⟨c1, c2, r7, -, k73⟩ := h0.2.2.2.2.2.1 hv hn
      obtain ⟨d1, d2⟩ := hd0.1 (h4.mp hn)
      obtain ⟨s1, s2, s3⟩ := keep c2.1 (by decide) (by decide) (by decide) (by decide) d2
      obtain ⟨t1, t2, t3⟩ := same r7 (fun k hk => (k73 k hk).1) b52 b53
      exact ⟨⟨s1, htb, s2, s3, htr, hsr, t1, t2, t3⟩, by omega⟩
    | some c0 =>
      obtain ⟨c1, -, -, bc, r7, k73⟩ := h0.2.2.2.2.2.2 hv c0 hn
      obtain ⟨d1, d2⟩ := hd0.2 (fun q => by rw [h4.mpr q] at hn; cases hn)
      obtain ⟨t1, t2, t3⟩ := same r7 (fun k hk => (k73 k hk).1) b52 b53
      obtain ⟨m1, m2, m3, m4, m5, m6⟩ := im a.toNat (by omega) c0 hn
      have z52 := zz 52 (by decide) (by decide)
      have y1 := yc 1 (by decide)
      refine ⟨⟨⟨by omega, by omega, by omega, ?_, ?_, ?_, ?_⟩, htb, fun j hj => ?_, fun j hj => ?_, htr, hsr, t1, t2, t3⟩, by omega⟩
      · rw [d2 304 (by decide), z52, y1, bc.1 5 (by decide) (by decide)]; exact m1
      · rw [d2 305 (by decide), z52, y1, bc.1 6 (by decide) (by decide)]; exact m2
      · rw [d2 306 (by decide), z52, y1, bc.1 7 (by decide) (by decide)]; exact m3
      · rw [d2 309 (by decide), z52, y1, bc.1 11 (by decide) (by decide)]; exact m4
      · rw [yc 2 (by decide), bc.2.1 j hj, d2 (256 + j) (by omega), z52]; exact m5 j hj
      · rw [yc 6 (by decide), bc.2.2.2.2.1 j hj, d2 (288 + j) (by omega), z52]; exact m6 j hj
  · obtain ⟨d1, d2⟩ := hh.2.2.2.1 hv
    have c0 := h0.2.2.2.1 hv
    obtain ⟨r7, -, k73⟩ := h0.2.2.2.2.1 hv
    obtain ⟨s1, s2, s3⟩ := keep c0.2.1 (by decide) (by decide) (by decide) (by decide) d2
    obtain ⟨t1, t2, t3⟩ := same r7 (fun k hk => (k73 k hk).1) b52 b53
    have c1 := c0.1
    exact ⟨⟨s1, htb, s2, s3, htr, hsr, t1, t2, t3⟩, by omega⟩
