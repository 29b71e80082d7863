def nI_X1 (F : aI1) (o z : Nat) : aI1 := (fillR (fillR (up2 (up2 (upR (upR (upR (upR F z (fun _ => 0)) (z + 1) (fun _ => 0)) (z + 3) (fun _ => 0)) (z + 4) (fun _ => 0)) o 5 3) o 6 4) z 8 1) (z + 1) 256 (-1))
def nJ_X1 (F : aI1) (o z : Nat) : aI1 := F
def nR_X1 (F : aR1) (o z : Nat) : aR1 := (up2 (up2 (up2 (upR (up2 (up2 F o 0 (some z)) o 1 (some (z + 1))) (z + 2) (fun _ => none)) o 2 (some (z + 2))) o 3 (some (z + 3))) o 4 (some (z + 4)))
def nS_X1 (F : aS1) (o z : Nat) : aS1 := (((((F ++ [(0, 8)]) ++ [(0, 256)]) ++ [(4, 6)]) ++ [(0, 24)]) ++ [(0, 16)])
set_option maxHeartbeats 4000000 in
set_option maxRecDepth 20000 in
theorem c_X1_init (l0 : Launch) {Ia Ja : aI1} {Ra : aR1} {Sa : aS1} {o z : Nat} (hz : Sa.length = z) (ho : Sa[o]? = some (7, 0))  : CT l0 1 5 310 mX1_init [kR (some o)] Ia Ja Ra Sa (dV (fun I' J' R' S' => nI_X1 Ia o z = I' ∧ nJ_X1 Ja o z = J' ∧ nR_X1 Ra o z = R' ∧ nS_X1 Sa o z = S')) := by
  refine ct_in pn_X1 (Nat.le_of_ble_eq_true rfl) (fun X hX hT hIn => ?_)
  have hX : aK l0 X cX1_init 1 RX1 none 1 5 310 := hX
  change WW X 0 [some (kR (some o))] [] Ia Ja Ra Sa 0 0
  have hoz : o < z := by rw [← hz]; exact (List.getElem?_eq_some_iff.mp ho).1
  refine ww_aload_n hX (pc := 0) dX1_init_0 rfl ?_
  refine ww_objInit hX (pc := 1) tb_34 tb_27 tb_28 (by decide) (Nat.le_of_ble_eq_true rfl) dX1_init_1 ?_
  refine ww_aload_n hX (pc := 4) dX1_init_4 rfl ?_
  refine ww_bipush hX (pc := 5) (x := 8) dX1_init_5 (by decide) ?_
  refine ww_na_intz hX (pc := 7) (N := 8) (z := z) hz tb_103 rfl (by omega) (by omega) (by omega) dX1_init_7 ?_
  refine ww_putR hX (pc := 9) (fun _ => hIn rfl) gX1_9 (by decide) (sz_l ho) dX1_init_9 ?_
  refine ww_aload_n hX (pc := 12) dX1_init_12 rfl ?_
  refine ww_sipush hX (pc := 13) (x := 256) dX1_init_13 (by decide) ?_
  refine ww_na_intz hX (pc := 16) (N := 256) (z := (z + 1)) (lz hz) tb_103 rfl (by omega) (by omega) (by omega) dX1_init_16 ?_
  refine ww_putR hX (pc := 18) (fun _ => hIn rfl) gX1_15 (by decide) (sz_l (sz_l ho)) dX1_init_18 ?_
  refine ww_aload_n hX (pc := 21) dX1_init_21 rfl ?_
  refine ww_bipush hX (pc := 22) (x := 6) dX1_init_22 (by decide) ?_
  refine ww_anewz hX (pc := 24) (N := 6) (z := (z + 2)) (lz (lz hz)) (Or.inl ⟨rfl, rfl⟩) tb_35 rfl (by omega) (by omega) (by omega) dX1_init_24 ?_
  refine ww_putR hX (pc := 27) (fun _ => hIn rfl) gX1_20 (by decide) (sz_l (sz_l (sz_l ho))) dX1_init_27 ?_
  refine ww_aload_n hX (pc := 30) dX1_init_30 rfl ?_
  refine ww_bipush hX (pc := 31) (x := 24) dX1_init_31 (by decide) ?_
  refine ww_na_intz hX (pc := 33) (N := 24) (z := (z + 3)) (lz (lz (lz hz))) tb_103 rfl (by omega) (by omega) (by omega) dX1_init_33 ?_
  refine ww_putR hX (pc := 35) (fun _ => hIn rfl) gX1_24 (by decide) (sz_l (sz_l (sz_l (sz_l ho)))) dX1_init_35 ?_
  refine ww_aload_n hX (pc := 38) dX1_init_38 rfl ?_
  refine ww_bipush hX (pc := 39) (x := 16) dX1_init_39 (by decide) ?_
  refine ww_na_intz hX (pc := 41) (N := 16) (z := (z + 4)) (lz (lz (lz (lz hz)))) tb_103 rfl (by omega) (by omega) (by omega) dX1_init_41 ?_
  refine ww_putR hX (pc := 43) (fun _ => hIn rfl) gX1_27 (by decide) (sz_l (sz_l (sz_l (sz_l (sz_l ho))))) dX1_init_43 ?_
  refine ww_aload_n hX (pc := 46) dX1_init_46 rfl ?_
  refine ww_iconst hX (pc := 47) (x := 3) dX1_init_47 rfl ?_
  refine ww_putI hX (pc := 48) (fun h9 => absurd h9 (by decide)) gX1_30 rfl (sz_l (sz_l (sz_l (sz_l (sz_l ho))))) dX1_init_48 ?_
  refine ww_aload_n hX (pc := 51) dX1_init_51 rfl ?_
  refine ww_iconst hX (pc := 52) (x := 4) dX1_init_52 rfl ?_
  refine ww_putI hX (pc := 53) (fun h9 => absurd h9 (by decide)) gX1_34 rfl (sz_l (sz_l (sz_l (sz_l (sz_l ho))))) dX1_init_53 ?_
  refine ww_aload_n hX (pc := 56) dX1_init_56 rfl ?_
  refine ww_getR hX (pc := 57) fX1_9 (by decide) (sz_l (sz_l (sz_l (sz_l (sz_l ho))))) (by rw [up2_n _ _ (Or.inr (by decide)), up2_n _ _ (Or.inr (by decide)), up2_n _ _ (Or.inr (by decide)), upR_n _ _ (by omega), up2_n _ _ (Or.inr (by decide)), up2_s]) dX1_init_57 ?_
  refine ww_iconst hX (pc := 60) (x := 1) dX1_init_60 rfl ?_
  refine sV2 hX (pc := 61) sX1_37 (c_J7_fill_53178 l0 (sz_l (sz_l (sz_l (sz_l (sz_n hz))))) (by decide)) (by decide) (by omega) (by omega) (Nat.le_of_ble_eq_true rfl) dX1_init_61 (fun I_61 J_61 h_61 => ?_)
  obtain ⟨rfl, h_61⟩ := h_61
  subst h_61
  refine ww_aload_n hX (pc := 64) dX1_init_64 rfl ?_
  refine ww_getR hX (pc := 65) fX1_15 (by decide) (sz_l (sz_l (sz_l (sz_l (sz_l ho))))) (by rw [up2_n _ _ (Or.inr (by decide)), up2_n _ _ (Or.inr (by decide)), up2_n _ _ (Or.inr (by decide)), upR_n _ _ (by omega), up2_s]) dX1_init_65 ?_
  refine ww_iconst hX (pc := 68) (x := (-1)) dX1_init_68 rfl ?_
  refine sV2 hX (pc := 69) sX1_37 (c_J7_fill_53178 l0 (sz_l (sz_l (sz_l (sz_n (lz hz))))) (by decide)) (by decide) (by omega) (by omega) (Nat.le_of_ble_eq_true rfl) dX1_init_69 (fun I_69 J_69 h_69 => ?_)
  obtain ⟨rfl, h_69⟩ := h_69
  subst h_69
  exact ww_vret hX (pc := 72) hT (by omega) (by omega) dX1_init_72 ⟨rfl, rfl, rfl, rfl, rfl⟩
def nI_X9 (F : aI1) (o z : Nat) : aI1 := (upR F z (fun _ => 0))
def nJ_X9 (F : aI1) (o z : Nat) : aI1 := F
def nR_X9 (F : aR1) (o z : Nat) : aR1 := (up2 F o 0 (some z))
def nS_X9 (F : aS1) (o z : Nat) : aS1 := (F ++ [(0, 400)])
set_option maxHeartbeats 4000000 in
set_option maxRecDepth 20000 in
theorem c_X9_init (l0 : Launch) {Ia Ja : aI1} {Ra : aR1} {Sa : aS1} {o z : Nat} (hz : Sa.length = z) (ho : Sa[o]? = some (15, 0))  : CT l0 1 1 400 mX9_init [kR (some o)] Ia Ja Ra Sa (dV (fun I' J' R' S' => nI_X9 Ia o z = I' ∧ nJ_X9 Ja o z = J' ∧ nR_X9 Ra o z = R' ∧ nS_X9 Sa o z = S')) := by
  refine ct_in pn_X9 (Nat.le_of_ble_eq_true rfl) (fun X hX hT hIn => ?_)
  have hX : aK l0 X cX9_init 1 RX9 none 1 1 400 := hX
  change WW X 0 [some (kR (some o))] [] Ia Ja Ra Sa 0 0
  have hoz : o < z := by rw [← hz]; exact (List.getElem?_eq_some_iff.mp ho).1
  refine ww_aload_n hX (pc := 0) dX9_init_0 rfl ?_
  refine ww_objInit hX (pc := 1) tb_110 tb_27 tb_28 (by decide) (Nat.le_of_ble_eq_true rfl) dX9_init_1 ?_
  refine ww_aload_n hX (pc := 4) dX9_init_4 rfl ?_
  refine ww_sipush hX (pc := 5) (x := 400) dX9_init_5 (by decide) ?_
  refine ww_na_intz hX (pc := 8) (N := 400) (z := z) hz tb_103 rfl (by omega) (by omega) (by omega) dX9_init_8 ?_
  refine ww_putR hX (pc := 10) (fun _ => hIn rfl) gX9_9 (by decide) (sz_l ho) dX9_init_10 ?_
  exact ww_vret hX (pc := 13) hT (by omega) (by omega) dX9_init_13 ⟨rfl, rfl, rfl, rfl, rfl⟩
def nI_X5 (F : aI1) (o z N : Nat) : aI1 := (upR (upR F z (fun _ => 0)) (z + 1) (fun _ => 0))
def nJ_X5 (F : aI1) (o z N : Nat) : aI1 := F
def nR_X5 (F : aR1) (o z N : Nat) : aR1 := (up2 (up2 F o 1 (some z)) o 0 (some (z + 1)))
def nS_X5 (F : aS1) (o z N : Nat) : aS1 := ((F ++ [(0, 8)]) ++ [(0, N)])
set_option maxHeartbeats 4000000 in
set_option maxRecDepth 20000 in
theorem c_X5_init (l0 : Launch) {Ia Ja : aI1} {Ra : aR1} {Sa : aS1} {o z : Nat} (hz : Sa.length = z) (ho : Sa[o]? = some (11, 0)) {N : Nat} {n : Int} (hn : n = (N : Int)) (hN : N ≤ 65536)  : CT l0 1 2 (8 + N) mX5_init [kR (some o), kI n] Ia Ja Ra Sa (dV (fun I' J' R' S' => nI_X5 Ia o z N = I' ∧ nJ_X5 Ja o z N = J' ∧ nR_X5 Ra o z N = R' ∧ nS_X5 Sa o z N = S')) := by
  refine ct_in pn_X5 (Nat.le_of_ble_eq_true rfl) (fun X hX hT hIn => ?_)
  have hX : aK l0 X cX5_init 2 RX5 none 1 2 (8 + N) := hX
  change WW X 0 [some (kR (some o)), some (kI n)] [] Ia Ja Ra Sa 0 0
  have hoz : o < z := by rw [← hz]; exact (List.getElem?_eq_some_iff.mp ho).1
  refine ww_aload_n hX (pc := 0) dX5_init_0 rfl ?_
  refine ww_objInit hX (pc := 1) tb_189 tb_27 tb_28 (by decide) (Nat.le_of_ble_eq_true rfl) dX5_init_1 ?_
  refine ww_aload_n hX (pc := 4) dX5_init_4 rfl ?_
  refine ww_bipush hX (pc := 5) (x := 8) dX5_init_5 (by decide) ?_
  refine ww_na_intz hX (pc := 7) (N := 8) (z := z) hz tb_103 rfl (by omega) (by omega) (by omega) dX5_init_7 ?_
  refine ww_putR hX (pc := 9) (fun _ => hIn rfl) gX5_9 (by decide) (sz_l ho) dX5_init_9 ?_
  refine ww_aload_n hX (pc := 12) dX5_init_12 rfl ?_
  refine ww_iload_n hX (pc := 13) dX5_init_13 rfl ?_
  refine ww_na_intz hX (pc := 14) (N := N) (z := (z + 1)) (lz hz) tb_103 (by omega) (by omega) (by omega) (by omega) dX5_init_14 ?_
  refine ww_putR hX (pc := 16) (fun _ => hIn rfl) gX5_15 (by decide) (sz_l (sz_l ho)) dX5_init_16 ?_
  exact ww_vret hX (pc := 19) hT (by omega) (by omega) dX5_init_19 ⟨rfl, rfl, rfl, rfl, rfl⟩
def nI_X7 (F : aI1) (o z t : Nat) : aI1 := (upR (upR (upR (upR (up2 F o 0 (-1)) z (fun _ => 0)) (z + 1) (fun _ => 0)) (z + 2) (fun _ => 0)) (z + 3) (fun _ => 0))
def nJ_X7 (F : aI1) (o z t : Nat) : aI1 := F
def nR_X7 (F : aR1) (o z t : Nat) : aR1 := (up2 (up2 (up2 (up2 (up2 F o 2 (some z)) o 3 (some (z + 1))) o 4 (some (z + 2))) o 5 (some (z + 3))) o 1 (some t))
def nS_X7 (F : aS1) (o z t : Nat) : aS1 := ((((F ++ [(0, 401)]) ++ [(0, 401)]) ++ [(0, 400)]) ++ [(0, 25)])
set_option maxHeartbeats 4000000 in
set_option maxRecDepth 20000 in
theorem c_X7_init (l0 : Launch) {Ia Ja : aI1} {Ra : aR1} {Sa : aS1} {o z : Nat} (hz : Sa.length = z) (ho : Sa[o]? = some (13, 0)) {t : Nat}  : CT l0 1 4 1227 mX7_init [kR (some o), kR (some t)] Ia Ja Ra Sa (dV (fun I' J' R' S' => nI_X7 Ia o z t = I' ∧ nJ_X7 Ja o z t = J' ∧ nR_X7 Ra o z t = R' ∧ nS_X7 Sa o z t = S')) := by
  refine ct_in pn_X7 (Nat.le_of_ble_eq_true rfl) (fun X hX hT hIn => ?_)
  have hX : aK l0 X cX7_init 2 RX7 none 1 4 1227 := hX
  change WW X 0 [some (kR (some o)), some (kR (some t))] [] Ia Ja Ra Sa 0 0
  have hoz : o < z := by rw [← hz]; exact (List.getElem?_eq_some_iff.mp ho).1
  refine ww_aload_n hX (pc := 0) dX7_init_0 rfl ?_
  refine ww_objInit hX (pc := 1) tb_125 tb_27 tb_28 (by decide) (Nat.le_of_ble_eq_true rfl) dX7_init_1 ?_
  refine ww_aload_n hX (pc := 4) dX7_init_4 rfl ?_
  refine ww_iconst hX (pc := 5) (x := (-1)) dX7_init_5 rfl ?_
  refine ww_putI hX (pc := 6) (fun h9 => absurd h9 (by decide)) gX7_9 rfl ho dX7_init_6 ?_
  refine ww_aload_n hX (pc := 9) dX7_init_9 rfl ?_
  refine ww_sipush hX (pc := 10) (x := 401) dX7_init_10 (by decide) ?_
  refine ww_na_intz hX (pc := 13) (N := 401) (z := z) hz tb_103 rfl (by omega) (by omega) (by omega) dX7_init_13 ?_
  refine ww_putR hX (pc := 15) (fun _ => hIn rfl) gX7_15 (by decide) (sz_l ho) dX7_init_15 ?_
  refine ww_aload_n hX (pc := 18) dX7_init_18 rfl ?_
  refine ww_sipush hX (pc := 19) (x := 401) dX7_init_19 (by decide) ?_
  refine ww_na_intz hX (pc := 22) (N := 401) (z := (z + 1)) (lz hz) tb_103 rfl (by omega) (by omega) (by omega) dX7_init_22 ?_
  refine ww_putR hX (pc := 24) (fun _ => hIn rfl) gX7_19 (by decide) (sz_l (sz_l ho)) dX7_init_24 ?_
  refine ww_aload_n hX (pc := 27) dX7_init_27 rfl ?_
  refine ww_sipush hX (pc := 28) (x := 400) dX7_init_28 (by decide) ?_
  refine ww_na_intz hX (pc := 31) (N := 400) (z := (z + 2)) (lz (lz hz)) tb_103 rfl (by omega) (by omega) (by omega) dX7_init_31 ?_
  refine ww_putR hX (pc := 33) (fun _ => hIn rfl) gX7_22 (by decide) (sz_l (sz_l (sz_l ho))) dX7_init_33 ?_
  refine ww_aload_n hX (pc := 36) dX7_init_36 rfl ?_
  refine ww_bipush hX (pc := 37) (x := 25) dX7_init_37 (by decide) ?_
  refine ww_na_intz hX (pc := 39) (N := 25) (z := (z + 3)) (lz (lz (lz hz))) tb_103 rfl (by omega) (by omega) (by omega) dX7_init_39 ?_
  refine ww_putR hX (pc := 41) (fun _ => hIn rfl) gX7_25 (by decide) (sz_l (sz_l (sz_l (sz_l ho)))) dX7_init_41 ?_
  refine ww_aload_n hX (pc := 44) dX7_init_44 rfl ?_
  refine ww_aload_n hX (pc := 45) dX7_init_45 rfl ?_
  refine ww_putR hX (pc := 46) (fun _ => hIn rfl) gX7_28 (by decide) (sz_l (sz_l (sz_l (sz_l ho)))) dX7_init_46 ?_
  exact ww_vret hX (pc := 49) hT (by omega) (by omega) dX7_init_49 ⟨rfl, rfl, rfl, rfl, rfl⟩
def nI_X0 (F : aI1) (o z : Nat) : aI1 := (upR F z (fun _ => 0))
def nJ_X0 (F : aI1) (o z : Nat) : aI1 := (upR F (z + 1) (fun _ => 0))
def nR_X0 (F : aR1) (o z : Nat) : aR1 := (up2 (up2 F o 0 (some z)) o 1 (some (z + 1)))
def nS_X0 (F : aS1) (o z : Nat) : aS1 := ((F ++ [(0, 8)]) ++ [(1, 64)])
set_option maxHeartbeats 4000000 in
set_option maxRecDepth 20000 in
theorem c_X0_init (l0 : Launch) {Ia Ja : aI1} {Ra : aR1} {Sa : aS1} {o z : Nat} (hz : Sa.length = z) (ho : Sa[o]? = some (6, 0))  : CT l0 1 2 72 mX0_init [kR (some o)] Ia Ja Ra Sa (dV (fun I' J' R' S' => nI_X0 Ia o z = I' ∧ nJ_X0 Ja o z = J' ∧ nR_X0 Ra o z = R' ∧ nS_X0 Sa o z = S')) := by
  refine ct_in pn_X0 (Nat.le_of_ble_eq_true rfl) (fun X hX hT hIn => ?_)
  have hX : aK l0 X cX0_init 1 RX0 none 1 2 72 := hX
  change WW X 0 [some (kR (some o))] [] Ia Ja Ra Sa 0 0
  have hoz : o < z := by rw [← hz]; exact (List.getElem?_eq_some_iff.mp ho).1
  refine ww_aload_n hX (pc := 0) dX0_init_0 rfl ?_
  refine ww_objInit hX (pc := 1) tb_169 tb_27 tb_28 (by decide) (Nat.le_of_ble_eq_true rfl) dX0_init_1 ?_
  refine ww_aload_n hX (pc := 4) dX0_init_4 rfl ?_
  refine ww_bipush hX (pc := 5) (x := 8) dX0_init_5 (by decide) ?_
  refine ww_na_intz hX (pc := 7) (N := 8) (z := z) hz tb_103 rfl (by omega) (by omega) (by omega) dX0_init_7 ?_
  refine ww_putR hX (pc := 9) (fun _ => hIn rfl) gX0_11 (by decide) (sz_l ho) dX0_init_9 ?_
  refine ww_aload_n hX (pc := 12) dX0_init_12 rfl ?_
  refine ww_bipush hX (pc := 13) (x := 64) dX0_init_13 (by decide) ?_
  refine ww_na_longz hX (pc := 15) (N := 64) (z := (z + 1)) (lz hz) tb_177 rfl (by omega) (by omega) (by omega) dX0_init_15 ?_
  refine ww_putR hX (pc := 17) (fun _ => hIn rfl) gX0_17 (by decide) (sz_l (sz_l ho)) dX0_init_17 ?_
  exact ww_vret hX (pc := 20) hT (by omega) (by omega) dX0_init_20 ⟨rfl, rfl, rfl, rfl, rfl⟩
def nI_X4 (F : aI1) (o z c : Nat) : aI1 := (upR (nI_X5 (upR (nI_X5 (upR (upR (upR (upR F z (fun _ => 0)) (z + 1) (fun _ => 0)) (z + 2) (fun _ => 0)) (z + 3) (fun _ => 0)) (z + 3) (z + 4) 256) (z + 6) (fun _ => 0)) (z + 6) (z + 7) 256) (z + 11) (fun _ => 0))
def nJ_X4 (F : aI1) (o z c : Nat) : aI1 := (up2 (upR (upR (nJ_X5 (upR (nJ_X5 (upR F (z + 3) (fun _ => 0)) (z + 3) (z + 4) 256) (z + 6) (fun _ => 0)) (z + 6) (z + 7) 256) (z + 9) (fun _ => 0)) (z + 10) (fun _ => 0)) o 9 1)
def nR_X4 (F : aR1) (o z c : Nat) : aR1 := (up2 (up2 (up2 (up2 (up2 (nR_X5 (upR (up2 (nR_X5 (upR (up2 (up2 (up2 F o 1 (some z)) o 2 (some (z + 1))) o 3 (some (z + 2))) (z + 3) (fun _ => none)) (z + 3) (z + 4) 256) o 4 (some (z + 3))) (z + 6) (fun _ => none)) (z + 6) (z + 7) 256) o 5 (some (z + 6))) o 6 (some (z + 9))) o 7 (some (z + 10))) o 8 (some (z + 11))) o 0 (some c))
def nS_X4 (F : aS1) (o z c : Nat) : aS1 := ((((nS_X5 ((nS_X5 ((((F ++ [(0, 256)]) ++ [(0, 9)]) ++ [(0, 8)]) ++ [(11, 0)]) (z + 3) (z + 4) 256) ++ [(11, 0)]) (z + 6) (z + 7) 256) ++ [(1, 256)]) ++ [(1, 8)]) ++ [(0, 9)])
set_option maxHeartbeats 4000000 in
set_option maxRecDepth 20000 in
theorem c_X4_init (l0 : Launch) {Ia Ja : aI1} {Ra : aR1} {Sa : aS1} {o z : Nat} (hz : Sa.length = z) (ho : Sa[o]? = some (10, 0)) {c : Nat}  : CT l0 2 12 1078 mX4_init [kR (some o), kR (some c)] Ia Ja Ra Sa (dV (fun I' J' R' S' => nI_X4 Ia o z c = I' ∧ nJ_X4 Ja o z c = J' ∧ nR_X4 Ra o z c = R' ∧ nS_X4 Sa o z c = S')) := by
  refine ct_in pn_X4 (Nat.le_of_ble_eq_true rfl) (fun X hX hT hIn => ?_)
  have hX : aK l0 X cX4_init 2 RX4 none 2 12 1078 := hX
  change WW X 0 [some (kR (some o)), some (kR (some c))] [] Ia Ja Ra Sa 0 0
  have hoz : o < z := by rw [← hz]; exact (List.getElem?_eq_some_iff.mp ho).1
  refine ww_aload_n hX (pc := 0) dX4_init_0 rfl ?_
  refine ww_objInit hX (pc := 1) tb_183 tb_27 tb_28 (by decide) (Nat.le_of_ble_eq_true rfl) dX4_init_1 ?_
  refine ww_aload_n hX (pc := 4) dX4_init_4 rfl ?_
  refine ww_sipush hX (pc := 5) (x := 256) dX4_init_5 (by decide) ?_
  refine ww_na_intz hX (pc := 8) (N := 256) (z := z) hz tb_103 rfl (by omega) (by omega) (by omega) dX4_init_8 ?_
  refine ww_putR hX (pc := 10) (fun _ => hIn rfl) gX4_9 (by decide) (sz_l ho) dX4_init_10 ?_
  refine ww_aload_n hX (pc := 13) dX4_init_13 rfl ?_
  refine ww_bipush hX (pc := 14) (x := 9) dX4_init_14 (by decide) ?_
  refine ww_na_intz hX (pc := 16) (N := 9) (z := (z + 1)) (lz hz) tb_103 rfl (by omega) (by omega) (by omega) dX4_init_16 ?_
  refine ww_putR hX (pc := 18) (fun _ => hIn rfl) gX4_15 (by decide) (sz_l (sz_l ho)) dX4_init_18 ?_
  refine ww_aload_n hX (pc := 21) dX4_init_21 rfl ?_
  refine ww_bipush hX (pc := 22) (x := 8) dX4_init_22 (by decide) ?_
  refine ww_na_intz hX (pc := 24) (N := 8) (z := (z + 2)) (lz (lz hz)) tb_103 rfl (by omega) (by omega) (by omega) dX4_init_24 ?_
  refine ww_putR hX (pc := 26) (fun _ => hIn rfl) gX4_18 (by decide) (sz_l (sz_l (sz_l ho))) dX4_init_26 ?_
  refine ww_aload_n hX (pc := 29) dX4_init_29 rfl ?_
  refine ww_newz hX (pc := 30) 2 (z := (z + 3)) (lz (lz (lz hz))) cl_5 tb_184 tb_185 tb_8 rfl (by omega) (by omega) dX4_init_30 ?_
  refine ww_dupR hX (pc := 33) dX4_init_33 ?_
  refine ww_sipush hX (pc := 34) (x := 256) dX4_init_34 (by decide) ?_
  refine ww_callI hX (pc := 37) (av := [kI 256]) sX4_23 (c_X5_init l0 (o := (z + 3)) (z := (z + 4)) (lz (lz (lz (lz hz)))) (sz_n (lz (lz (lz hz)))) (N := 256) rfl (by decide)) rfl (by decide) (by omega) (by omega) (Nat.le_of_ble_eq_true rfl) dX4_init_37 (fun r_37 I_37 J_37 R_37 S_37 h_37 => ?_)
  obtain ⟨rfl, rfl, rfl, rfl, rfl⟩ := h_37
  refine ww_putR hX (pc := 40) (fun _ => hIn rfl) gX4_26 (by decide) (sz_l (sz_l (sz_l (sz_l (sz_l (sz_l ho)))))) dX4_init_40 ?_
  refine ww_aload_n hX (pc := 43) dX4_init_43 rfl ?_
  refine ww_newz hX (pc := 44) 2 (z := (z + 6)) (lz (lz (lz (lz (lz (lz hz)))))) cl_5 tb_184 tb_185 tb_8 rfl (by omega) (by omega) dX4_init_44 ?_
  refine ww_dupR hX (pc := 47) dX4_init_47 ?_
  refine ww_sipush hX (pc := 48) (x := 256) dX4_init_48 (by decide) ?_
  refine ww_callI hX (pc := 51) (av := [kI 256]) sX4_23 (c_X5_init l0 (o := (z + 6)) (z := (z + 7)) (lz (lz (lz (lz (lz (lz (lz hz))))))) (sz_n (lz (lz (lz (lz (lz (lz hz))))))) (N := 256) rfl (by decide)) rfl (by decide) (by omega) (by omega) (Nat.le_of_ble_eq_true rfl) dX4_init_51 (fun r_51 I_51 J_51 R_51 S_51 h_51 => ?_)
  obtain ⟨rfl, rfl, rfl, rfl, rfl⟩ := h_51
  refine ww_putR hX (pc := 54) (fun _ => hIn rfl) gX4_30 (by decide) (sz_l (sz_l (sz_l (sz_l (sz_l (sz_l (sz_l (sz_l (sz_l ho))))))))) dX4_init_54 ?_
  refine ww_aload_n hX (pc := 57) dX4_init_57 rfl ?_
  refine ww_sipush hX (pc := 58) (x := 256) dX4_init_58 (by decide) ?_
  refine ww_na_longz hX (pc := 61) (N := 256) (z := (z + 9)) (lz (lz (lz (lz (lz (lz (lz (lz (lz hz))))))))) tb_177 rfl (by omega) (by omega) (by omega) dX4_init_61 ?_
  refine ww_putR hX (pc := 63) (fun _ => hIn rfl) gX4_33 (by decide) (sz_l (sz_l (sz_l (sz_l (sz_l (sz_l (sz_l (sz_l (sz_l (sz_l ho)))))))))) dX4_init_63 ?_
  refine ww_aload_n hX (pc := 66) dX4_init_66 rfl ?_
  refine ww_bipush hX (pc := 67) (x := 8) dX4_init_67 (by decide) ?_
  refine ww_na_longz hX (pc := 69) (N := 8) (z := (z + 10)) (lz (lz (lz (lz (lz (lz (lz (lz (lz (lz hz)))))))))) tb_177 rfl (by omega) (by omega) (by omega) dX4_init_69 ?_
  refine ww_putR hX (pc := 71) (fun _ => hIn rfl) gX4_37 (by decide) (sz_l (sz_l (sz_l (sz_l (sz_l (sz_l (sz_l (sz_l (sz_l (sz_l (sz_l ho))))))))))) dX4_init_71 ?_
  refine ww_aload_n hX (pc := 74) dX4_init_74 rfl ?_
  refine ww_bipush hX (pc := 75) (x := 9) dX4_init_75 (by decide) ?_
  refine ww_na_intz hX (pc := 77) (N := 9) (z := (z + 11)) (lz (lz (lz (lz (lz (lz (lz (lz (lz (lz (lz hz))))))))))) tb_103 rfl (by omega) (by omega) (by omega) dX4_init_77 ?_
  refine ww_putR hX (pc := 79) (fun _ => hIn rfl) gX4_40 (by decide) (sz_l (sz_l (sz_l (sz_l (sz_l (sz_l (sz_l (sz_l (sz_l (sz_l (sz_l (sz_l ho)))))))))))) dX4_init_79 ?_
  refine ww_aload_n hX (pc := 82) dX4_init_82 rfl ?_
  refine ww_lconst hX (pc := 83) (x := 1) dX4_init_83 (by decide) ?_
  refine ww_putJ hX (pc := 84) (fun h9 => absurd h9 (by decide)) gX4_43 rfl (sz_l (sz_l (sz_l (sz_l (sz_l (sz_l (sz_l (sz_l (sz_l (sz_l (sz_l (sz_l ho)))))))))))) dX4_init_84 ?_
  refine ww_aload_n hX (pc := 87) dX4_init_87 rfl ?_
  refine ww_aload_n hX (pc := 88) dX4_init_88 rfl ?_
  refine ww_putR hX (pc := 89) (fun _ => hIn rfl) gX4_47 (by decide) (sz_l (sz_l (sz_l (sz_l (sz_l (sz_l (sz_l (sz_l (sz_l (sz_l (sz_l (sz_l ho)))))))))))) dX4_init_89 ?_
  exact ww_vret hX (pc := 92) hT (by omega) (by omega) dX4_init_92 ⟨rfl, rfl, rfl, rfl, rfl⟩
def nI_X8 (F : aI1) (o z k : Nat) : aI1 := F
def nJ_X8 (F : aI1) (o z k : Nat) : aI1 := (upR F z (fun _ => 0))
def nR_X8 (F : aR1) (o z k : Nat) : aR1 := (up2 (up2 F o 1 (some z)) o 0 (some k))
def nS_X8 (F : aS1) (o z k : Nat) : aS1 := (F ++ [(1, 2304)])
set_option maxHeartbeats 4000000 in
set_option maxRecDepth 20000 in
theorem c_X8_init (l0 : Launch) {Ia Ja : aI1} {Ra : aR1} {Sa : aS1} {o z : Nat} (hz : Sa.length = z) (ho : Sa[o]? = some (14, 0)) {k : Nat}  : CT l0 1 1 2304 mX8_init [kR (some o), kR (some k)] Ia Ja Ra Sa (dV (fun I' J' R' S' => nI_X8 Ia o z k = I' ∧ nJ_X8 Ja o z k = J' ∧ nR_X8 Ra o z k = R' ∧ nS_X8 Sa o z k = S')) := by
  refine ct_in pn_X8 (Nat.le_of_ble_eq_true rfl) (fun X hX hT hIn => ?_)
  have hX : aK l0 X cX8_init 2 RX8 none 1 1 2304 := hX
  change WW X 0 [some (kR (some o)), some (kR (some k))] [] Ia Ja Ra Sa 0 0
  have hoz : o < z := by rw [← hz]; exact (List.getElem?_eq_some_iff.mp ho).1
  refine ww_aload_n hX (pc := 0) dX8_init_0 rfl ?_
  refine ww_objInit hX (pc := 1) tb_250 tb_27 tb_28 (by decide) (Nat.le_of_ble_eq_true rfl) dX8_init_1 ?_
  refine ww_aload_n hX (pc := 4) dX8_init_4 rfl ?_
  refine ww_sipush hX (pc := 5) (x := 2304) dX8_init_5 (by decide) ?_
  refine ww_na_longz hX (pc := 8) (N := 2304) (z := z) hz tb_177 rfl (by omega) (by omega) (by omega) dX8_init_8 ?_
  refine ww_putR hX (pc := 10) (fun _ => hIn rfl) gX8_9 (by decide) (sz_l ho) dX8_init_10 ?_
  refine ww_aload_n hX (pc := 13) dX8_init_13 rfl ?_
  refine ww_aload_n hX (pc := 14) dX8_init_14 rfl ?_
  refine ww_putR hX (pc := 15) (fun _ => hIn rfl) gX8_15 (by decide) (sz_l ho) dX8_init_15 ?_
  exact ww_vret hX (pc := 18) hT (by omega) (by omega) dX8_init_18 ⟨rfl, rfl, rfl, rfl, rfl⟩
def nI_X2 (F : aI1) (o z : Nat) : aI1 := (upR (upR (upR (upR (upR (nI_X5 (upR F z (fun _ => 0)) z (z + 1) 8) (z + 3) (fun _ => 0)) (z + 4) (fun _ => 0)) (z + 5) (fun _ => 0)) (z + 6) (fun _ => 0)) (z + 7) (fun _ => 0))
def nJ_X2 (F : aI1) (o z : Nat) : aI1 := (nJ_X5 (upR F z (fun _ => 0)) z (z + 1) 8)
def nR_X2 (F : aR1) (o z : Nat) : aR1 := (up2 (up2 (up2 (up2 (up2 (up2 (nR_X5 (upR F z (fun _ => none)) z (z + 1) 8) o 0 (some z)) o 1 (some (z + 3))) o 2 (some (z + 4))) o 3 (some (z + 5))) o 4 (some (z + 6))) o 5 (some (z + 7)))
def nS_X2 (F : aS1) (o z : Nat) : aS1 := ((((((nS_X5 (F ++ [(11, 0)]) z (z + 1) 8) ++ [(0, 8)]) ++ [(0, 8)]) ++ [(0, 36)]) ++ [(0, 288)]) ++ [(3, 9)])
set_option maxHeartbeats 4000000 in
set_option maxRecDepth 20000 in
theorem c_X2_init (l0 : Launch) {Ia Ja : aI1} {Ra : aR1} {Sa : aS1} {o z : Nat} (hz : Sa.length = z) (ho : Sa[o]? = some (8, 0))  : CT l0 2 8 367 mX2_init [kR (some o)] Ia Ja Ra Sa (dV (fun I' J' R' S' => nI_X2 Ia o z = I' ∧ nJ_X2 Ja o z = J' ∧ nR_X2 Ra o z = R' ∧ nS_X2 Sa o z = S')) := by
  refine ct_in pn_X2 (Nat.le_of_ble_eq_true rfl) (fun X hX hT hIn => ?_)
  have hX : aK l0 X cX2_init 1 RX2 none 2 8 367 := hX
  change WW X 0 [some (kR (some o))] [] Ia Ja Ra Sa 0 0
  have hoz : o < z := by rw [← hz]; exact (List.getElem?_eq_some_iff.mp ho).1
  refine ww_aload_n hX (pc := 0) dX2_init_0 rfl ?_
  refine ww_objInit hX (pc := 1) tb_298 tb_27 tb_28 (by decide) (Nat.le_of_ble_eq_true rfl) dX2_init_1 ?_
  refine ww_aload_n hX (pc := 4) dX2_init_4 rfl ?_
  refine ww_newz hX (pc := 5) 2 (z := z) hz cl_5 tb_299 tb_185 tb_8 rfl (by omega) (by omega) dX2_init_5 ?_
  refine ww_dupR hX (pc := 8) dX2_init_8 ?_
  refine ww_bipush hX (pc := 9) (x := 8) dX2_init_9 (by decide) ?_
  refine ww_callI hX (pc := 11) (av := [kI 8]) sX2_11 (c_X5_init l0 (o := z) (z := (z + 1)) (lz hz) (sz_n hz) (N := 8) rfl (by decide)) rfl (by decide) (by omega) (by omega) (Nat.le_of_ble_eq_true rfl) dX2_init_11 (fun r_11 I_11 J_11 R_11 S_11 h_11 => ?_)
  obtain ⟨rfl, rfl, rfl, rfl, rfl⟩ := h_11
  refine ww_putR hX (pc := 14) (fun _ => hIn rfl) gX2_14 (by decide) (sz_l (sz_l (sz_l ho))) dX2_init_14 ?_
  refine ww_aload_n hX (pc := 17) dX2_init_17 rfl ?_
  refine ww_bipush hX (pc := 18) (x := 8) dX2_init_18 (by decide) ?_
  refine ww_na_intz hX (pc := 20) (N := 8) (z := (z + 3)) (lz (lz (lz hz))) tb_103 rfl (by omega) (by omega) (by omega) dX2_init_20 ?_
  refine ww_putR hX (pc := 22) (fun _ => hIn rfl) gX2_18 (by decide) (sz_l (sz_l (sz_l (sz_l ho)))) dX2_init_22 ?_
  refine ww_aload_n hX (pc := 25) dX2_init_25 rfl ?_
  refine ww_bipush hX (pc := 26) (x := 8) dX2_init_26 (by decide) ?_
  refine ww_na_intz hX (pc := 28) (N := 8) (z := (z + 4)) (lz (lz (lz (lz hz)))) tb_103 rfl (by omega) (by omega) (by omega) dX2_init_28 ?_
  refine ww_putR hX (pc := 30) (fun _ => hIn rfl) gX2_22 (by decide) (sz_l (sz_l (sz_l (sz_l (sz_l ho))))) dX2_init_30 ?_
  refine ww_aload_n hX (pc := 33) dX2_init_33 rfl ?_
  refine ww_bipush hX (pc := 34) (x := 36) dX2_init_34 (by decide) ?_
  refine ww_na_intz hX (pc := 36) (N := 36) (z := (z + 5)) (lz (lz (lz (lz (lz hz))))) tb_103 rfl (by omega) (by omega) (by omega) dX2_init_36 ?_
  refine ww_putR hX (pc := 38) (fun _ => hIn rfl) gX2_25 (by decide) (sz_l (sz_l (sz_l (sz_l (sz_l (sz_l ho)))))) dX2_init_38 ?_
  refine ww_aload_n hX (pc := 41) dX2_init_41 rfl ?_
  refine ww_sipush hX (pc := 42) (x := 288) dX2_init_42 (by decide) ?_
  refine ww_na_intz hX (pc := 45) (N := 288) (z := (z + 6)) (lz (lz (lz (lz (lz (lz hz)))))) tb_103 rfl (by omega) (by omega) (by omega) dX2_init_45 ?_
  refine ww_putR hX (pc := 47) (fun _ => hIn rfl) gX2_28 (by decide) (sz_l (sz_l (sz_l (sz_l (sz_l (sz_l (sz_l ho))))))) dX2_init_47 ?_
  refine ww_aload_n hX (pc := 50) dX2_init_50 rfl ?_
  refine ww_bipush hX (pc := 51) (x := 9) dX2_init_51 (by decide) ?_
  refine ww_na_boolz hX (pc := 53) (N := 9) (z := (z + 7)) (lz (lz (lz (lz (lz (lz (lz hz))))))) tb_320 rfl (by omega) (by omega) (by omega) dX2_init_53 ?_
  refine ww_putR hX (pc := 55) (fun _ => hIn rfl) gX2_31 (by decide) (sz_l (sz_l (sz_l (sz_l (sz_l (sz_l (sz_l (sz_l ho)))))))) dX2_init_55 ?_
  exact ww_vret hX (pc := 58) hT (by omega) (by omega) dX2_init_58 ⟨rfl, rfl, rfl, rfl, rfl⟩
def nI_X3 (F : aI1) (o z k c : Nat) : aI1 := (upR (upR F z (fun _ => 0)) (z + 2) (fun _ => 0))
def nJ_X3 (F : aI1) (o z k c : Nat) : aI1 := (upR F (z + 1) (fun _ => 0))
def nR_X3 (F : aR1) (o z k c : Nat) : aR1 := (up2 (up2 (up2 (up2 (up2 F o 0 (some z)) o 6 (some (z + 1))) o 7 (some (z + 2))) o 4 (some k)) o 5 (some c))
def nS_X3 (F : aS1) (o z k c : Nat) : aS1 := (((F ++ [(0, 16)]) ++ [(1, 256)]) ++ [(0, 256)])
set_option maxHeartbeats 4000000 in
set_option maxRecDepth 20000 in
theorem c_X3_init (l0 : Launch) {Ia Ja : aI1} {Ra : aR1} {Sa : aS1} {o z : Nat} (hz : Sa.length = z) (ho : Sa[o]? = some (9, 0)) {k c : Nat} (hk : Sa[k]? = some (10, 0)) (hkc : Ra k 0 = some c) (hko : k ≠ o)  : CT l0 1 3 528 mX3_init [kR (some o), kR (some k)] Ia Ja Ra Sa (dV (fun I' J' R' S' => nI_X3 Ia o z k c = I' ∧ nJ_X3 Ja o z k c = J' ∧ nR_X3 Ra o z k c = R' ∧ nS_X3 Sa o z k c = S')) := by
  refine ct_in pn_X3 (Nat.le_of_ble_eq_true rfl) (fun X hX hT hIn => ?_)
  have hX : aK l0 X cX3_init 2 RX3 none 1 3 528 := hX
  change WW X 0 [some (kR (some o)), some (kR (some k))] [] Ia Ja Ra Sa 0 0
  have hoz : o < z := by rw [← hz]; exact (List.getElem?_eq_some_iff.mp ho).1
  have hkz : k < z := by rw [← hz]; exact (List.getElem?_eq_some_iff.mp hk).1
  refine ww_aload_n hX (pc := 0) dX3_init_0 rfl ?_
  refine ww_objInit hX (pc := 1) tb_263 tb_27 tb_28 (by decide) (Nat.le_of_ble_eq_true rfl) dX3_init_1 ?_
  refine ww_aload_n hX (pc := 4) dX3_init_4 rfl ?_
  refine ww_bipush hX (pc := 5) (x := 16) dX3_init_5 (by decide) ?_
  refine ww_na_intz hX (pc := 7) (N := 16) (z := z) hz tb_103 rfl (by omega) (by omega) (by omega) dX3_init_7 ?_
  refine ww_putR hX (pc := 9) (fun _ => hIn rfl) gX3_9 (by decide) (sz_l ho) dX3_init_9 ?_
  refine ww_aload_n hX (pc := 12) dX3_init_12 rfl ?_
  refine ww_sipush hX (pc := 13) (x := 256) dX3_init_13 (by decide) ?_
  refine ww_na_longz hX (pc := 16) (N := 256) (z := (z + 1)) (lz hz) tb_177 rfl (by omega) (by omega) (by omega) dX3_init_16 ?_
  refine ww_putR hX (pc := 18) (fun _ => hIn rfl) gX3_15 (by decide) (sz_l (sz_l ho)) dX3_init_18 ?_
  refine ww_aload_n hX (pc := 21) dX3_init_21 rfl ?_
  refine ww_sipush hX (pc := 22) (x := 256) dX3_init_22 (by decide) ?_
  refine ww_na_intz hX (pc := 25) (N := 256) (z := (z + 2)) (lz (lz hz)) tb_103 rfl (by omega) (by omega) (by omega) dX3_init_25 ?_
  refine ww_putR hX (pc := 27) (fun _ => hIn rfl) gX3_19 (by decide) (sz_l (sz_l (sz_l ho))) dX3_init_27 ?_
  refine ww_aload_n hX (pc := 30) dX3_init_30 rfl ?_
  refine ww_aload_n hX (pc := 31) dX3_init_31 rfl ?_
  refine ww_putR hX (pc := 32) (fun _ => hIn rfl) gX3_22 (by decide) (sz_l (sz_l (sz_l ho))) dX3_init_32 ?_
  refine ww_aload_n hX (pc := 35) dX3_init_35 rfl ?_
  refine ww_aload_n hX (pc := 36) dX3_init_36 rfl ?_
  refine ww_getR hX (pc := 37) fX3_26 (by decide) (sz_l (sz_l (sz_l hk))) (by rw [up2_n _ _ (Or.inl (by omega)), up2_n _ _ (Or.inl (by omega)), up2_n _ _ (Or.inl (by omega)), up2_n _ _ (Or.inl (by omega)), hkc]) dX3_init_37 ?_
  refine ww_putR hX (pc := 40) (fun _ => hIn rfl) gX3_32 (by decide) (sz_l (sz_l (sz_l ho))) dX3_init_40 ?_
  exact ww_vret hX (pc := 43) hT (by omega) (by omega) dX3_init_43 ⟨rfl, rfl, rfl, rfl, rfl⟩
def nI_X10 (F : aI1) : aI1 := (up2 (upR (upR (upR (nI_X2 (upR (nI_X3 (upR (nI_X8 (upR (nI_X4 (upR (nI_X0 (upR (nI_X7 (upR (nI_X9 (upR (nI_X1 (upR F 1 (fun _ => 0)) 1 2) 8 (fun _ => 0)) 8 9) 10 (fun _ => 0)) 10 11 8) 15 (fun _ => 0)) 15 16) 18 (fun _ => 0)) 18 19 1) 31 (fun _ => 0)) 31 32 18) 33 (fun _ => 0)) 33 34 18 1) 37 (fun _ => 0)) 37 38) 46 (fun _ => 0)) 47 (fun _ => 0)) 48 (fun _ => 0)) 0 14 (-1))
def nJ_X10 (F : aI1) : aI1 := (nJ_X2 (upR (nJ_X3 (upR (nJ_X8 (upR (nJ_X4 (upR (nJ_X0 (upR (nJ_X7 (upR (nJ_X9 (upR (nJ_X1 (upR F 1 (fun _ => 0)) 1 2) 8 (fun _ => 0)) 8 9) 10 (fun _ => 0)) 10 11 8) 15 (fun _ => 0)) 15 16) 18 (fun _ => 0)) 18 19 1) 31 (fun _ => 0)) 31 32 18) 33 (fun _ => 0)) 33 34 18 1) 37 (fun _ => 0)) 37 38)
def nR_X10 (F : aR1) : aR1 := (up2 (up2 (up2 (up2 (nR_X2 (upR (up2 (nR_X3 (upR (up2 (nR_X8 (upR (up2 (nR_X4 (upR (up2 (nR_X0 (upR (up2 (nR_X7 (upR (up2 (nR_X9 (upR (up2 (upR (up2 (nR_X1 (upR F 1 (fun _ => none)) 1 2) 0 0 (some 1)) 7 (fun _ => none)) 0 1 (some 7)) 8 (fun _ => none)) 8 9) 0 2 (some 8)) 10 (fun _ => none)) 10 11 8) 0 3 (some 10)) 15 (fun _ => none)) 15 16) 0 4 (some 15)) 18 (fun _ => none)) 18 19 1) 0 5 (some 18)) 31 (fun _ => none)) 31 32 18) 0 6 (some 31)) 33 (fun _ => none)) 33 34 18 1) 0 7 (some 33)) 37 (fun _ => none)) 37 38) 0 8 (some 37)) 0 9 (some 46)) 0 10 (some 47)) 0 11 (some 48))
def nS_X10 (F : aS1) : aS1 := ((((nS_X2 ((nS_X3 ((nS_X8 ((nS_X4 ((nS_X0 ((nS_X7 ((nS_X9 (((nS_X1 (F ++ [(7, 0)]) 1 2) ++ [(5, 2)]) ++ [(15, 0)]) 8 9) ++ [(13, 0)]) 10 11 8) ++ [(6, 0)]) 15 16) ++ [(10, 0)]) 18 19 1) ++ [(14, 0)]) 31 32 18) ++ [(9, 0)]) 33 34 18 1) ++ [(8, 0)]) 37 38) ++ [(0, 30)]) ++ [(0, 24)]) ++ [(0, 7)])
set_option maxHeartbeats 4000000 in
set_option maxRecDepth 20000 in
theorem c_X10_init (l0 : Launch) {Ia Ja : aI1} {Ra : aR1}  : CT l0 3 48 6406 mX10_init [kR (some 0)] Ia Ja Ra [(16, 0)] (dV (fun I' J' R' S' => nI_X10 Ia = I' ∧ nJ_X10 Ja = J' ∧ nR_X10 Ra = R' ∧ nS_X10 [(16, 0)] = S')) := by
  refine ct_in pn_X10 (Nat.le_of_ble_eq_true rfl) (fun X hX hT hIn => ?_)
  have hX : aK l0 X cX10_init 1 RX10 none 3 48 6406 := hX
  change WW X 0 [some (kR (some 0))] [] Ia Ja Ra [(16, 0)] 0 0
  refine ww_aload_n hX (pc := 0) dX10_init_0 rfl ?_
  refine ww_objInit hX (pc := 1) tb_26 tb_27 tb_28 (by decide) (Nat.le_of_ble_eq_true rfl) dX10_init_1 ?_
  refine ww_aload_n hX (pc := 4) dX10_init_4 rfl ?_
  refine ww_newz hX (pc := 5) 12 (z := 1) rfl cl_1 tb_29 tb_30 tb_2 rfl (by omega) (by omega) dX10_init_5 ?_
  refine ww_dupR hX (pc := 8) dX10_init_8 ?_
  refine ww_callI hX (pc := 9) (av := []) sX10_9 (c_X1_init l0 (o := 1) (z := 2) rfl rfl) rfl (by decide) (by omega) (by omega) (Nat.le_of_ble_eq_true rfl) dX10_init_9 (fun r_9 I_9 J_9 R_9 S_9 h_9 => ?_)
  obtain ⟨rfl, rfl, rfl, rfl, rfl⟩ := h_9
  refine ww_putR hX (pc := 12) (fun _ => hIn rfl) gX10_10 (by decide) rfl dX10_init_12 ?_
  refine ww_aload_n hX (pc := 15) dX10_init_15 rfl ?_
  refine ww_iconst hX (pc := 16) (x := 2) dX10_init_16 rfl ?_
  refine ww_anewz hX (pc := 17) (N := 2) (z := 7) rfl (Or.inr ⟨rfl, rfl⟩) tb_29 rfl (by omega) (by omega) (by omega) dX10_init_17 ?_
  refine ww_putR hX (pc := 20) (fun _ => hIn rfl) gX10_16 (by decide) rfl dX10_init_20 ?_
  refine ww_aload_n hX (pc := 23) dX10_init_23 rfl ?_
  refine ww_newz hX (pc := 24) 2 (z := 8) rfl cl_9 tb_105 tb_106 tb_4 rfl (by omega) (by omega) dX10_init_24 ?_
  refine ww_dupR hX (pc := 27) dX10_init_27 ?_
  refine ww_callN hX (pc := 28) (av := []) sX10_22 (c_X9_init l0 (o := 8) (z := 9) rfl rfl) rfl (by decide) (by omega) (by omega) (Nat.le_of_ble_eq_true rfl) dX10_init_28 (fun r_28 I_28 J_28 R_28 S_28 h_28 => ?_)
  obtain ⟨rfl, rfl, rfl, rfl, rfl⟩ := h_28
  refine ww_putR hX (pc := 31) (fun _ => hIn rfl) gX10_23 (by decide) rfl dX10_init_31 ?_
  refine ww_aload_n hX (pc := 34) dX10_init_34 rfl ?_
  refine ww_newz hX (pc := 35) 12 (z := 10) rfl cl_7 tb_120 tb_121 tb_5 rfl (by omega) (by omega) dX10_init_35 ?_
  refine ww_dupR hX (pc := 38) dX10_init_38 ?_
  refine ww_aload_n hX (pc := 39) dX10_init_39 rfl ?_
  refine ww_getR hX (pc := 40) fX10_23 (by decide) rfl rfl dX10_init_40 ?_
  refine ww_callI hX (pc := 43) (av := [kR (some 8)]) sX10_29 (c_X7_init l0 (o := 10) (z := 11) rfl rfl) rfl (by decide) (by omega) (by omega) (Nat.le_of_ble_eq_true rfl) dX10_init_43 (fun r_43 I_43 J_43 R_43 S_43 h_43 => ?_)
  obtain ⟨rfl, rfl, rfl, rfl, rfl⟩ := h_43
  refine ww_putR hX (pc := 46) (fun _ => hIn rfl) gX10_32 (by decide) rfl dX10_init_46 ?_
  refine ww_aload_n hX (pc := 49) dX10_init_49 rfl ?_
  refine ww_newz hX (pc := 50) 2 (z := 15) rfl cl_0 tb_164 tb_165 tb_6 rfl (by omega) (by omega) dX10_init_50 ?_
  refine ww_dupR hX (pc := 53) dX10_init_53 ?_
  refine ww_callN hX (pc := 54) (av := []) sX10_38 (c_X0_init l0 (o := 15) (z := 16) rfl rfl) rfl (by decide) (by omega) (by omega) (Nat.le_of_ble_eq_true rfl) dX10_init_54 (fun r_54 I_54 J_54 R_54 S_54 h_54 => ?_)
  obtain ⟨rfl, rfl, rfl, rfl, rfl⟩ := h_54
  refine ww_putR hX (pc := 57) (fun _ => hIn rfl) gX10_39 (by decide) rfl dX10_init_57 ?_
  refine ww_aload_n hX (pc := 60) dX10_init_60 rfl ?_
  refine ww_newz hX (pc := 61) 13 (z := 18) rfl cl_4 tb_178 tb_179 tb_7 rfl (by omega) (by omega) dX10_init_61 ?_
  refine ww_dupR hX (pc := 64) dX10_init_64 ?_
  refine ww_aload_n hX (pc := 65) dX10_init_65 rfl ?_
  refine ww_getR hX (pc := 66) fX10_10 (by decide) rfl rfl dX10_init_66 ?_
  refine ww_callI hX (pc := 69) (av := [kR (some 1)]) sX10_45 (c_X4_init l0 (o := 18) (z := 19) rfl rfl) rfl (by decide) (by omega) (by omega) (Nat.le_of_ble_eq_true rfl) dX10_init_69 (fun r_69 I_69 J_69 R_69 S_69 h_69 => ?_)
  obtain ⟨rfl, rfl, rfl, rfl, rfl⟩ := h_69
  refine ww_putR hX (pc := 72) (fun _ => hIn rfl) gX10_48 (by decide) rfl dX10_init_72 ?_
  refine ww_aload_n hX (pc := 75) dX10_init_75 rfl ?_
  refine ww_newz hX (pc := 76) 2 (z := 31) rfl cl_8 tb_245 tb_246 tb_9 rfl (by omega) (by omega) dX10_init_76 ?_
  refine ww_dupR hX (pc := 79) dX10_init_79 ?_
  refine ww_aload_n hX (pc := 80) dX10_init_80 rfl ?_
  refine ww_getR hX (pc := 81) fX10_48 (by decide) rfl rfl dX10_init_81 ?_
  refine ww_callI hX (pc := 84) (av := [kR (some 18)]) sX10_54 (c_X8_init l0 (o := 31) (z := 32) rfl rfl) rfl (by decide) (by omega) (by omega) (Nat.le_of_ble_eq_true rfl) dX10_init_84 (fun r_84 I_84 J_84 R_84 S_84 h_84 => ?_)
  obtain ⟨rfl, rfl, rfl, rfl, rfl⟩ := h_84
  refine ww_putR hX (pc := 87) (fun _ => hIn rfl) gX10_57 (by decide) rfl dX10_init_87 ?_
  refine ww_aload_n hX (pc := 90) dX10_init_90 rfl ?_
  refine ww_newz hX (pc := 91) 8 (z := 33) rfl cl_3 tb_258 tb_259 tb_10 rfl (by omega) (by omega) dX10_init_91 ?_
  refine ww_dupR hX (pc := 94) dX10_init_94 ?_
  refine ww_aload_n hX (pc := 95) dX10_init_95 rfl ?_
  refine ww_getR hX (pc := 96) fX10_48 (by decide) rfl rfl dX10_init_96 ?_
  refine ww_callI hX (pc := 99) (av := [kR (some 18)]) sX10_63 (c_X3_init l0 (o := 33) (z := 34) rfl rfl (k := 18) (c := 1) rfl rfl (by decide)) rfl (by decide) (by omega) (by omega) (Nat.le_of_ble_eq_true rfl) dX10_init_99 (fun r_99 I_99 J_99 R_99 S_99 h_99 => ?_)
  obtain ⟨rfl, rfl, rfl, rfl, rfl⟩ := h_99
  refine ww_putR hX (pc := 102) (fun _ => hIn rfl) gX10_64 (by decide) rfl dX10_init_102 ?_
  refine ww_aload_n hX (pc := 105) dX10_init_105 rfl ?_
  refine ww_newz hX (pc := 106) 6 (z := 37) rfl cl_2 tb_293 tb_294 tb_11 rfl (by omega) (by omega) dX10_init_106 ?_
  refine ww_dupR hX (pc := 109) dX10_init_109 ?_
  refine ww_callN hX (pc := 110) (av := []) sX10_70 (c_X2_init l0 (o := 37) (z := 38) rfl rfl) rfl (by decide) (by omega) (by omega) (Nat.le_of_ble_eq_true rfl) dX10_init_110 (fun r_110 I_110 J_110 R_110 S_110 h_110 => ?_)
  obtain ⟨rfl, rfl, rfl, rfl, rfl⟩ := h_110
  refine ww_putR hX (pc := 113) (fun _ => hIn rfl) gX10_71 (by decide) rfl dX10_init_113 ?_
  refine ww_aload_n hX (pc := 116) dX10_init_116 rfl ?_
  refine ww_bipush hX (pc := 117) (x := 30) dX10_init_117 (by decide) ?_
  refine ww_na_intz hX (pc := 119) (N := 30) (z := 46) rfl tb_103 rfl (by omega) (by omega) (by omega) dX10_init_119 ?_
  refine ww_putR hX (pc := 121) (fun _ => hIn rfl) gX10_75 (by decide) rfl dX10_init_121 ?_
  refine ww_aload_n hX (pc := 124) dX10_init_124 rfl ?_
  refine ww_bipush hX (pc := 125) (x := 24) dX10_init_125 (by decide) ?_
  refine ww_na_intz hX (pc := 127) (N := 24) (z := 47) rfl tb_103 rfl (by omega) (by omega) (by omega) dX10_init_127 ?_
  refine ww_putR hX (pc := 129) (fun _ => hIn rfl) gX10_79 (by decide) rfl dX10_init_129 ?_
  refine ww_aload_n hX (pc := 132) dX10_init_132 rfl ?_
  refine ww_bipush hX (pc := 133) (x := 7) dX10_init_133 (by decide) ?_
  refine ww_na_intz hX (pc := 135) (N := 7) (z := 48) rfl tb_103 rfl (by omega) (by omega) (by omega) dX10_init_135 ?_
  refine ww_putR hX (pc := 137) (fun _ => hIn rfl) gX10_82 (by decide) rfl dX10_init_137 ?_
  refine ww_aload_n hX (pc := 140) dX10_init_140 rfl ?_
  refine ww_iconst hX (pc := 141) (x := (-1)) dX10_init_141 rfl ?_
  refine ww_putI hX (pc := 142) (fun h9 => absurd h9 (by decide)) gX10_85 rfl rfl dX10_init_142 ?_
  exact ww_vret hX (pc := 145) hT (by omega) (by omega) dX10_init_145 ⟨rfl, rfl, rfl, rfl, rfl⟩
