/-- a law that was learnt: its object, its steps and its marks stand side by side -/
def LawOK (I : aI1) (R : aR1) (S : aS1) (w : Nat) : Prop := 73 ≤ w ∧ S[w]? = some (12, 0) ∧ R w 0 = some (w + 1) ∧ R w 1 = some (w + 2) ∧ (0 ≤ I w 2 ∧ I w 2 ≤ 1000) ∧ (∃ n, n ≤ 400 ∧ S[w + 1]? = some (0, n) ∧ ∀ j, j < n → -10000 ≤ I (w + 1) j ∧ I (w + 1) j ≤ 10000) ∧ (∃ n, n ≤ 25 ∧ S[w + 2]? = some (0, n) ∧ ∀ j, j < n → -10000 ≤ I (w + 2) j ∧ I (w + 2) j ≤ 10000)
set_option maxHeartbeats 4000000 in
set_option maxRecDepth 20000 in
theorem c_J7_copyOf_59c91 (l0 : Launch) {Ia Ja : aI1} {Ra : aR1} {Sa : aS1} {k n0 N z : Nat} {n : Int} (hs : Sa[k]? = some (0, n0)) (hz : Sa.length = z) (hn : n = (N : Int)) (hN : N ≤ n0) (h0 : n0 ≤ 65536)  : CT l0 1 1 N mJ7_copyOf_59c91 [kR (some k), kI n] Ia Ja Ra Sa (dR (fun x I' J' R' S' => x = some z ∧ Ja = J' ∧ Ra = R' ∧ Sa ++ [(0, N)] = S' ∧ (∀ a, a ≠ z → I' a = Ia a) ∧ ∀ j, j < N → I' z j = Ia k j)) := by
  refine ct_in pn_J7 (Nat.le_of_ble_eq_true rfl) (fun X hX hT hIn => ?_)
  have hX : aK l0 X cJ7_copyOf_59c91 3 RJ7 (some (.array .int)) 1 1 N := hX
  change WW X 0 [some (kR (some k)), some (kI n), none] [] Ia Ja Ra Sa 0 0
  have hkz : k < z := by rw [← hz]; exact (List.getElem?_eq_some_iff.mp hs).1
  refine ww_iload_n hX (pc := 0) dJ7_copyOf_59c91_0 rfl ?_
  refine ww_aload_n hX (pc := 1) dJ7_copyOf_59c91_1 rfl ?_
  refine ww_alen hX (pc := 2) (by decide) hs dJ7_copyOf_59c91_2 ?_
  refine ww_icmp_ne hX (pc := 3) (tgt := 14) dJ7_copyOf_59c91_3 (by decide) (fun h_3 => ?_) (fun h_3 => ?_)
  · simp only [w32_mod] at h_3
    refine ww_iload_n hX (pc := 14) dJ7_copyOf_59c91_14 rfl ?_
    refine ww_na_intz hX (pc := 15) (N := N) (z := z) hz tb_103 (by omega) (by omega) (by omega) (by omega) dJ7_copyOf_59c91_15 ?_
    refine ww_nmH (fun I_15 eI_15 => ?_)
    refine ww_astore_n hX (pc := 17) (lv' := [some (kR (some k)), some (kI n), some (kR (some z))]) dJ7_copyOf_59c91_17 (by decide) rfl rfl ?_
    refine ww_aload_n hX (pc := 18) dJ7_copyOf_59c91_18 rfl ?_
    refine ww_iconst hX (pc := 19) (x := 0) dJ7_copyOf_59c91_19 rfl ?_
    refine ww_aload_n hX (pc := 20) dJ7_copyOf_59c91_20 rfl ?_
    refine ww_iconst hX (pc := 21) (x := 0) dJ7_copyOf_59c91_21 rfl ?_
    refine ww_aload_n hX (pc := 22) dJ7_copyOf_59c91_22 rfl ?_
    refine ww_alen hX (pc := 23) (by decide) (sz_l hs) dJ7_copyOf_59c91_23 ?_
    refine ww_iload_n hX (pc := 24) dJ7_copyOf_59c91_24 rfl ?_
    refine ww_mmin hX (pc := 25) tb_660 tb_579 tb_13 tb_580 (by decide) (by omega) (by omega) (Nat.le_of_ble_eq_true rfl) dJ7_copyOf_59c91_25 ?_
    refine ww_toI (b := n) (by rw [i_min_r (by omega) (by omega) (by omega) (by omega)]; omega) ?_
    refine ww_copy hX (pc := 28) tb_661 tb_663 tb_662 tb_19 (sz_l hs) (sz_n hz) (by omega) (by omega) (by omega) (by omega) (by omega) (by omega) (by omega) (by decide) (Nat.le_of_ble_eq_true rfl) dJ7_copyOf_59c91_28 ?_
    refine ww_nmH (fun I_28 eI_28 => ?_)
    refine ww_aload_n hX (pc := 31) dJ7_copyOf_59c91_31 rfl ?_
    refine ww_aret hX (pc := 32) hT (Or.inr ⟨_, rfl⟩) (by omega) (by omega) dJ7_copyOf_59c91_32 ?_
    exact ⟨_, rfl, rfl, rfl, rfl, rfl, fun a ha => by rw [eI_28, upR_n _ _ ha, eI_15, upR_n _ _ ha], fun j hj => by
      rw [eI_28, upR_s]
      unfold va_cpy
      rw [if_pos ⟨Nat.zero_le _, by show j < 0 + n.toNat; omega⟩, eI_15, upR_n _ _ (by omega)]
      congr 1
      show 0 + (j - 0) = j
      omega⟩
  · simp only [w32_mod] at h_3
    obtain rfl : N = n0 := by omega
    refine ww_aload_n hX (pc := 6) dJ7_copyOf_59c91_6 rfl ?_
    refine ww_clonez hX (pc := 7) (z := z) hz tk_link hs (by decide) (Nat.le_of_ble_eq_true rfl) (by omega) (by omega) dJ7_copyOf_59c91_7 ?_
    refine ww_nmH (fun I_7 eI_7 => ?_)
    refine ww_castI hX (pc := 10) tb_659 (sz_n hz) dJ7_copyOf_59c91_10 ?_
    refine ww_aret hX (pc := 13) hT (Or.inr ⟨_, rfl⟩) (by omega) (by omega) dJ7_copyOf_59c91_13 ?_
    exact ⟨_, rfl, rfl, rfl, rfl, rfl, fun a ha => by rw [eI_7, upR_n _ _ ha], fun j hj => by rw [eI_7, upR_s]⟩
set_option maxHeartbeats 4000000 in
set_option maxRecDepth 20000 in
theorem c_X6_init (l0 : Launch) {Ia Ja : aI1} {Ra : aR1} {Sa : aS1} {o a b : Nat} {c : Int} (ho : Sa[o]? = some (12, 0))  : CT l0 1 0 0 mX6_init [kR (some o), kR (some a), kR (some b), kI c] Ia Ja Ra Sa (dV (fun I' J' R' S' => up2 Ia o 2 c = I' ∧ Ja = J' ∧ up2 (up2 Ra o 0 (some a)) o 1 (some b) = R' ∧ Sa = S')) := by
  refine ct_in pn_X6 (Nat.le_of_ble_eq_true rfl) (fun X hX hT hIn => ?_)
  have hX : aK l0 X cX6_init 4 RX6 none 1 0 0 := hX
  change WW X 0 [some (kR (some o)), some (kR (some a)), some (kR (some b)), some (kI c)] [] Ia Ja Ra Sa 0 0
  refine ww_aload_n hX (pc := 0) dX6_init_0 rfl ?_
  refine ww_objInit hX (pc := 1) tb_667 tb_27 tb_28 (by decide) (Nat.le_of_ble_eq_true rfl) dX6_init_1 ?_
  refine ww_aload_n hX (pc := 4) dX6_init_4 rfl ?_
  refine ww_aload_n hX (pc := 5) dX6_init_5 rfl ?_
  refine ww_putR hX (pc := 6) (fun _ => hIn rfl) gX6_7 (by decide) ho dX6_init_6 ?_
  refine ww_aload_n hX (pc := 9) dX6_init_9 rfl ?_
  refine ww_aload_n hX (pc := 10) dX6_init_10 rfl ?_
  refine ww_putR hX (pc := 11) (fun _ => hIn rfl) gX6_13 (by decide) ho dX6_init_11 ?_
  refine ww_aload_n hX (pc := 14) dX6_init_14 rfl ?_
  refine ww_iload_n hX (pc := 15) dX6_init_15 rfl ?_
  refine ww_putI hX (pc := 16) (fun _ => hIn rfl) gX6_16 rfl ho dX6_init_16 ?_
  exact ww_vret hX (pc := 19) hT (by omega) (by omega) dX6_init_19 ⟨rfl, rfl, rfl, rfl, rfl⟩
