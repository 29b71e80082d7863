theorem pcn_256 {t : Nat} (h : t < 256) : 8 - pcn t ≤ 256 - t := by
  have h2 : ∀ n : Fin 256, 8 - pcn n.val ≤ 256 - (n.val : Int) := by decide +kernel
  exact h2 ⟨t, h⟩
theorem bv_an (S T : BitVec 32) : S &&& (T ^^^ BitVec.allOnes 32) = 0#32 ↔ S &&& T = S := by
  constructor
  · intro h
    apply BitVec.eq_of_getLsbD_eq
    intro i hi
    have h2 : (S &&& (T ^^^ BitVec.allOnes 32)).getLsbD i = (0#32).getLsbD i := by rw [h]
    rw [BitVec.getLsbD_and, BitVec.getLsbD_xor, BitVec.getLsbD_allOnes, BitVec.getLsbD_zero] at h2
    rw [BitVec.getLsbD_and]
    revert h2
    cases S.getLsbD i <;> cases T.getLsbD i <;> simp [hi]
  · intro h
    apply BitVec.eq_of_getLsbD_eq
    intro i hi
    have h2 : (S &&& T).getLsbD i = S.getLsbD i := by rw [h]
    rw [BitVec.getLsbD_and] at h2
    rw [BitVec.getLsbD_and, BitVec.getLsbD_xor, BitVec.getLsbD_allOnes, BitVec.getLsbD_zero]
    revert h2
    cases S.getLsbD i <;> cases T.getLsbD i <;> simp [hi]
theorem bv_xr (S T : BitVec 32) (h : S &&& T = S) : T &&& (S ^^^ BitVec.allOnes 32) = T ^^^ S := by
  apply BitVec.eq_of_getLsbD_eq
  intro i hi
  have h2 : (S &&& T).getLsbD i = S.getLsbD i := by rw [h]
  rw [BitVec.getLsbD_and] at h2
  rw [BitVec.getLsbD_and, BitVec.getLsbD_xor, BitVec.getLsbD_xor, BitVec.getLsbD_allOnes]
  revert h2
  cases S.getLsbD i <;> cases T.getLsbD i <;> simp [hi]
theorem m1_bv : (Int32.ofInt (-1)).toBitVec = BitVec.allOnes 32 := by decide
theorem canC_iff {s t b : Int} (hs : 0 ≤ s) (hs1 : s < 256) (ht : 0 ≤ t) (ht1 : t < 256) : canC s t b ↔ (s.toNat &&& t.toNat = s.toNat ∧ i_and (i_xor t s) b = 0) := by
  have w0 : ∀ x : Int32, w32 x.toInt = 0 ↔ x = 0 := fun x => by
    unfold w32
    rw [n_of]
    constructor
    · intro h
      have := n_of x
      rw [h] at this
      rw [← this]
      rfl
    · intro h
      rw [h]
      rfl
  have z0 : ∀ x : Int32, x = 0 ↔ x.toBitVec = 0#32 := fun x => ⟨fun h => by rw [h]; rfl, fun h => Int32.toBitVec_inj.1 h⟩
  have e1 : w32 (i_and s (i_xor t (-1))) = 0 ↔ (Int32.ofInt s).toBitVec &&& (Int32.ofInt t).toBitVec = (Int32.ofInt s).toBitVec := by
    unfold i_and
    rw [w0]
    unfold i_xor
    rw [n_of, z0]
    show (Int32.ofInt s).toBitVec &&& ((Int32.ofInt t).toBitVec ^^^ (Int32.ofInt (-1)).toBitVec) = 0#32 ↔ _
    rw [m1_bv]
    exact bv_an _ _
  have e2 : (Int32.ofInt s).toBitVec &&& (Int32.ofInt t).toBitVec = (Int32.ofInt s).toBitVec ↔ s.toNat &&& t.toNat = s.toNat := by
    have ho := o_and s.toNat t.toNat
    rw [show ((s.toNat : Nat) : Int) = s by omega, show ((t.toNat : Nat) : Int) = t by omega] at ho
    have hle : s.toNat &&& t.toNat ≤ s.toNat := Nat.and_le_left
    constructor
    · intro h
      have h1 : Int32.ofInt s &&& Int32.ofInt t = Int32.ofInt s := Int32.toBitVec_inj.1 h
      rw [ho] at h1
      have h2 := congrArg Int32.toInt h1
      have h3 : w32 ((s.toNat &&& t.toNat : Nat) : Int) = w32 s := h2
      rw [w32_id (by omega) (by omega), w32_id (by omega) (by omega)] at h3
      omega
    · intro h
      have h1 : Int32.ofInt s &&& Int32.ofInt t = Int32.ofInt s := by
        rw [ho, h, show ((s.toNat : Nat) : Int) = s by omega]
      exact congrArg Int32.toBitVec h1
  unfold canC
  rw [e1]
  constructor
  · intro ⟨h1, h2⟩
    refine ⟨e2.mp h1, ?_⟩
    have h3 := bv_xr _ _ h1
    have h4 : Int32.ofInt t &&& (Int32.ofInt s ^^^ Int32.ofInt (-1)) = Int32.ofInt t ^^^ Int32.ofInt s := Int32.toBitVec_inj.1 (by
      show (Int32.ofInt t).toBitVec &&& ((Int32.ofInt s).toBitVec ^^^ (Int32.ofInt (-1)).toBitVec) = (Int32.ofInt t).toBitVec ^^^ (Int32.ofInt s).toBitVec
      rw [m1_bv]
      exact h3)
    unfold i_and at h2
    rw [w0] at h2
    rw [n_of] at h2
    unfold i_xor at h2
    rw [n_of, h4] at h2
    unfold i_and i_xor
    rw [n_of, h2]
    rfl
  · intro ⟨h0, h2⟩
    have h1 := e2.mpr h0
    refine ⟨h1, ?_⟩
    have h3 := bv_xr _ _ h1
    have h4 : Int32.ofInt t &&& (Int32.ofInt s ^^^ Int32.ofInt (-1)) = Int32.ofInt t ^^^ Int32.ofInt s := Int32.toBitVec_inj.1 (by
      show (Int32.ofInt t).toBitVec &&& ((Int32.ofInt s).toBitVec ^^^ (Int32.ofInt (-1)).toBitVec) = (Int32.ofInt t).toBitVec ^^^ (Int32.ofInt s).toBitVec
      rw [m1_bv]
      exact h3)
    have h5 : i_and (i_and t (i_xor s (-1))) b = i_and (i_xor t s) b := by
      unfold i_and i_xor
      rw [n_of, n_of, n_of, h4]
    rw [h5, h2]
    rfl
theorem MT_0 {code L : Nat → Int} {g e N x t : Int} (h : t = e + 1) : Mx (fun u => PB code g e N x u ∧ (u : Int) < t) L 0 := Mx_no (fun u hu => by have h1 := hu.1.1; have h2 := hu.2; omega)
theorem MT_no {code L : Nat → Int} {g e N x t v : Int} (h : Mx (fun u => PB code g e N x u ∧ (u : Int) < t) L v) (h0 : 0 ≤ t) (hn : ¬ PB code g e N x t.toNat) : Mx (fun u => PB code g e N x u ∧ (u : Int) < t + 1) L v :=
  Mx_cg h (fun u => ⟨fun hu => ⟨hu.1, by have := hu.2; omega⟩, fun hu => ⟨hu.1, by
    have h2 := hu.2
    refine Decidable.byContradiction (fun h3 => hn ?_)
    rw [show t.toNat = u by omega]
    exact hu.1⟩⟩) (fun _ _ => rfl)
theorem MT_ad {code L : Nat → Int} {g e N x t v : Int} (h : Mx (fun u => PB code g e N x u ∧ (u : Int) < t) L v) (h0 : 0 ≤ t) (hp : PB code g e N x t.toNat) (hL : 0 ≤ L t.toNat) : Mx (fun u => PB code g e N x u ∧ (u : Int) < t + 1) L (max v (1 + L t.toNat)) :=
  Mx_ad h (fun u => ⟨fun hu => by
    by_cases h3 : (u : Int) < t
    · exact Or.inl ⟨hu.1, h3⟩
    · exact Or.inr (by have := hu.2; omega), fun hu => by
    rcases hu with hu | rfl
    · exact ⟨hu.1, by have := hu.2; omega⟩
    · exact ⟨hp, by omega⟩⟩) hL
theorem MT_e {code L : Nat → Int} {g e N x t v : Int} (h : Mx (fun u => PB code g e N x u ∧ (u : Int) < t) L v) (ht : N ≤ t) : Mx (PB code g e N x) L v :=
  Mx_cg h (fun u => ⟨fun hu => hu.1, fun hu => ⟨hu, by have := hu.2.1; omega⟩⟩) (fun _ _ => rfl)
def LJ (code L : Nat → Int) (g e N i v : Int) : Prop := (∀ x : Nat, (x : Int) < i → ¬ (x : Int) = code e.toNat → ∃ w, Mx (PB code g e N x) L w ∧ v ≤ w) ∧ (v = 1000000000 ∨ ∃ x : Nat, (x : Int) < i ∧ ¬ (x : Int) = code e.toNat ∧ Mx (PB code g e N x) L v) ∧ 0 ≤ v ∧ v ≤ 1000000000
theorem LJ_0 {code L : Nat → Int} {g e N : Int} : LJ code L g e N 0 1000000000 := ⟨fun x hx => absurd hx (by omega), Or.inl rfl, by omega, by omega⟩
theorem LJ_no {code L : Nat → Int} {g e N i v : Int} (h : LJ code L g e N i v) (h1 : i = code e.toNat) : LJ code L g e N (i + 1) v :=
  ⟨fun x hx hn => h.1 x (by omega) hn, h.2.1.imp id (fun ⟨x, h2, h3⟩ => ⟨x, by omega, h3⟩), h.2.2⟩
theorem LJ_ge {code L : Nat → Int} {g e N i v w : Int} (h : LJ code L g e N i v) (h0 : 0 ≤ i) (hm : Mx (PB code g e N i) L w) (h1 : v ≤ w) : LJ code L g e N (i + 1) v := by
  refine ⟨fun x hx hn => ?_, h.2.1.imp id (fun ⟨x, h2, h3⟩ => ⟨x, by omega, h3⟩), h.2.2⟩
  by_cases e1 : (x : Int) = i
  · rw [e1]
    exact ⟨w, hm, h1⟩
  · exact h.1 x (by omega) hn
theorem LJ_lt {code L : Nat → Int} {g e N i v w : Int} (h : LJ code L g e N i v) (h0 : 0 ≤ i) (hm : Mx (PB code g e N i) L w) (hi : ¬ i = code e.toNat) (h1 : w < v) (h2 : 0 ≤ w) : LJ code L g e N (i + 1) w := by
  refine ⟨fun x hx hn => ?_, Or.inr ⟨i.toNat, by omega, by omega, by rw [show ((i.toNat : Nat) : Int) = i by omega]; exact hm⟩, h2, by have := h.2.2.2; omega⟩
  by_cases e1 : (x : Int) = i
  · rw [e1]
    exact ⟨w, hm, by omega⟩
  · obtain ⟨u, u1, u2⟩ := h.1 x (by omega) hn
    exact ⟨u, u1, by omega⟩
theorem LJ_e {code L : Nat → Int} {g e N q v : Int} (h : LJ code L g e N q v) (hL : ∀ t : Nat, e < t → (t : Int) < N → 0 ≤ L t ∧ L t ≤ 8 - pcn t) (h0 : 0 ≤ e) (h1 : e < 256) (hN2 : N ≤ 256) (hq : 2 ≤ q) : zLS code L g N q e v ∧ 0 ≤ v ∧ v ≤ 8 - pcn e.toNat := by
  have hb : ∀ (x : Nat) (w : Int), Mx (PB code g e N x) L w → w ≤ 8 - pcn e.toNat := fun x w hw => by
    have hp := pcn_r e.toNat
    rcases hw.2 with h2 | ⟨t, h2, h3⟩
    · omega
    · have h4 := hL t h2.1 h2.2.1
      have h6 := h2.1
      have h7 := h2.2.1
      have h5 := pcn_lt h2.2.2.1 (by omega) (by omega)
      omega
  obtain ⟨x0, hx0, hx1⟩ : ∃ x : Nat, (x : Int) < q ∧ ¬ (x : Int) = code e.toNat := by
    by_cases h2 : code e.toNat = 0
    · exact ⟨1, by omega, by omega⟩
    · exact ⟨0, by omega, by omega⟩
  obtain ⟨w0, a1, a2⟩ := h.1 x0 hx0 hx1
  have a3 := hb x0 w0 a1
  have hp := pcn_r e.toNat
  refine ⟨⟨h.1, ?_⟩, h.2.2.1, by omega⟩
  rcases h.2.1 with h2 | h2
  · omega
  · exact h2
set_option maxHeartbeats 4000000 in
set_option maxRecDepth 20000 in
theorem c5_X11_lastingOf (l0 : Launch) {Ia Ja : aI1} {Ra : aR1} {Sa : aS1} (hL : LY Ra Sa) (hQ : RX Ia) {a b : Int} (ha0 : 0 ≤ a) (ha1 : a ≤ 255) (haN : a ≤ FU (Ia 51 304)) (hcr : ∀ t : Nat, (t : Int) ≤ FU (Ia 51 304) → -1 ≤ Ia 51 t ∧ Ia 51 t ≤ 7) (hlb : ∀ t : Nat, a < t → (t : Int) < (FU (Ia 51 304) + 1) → 0 ≤ Ia 61 t ∧ Ia 61 t ≤ 8 - pcn t)  : CT l0 1 0 0 mX11_lastingOf [kR (some 49), kI a, kI b] Ia Ja Ra Sa (cI (fun x I' J' => Ia = I' ∧ Ja = J' ∧ zLS (Ia 51) (Ia 61) b (FU (Ia 51 304) + 1) (Ia 51 305) a x ∧ 0 ≤ x ∧ x ≤ 8 - pcn a.toNat) Ra Sa) := by
  refine ct_in pn_X11 (Nat.le_of_ble_eq_true rfl) (fun X hX hT hIn => ?_)
  have hX : aK l0 X cX11_lastingOf 7 RX11 (some .int) 1 0 0 := hX
  change WW X 0 [some (kR (some 49)), some (kI a), some (kI b), none, none, none, none] [] Ia Ja Ra Sa 0 0
  have qIa := RX_o hQ
  have hca := hcr a.toNat (by omega)
  refine ww_ldcw hX (pc := 0) (x := 1000000000) dX11_lastingOf_0 tb_1457 ?_
  refine ww_istore_n hX (pc := 3) (lv' := [some (kR (some 49)), some (kI a), some (kI b), some (kI 1000000000), none, none, none]) dX11_lastingOf_3 (by decide) rfl rfl ?_
  refine ww_iconst hX (pc := 4) (x := 0) dX11_lastingOf_4 rfl ?_
  refine ww_istore hX (pc := 5) (lv' := [some (kR (some 49)), some (kI a), some (kI b), some (kI 1000000000), some (kI 0), none, none]) dX11_lastingOf_5 (by decide) rfl rfl ?_
  have hl_7 : ∀ (n_7 : Nat) (le : Int) (i : Int), (Ia 51 305 - i).toNat = n_7 → ((0 ≤ i ∧ i ≤ Ia 51 305) ∧ LJ (Ia 51) (Ia 61) b a (FU (Ia 51 304) + 1) i le) → WW X 7 [some (kR (some 49)), some (kI a), some (kI b), some (kI le), some (kI i), none, none] [] Ia Ja Ra Sa 0 0 := by
    intro n_7
    induction n_7 using Nat.strongRecOn with
    | ind n_7 ih_7 =>
      intro le i hm_7 hv_7
      have hq_7 := Sh0_i hm_7
      clear hm_7
      obtain ⟨hv, hlj⟩ := hv_7
      have hlr := hlj.2.2
      refine ww_iload hX (pc := 7) dX11_lastingOf_7 rfl ?_
      refine ww_aload_n hX (pc := 9) dX11_lastingOf_9 rfl ?_
      refine ww_getR hX (pc := 10) fX11_20 (by decide) (xs_49 hL) (xr_49_3 hL) dX11_lastingOf_10 ?_
      refine ww_sipush hX (pc := 13) (x := 305) dX11_lastingOf_13 (by decide) ?_
      refine ww_iald hX (pc := 16) (xs_51 hL) (by decide) (by omega) (by omega) dX11_lastingOf_16 ?_
      refine ww_toI (b := Ia 51 305) rfl ?_
      refine ww_icmp_ge hX (pc := 17) (tgt := 113) dX11_lastingOf_17 (by decide) (fun h_17 => ?_) (fun h_17 => ?_)
      · simp only [w32_mod] at h_17
        refine ww_iload_n hX (pc := 113) dX11_lastingOf_113 rfl ?_
        refine rI hX (pc := 114) hT (Nat.le_refl 0) (Nat.le_refl 0) dX11_lastingOf_114 ?_
        exact ⟨rfl, rfl, (LJ_e ((show i = Ia 51 305 by omega) ▸ hlj) hlb (by omega) (by omega) (by omega) (by omega))⟩
      · simp only [w32_mod] at h_17
        refine ww_iload hX (pc := 20) dX11_lastingOf_20 rfl ?_
        refine ww_aload_n hX (pc := 22) dX11_lastingOf_22 rfl ?_
        refine ww_iload_n hX (pc := 23) dX11_lastingOf_23 rfl ?_
        refine vI1 hX (pc := 24) sX11_126 (xs_49 hL) (c_X11_readOf l0 hL hQ (by omega) (by omega)) (by decide) (Nat.le_refl 0) (Nat.le_refl 0) (Nat.le_of_ble_eq_true rfl) dX11_lastingOf_24 (fun x_24 I_24 J_24 h_24 => ?_)
        obtain ⟨rfl, rfl, h_24⟩ := h_24
        refine ww_icmp_ne hX (pc := 27) (tgt := 33) dX11_lastingOf_27 (by decide) (fun h_27 => ?_) (fun h_27 => ?_)
        · simp only [w32_mod] at h_27
          refine ww_iconst hX (pc := 33) (x := 0) dX11_lastingOf_33 rfl ?_
          refine ww_istore hX (pc := 34) (lv' := [some (kR (some 49)), some (kI a), some (kI b), some (kI le), some (kI i), some (kI 0), none]) dX11_lastingOf_34 (by decide) rfl rfl ?_
          refine ww_iload_n hX (pc := 36) dX11_lastingOf_36 rfl ?_
          refine ww_iconst hX (pc := 37) (x := 1) dX11_lastingOf_37 rfl ?_
          refine ww_iadd hX (pc := 38) dX11_lastingOf_38 ?_
          refine ww_nmI (fun v_39 hv_39 => ?_)
          refine ww_istore hX (pc := 39) (lv' := [some (kR (some 49)), some (kI a), some (kI b), some (kI le), some (kI i), some (kI 0), some (kI v_39)]) dX11_lastingOf_39 (by decide) rfl rfl ?_
          have hl_41 : ∀ (n_41 : Nat) (bs : Int) (t : Int), (256 - t).toNat = n_41 → ((a + 1 ≤ t ∧ t ≤ (FU (Ia 51 304) + 1) ∧ 0 ≤ bs ∧ bs ≤ 9) ∧ Mx (fun u => PB (Ia 51) b a (FU (Ia 51 304) + 1) i u ∧ (u : Int) < t) (Ia 61) bs) → WW X 41 [some (kR (some 49)), some (kI a), some (kI b), some (kI le), some (kI i), some (kI bs), some (kI t)] [] Ia Ja Ra Sa 0 0 := by
            intro n_41
            induction n_41 using Nat.strongRecOn with
            | ind n_41 ih_41 =>
              intro bs t hm_41 hv_41
              have hq_41 := Sh0_i hm_41
              clear hm_41
              obtain ⟨hu, hmt⟩ := hv_41
              refine ww_iload hX (pc := 41) dX11_lastingOf_41 rfl ?_
              refine ww_aload_n hX (pc := 43) dX11_lastingOf_43 rfl ?_
              refine vI0 hX (pc := 44) sX11_112 (xs_49 hL) (c_X11_states l0 hL hQ ) (by decide) (Nat.le_refl 0) (Nat.le_refl 0) (Nat.le_of_ble_eq_true rfl) dX11_lastingOf_44 (fun x_44 I_44 J_44 h_44 => ?_)
              obtain ⟨rfl, rfl, h_44⟩ := h_44
              refine ww_icmp_ge hX (pc := 47) (tgt := 94) dX11_lastingOf_47 (by decide) (fun h_47 => ?_) (fun h_47 => ?_)
              · simp only [w32_mod] at h_47
                have hmx := MT_e hmt (by omega)
                refine ww_iload hX (pc := 94) dX11_lastingOf_94 rfl ?_
                refine ww_iload_n hX (pc := 96) dX11_lastingOf_96 rfl ?_
                refine ww_icmp_ge hX (pc := 97) (tgt := 105) dX11_lastingOf_97 (by decide) (fun h_97 => ?_) (fun h_97 => ?_)
                · simp only [w32_mod] at h_97
                  refine ww_iload_n hX (pc := 105) dX11_lastingOf_105 rfl ?_
                  refine ww_istore_n hX (pc := 106) (lv' := [some (kR (some 49)), some (kI a), some (kI b), some (kI le), some (kI i), some (kI bs), some (kI t)]) dX11_lastingOf_106 (by decide) rfl rfl ?_
                  refine ww_iinc hX (pc := 107) (lv' := [some (kR (some 49)), some (kI a), some (kI b), some (kI le), some (kI (i + 1)), some (kI bs), some (kI t)]) dX11_lastingOf_107 rfl (by decide) rfl rfl ?_
                  refine ww_goto hX (pc := 110) (tgt := 7) dX11_lastingOf_110 (by decide) ?_
                  refine ww_sub [some (kR (some 49)), some (kI a), some (kI b), some (kI le), some (kI (i + 1)), none, none] (aLe_s (aLe_s (aLe_s (aLe_s (aLe_s (aLe_n (aLe_n aLe_0))))))) ?_
                  exact ih_7 _ (by have hm9 := Sh0_e hq_7; omega) le (i + 1) rfl ⟨⟨by omega, by omega⟩, LJ_ge hlj (by omega) hmx (by omega)⟩
                · simp only [w32_mod] at h_97
                  refine ww_iload hX (pc := 100) dX11_lastingOf_100 rfl ?_
                  refine ww_goto hX (pc := 102) (tgt := 106) dX11_lastingOf_102 (by decide) ?_
                  refine ww_istore_n hX (pc := 106) (lv' := [some (kR (some 49)), some (kI a), some (kI b), some (kI bs), some (kI i), some (kI bs), some (kI t)]) dX11_lastingOf_106 (by decide) rfl rfl ?_
                  refine ww_iinc hX (pc := 107) (lv' := [some (kR (some 49)), some (kI a), some (kI b), some (kI bs), some (kI (i + 1)), some (kI bs), some (kI t)]) dX11_lastingOf_107 rfl (by decide) rfl rfl ?_
                  refine ww_goto hX (pc := 110) (tgt := 7) dX11_lastingOf_110 (by decide) ?_
                  refine ww_sub [some (kR (some 49)), some (kI a), some (kI b), some (kI bs), some (kI (i + 1)), none, none] (aLe_s (aLe_s (aLe_s (aLe_s (aLe_s (aLe_n (aLe_n aLe_0))))))) ?_
                  exact ih_7 _ (by have hm9 := Sh0_e hq_7; omega) bs (i + 1) rfl ⟨⟨by omega, by omega⟩, LJ_lt hlj (by omega) hmx (by omega) (by omega) (by omega)⟩
              · simp only [w32_mod] at h_47
                have hcd := hcr t.toNat (by omega)
                refine ww_aload_n hX (pc := 50) dX11_lastingOf_50 rfl ?_
                refine ww_iload hX (pc := 51) dX11_lastingOf_51 rfl ?_
                refine vI1 hX (pc := 53) sX11_126 (xs_49 hL) (c_X11_readOf l0 hL hQ (by omega) (by omega)) (by decide) (Nat.le_refl 0) (Nat.le_refl 0) (Nat.le_of_ble_eq_true rfl) dX11_lastingOf_53 (fun x_53 I_53 J_53 h_53 => ?_)
                obtain ⟨rfl, rfl, h_53⟩ := h_53
                refine ww_iload hX (pc := 56) dX11_lastingOf_56 rfl ?_
                refine ww_icmp_ne hX (pc := 58) (tgt := 88) dX11_lastingOf_58 (by decide) (fun h_58 => ?_) (fun h_58 => ?_)
                · simp only [w32_mod] at h_58
                  have hnp : ¬ PB (Ia 51) b a (FU (Ia 51 304) + 1) i t.toNat := fun h9 => by have h8 := h9.2.2.2.2; omega
                  refine ww_iinc hX (pc := 88) (lv' := [some (kR (some 49)), some (kI a), some (kI b), some (kI le), some (kI i), some (kI bs), some (kI (t + 1))]) dX11_lastingOf_88 rfl (by decide) rfl rfl ?_
                  refine ww_goto hX (pc := 91) (tgt := 41) dX11_lastingOf_91 (by decide) ?_
                  exact ih_41 _ (by have hm9 := Sh0_e hq_41; omega) bs (t + 1) rfl ⟨by omega, MT_no hmt (by omega) hnp⟩
                · simp only [w32_mod] at h_58
                  refine ww_aload_n hX (pc := 61) dX11_lastingOf_61 rfl ?_
                  refine ww_iload_n hX (pc := 62) dX11_lastingOf_62 rfl ?_
                  refine ww_iload hX (pc := 63) dX11_lastingOf_63 rfl ?_
                  refine ww_iload_n hX (pc := 65) dX11_lastingOf_65 rfl ?_
                  refine vI3 hX (pc := 66) sX11_271 (xs_49 hL) (c_X11_canCome l0 hL hQ ) (by decide) (Nat.le_refl 0) (Nat.le_refl 0) (Nat.le_of_ble_eq_true rfl) dX11_lastingOf_66 (fun x_66 I_66 J_66 h_66 => ?_)
                  obtain ⟨rfl, rfl, h_66⟩ := h_66
                  refine ww_if_eq hX (pc := 69) (tgt := 88) dX11_lastingOf_69 (by decide) (fun h_69 => ?_) (fun h_69 => ?_)
                  · simp only [w32_mod] at h_69
                    have hnp : ¬ PB (Ia 51) b a (FU (Ia 51 304) + 1) i t.toNat := fun h9 => by
                      have h7 := h9.2.2.2.1
                      rw [show ((t.toNat : Nat) : Int) = t by omega] at h7
                      have h8 : canC a t b := (canC_iff (by omega) (by omega) (by omega) (by omega)).mpr ⟨h9.2.2.1, h7⟩
                      have := h_66.2.mpr h8
                      omega
                    refine ww_iinc hX (pc := 88) (lv' := [some (kR (some 49)), some (kI a), some (kI b), some (kI le), some (kI i), some (kI bs), some (kI (t + 1))]) dX11_lastingOf_88 rfl (by decide) rfl rfl ?_
                    refine ww_goto hX (pc := 91) (tgt := 41) dX11_lastingOf_91 (by decide) ?_
                    exact ih_41 _ (by have hm9 := Sh0_e hq_41; omega) bs (t + 1) rfl ⟨by omega, MT_no hmt (by omega) hnp⟩
                  · simp only [w32_mod] at h_69
                    have hcc := (canC_iff (by omega) (by omega) (by omega) (by omega)).mp (h_66.2.mp (by omega))
                    have hpb : PB (Ia 51) b a (FU (Ia 51 304) + 1) i t.toNat := ⟨by omega, by omega, hcc.1, by rw [show ((t.toNat : Nat) : Int) = t by omega]; exact hcc.2, by omega⟩
                    have hlt := hlb t.toNat (by omega) (by omega)
                    have hpr := pcn_r t.toNat
                    refine ww_iload hX (pc := 72) dX11_lastingOf_72 rfl ?_
                    refine ww_iconst hX (pc := 74) (x := 1) dX11_lastingOf_74 rfl ?_
                    refine ww_aload_n hX (pc := 75) dX11_lastingOf_75 rfl ?_
                    refine ww_getR hX (pc := 76) fX11_55 (by decide) (xs_49 hL) (xr_49_23 hL) dX11_lastingOf_76 ?_
                    refine ww_iload hX (pc := 79) dX11_lastingOf_79 rfl ?_
                    refine ww_iald hX (pc := 81) (xs_61 hL) (by decide) (by omega) (by omega) dX11_lastingOf_81 ?_
                    refine ww_iadd hX (pc := 82) dX11_lastingOf_82 ?_
                    refine sI2 hX (pc := 83) sX11_132 (c_X11_greater l0 (by omega) (by omega) (by omega) (by omega)) (by decide) (Nat.le_refl 0) (Nat.le_refl 0) (Nat.le_of_ble_eq_true rfl) dX11_lastingOf_83 (fun x_83 I_83 J_83 h_83 => ?_)
                    obtain ⟨rfl, rfl, h_83⟩ := h_83
                    refine ww_istore hX (pc := 86) (lv' := [some (kR (some 49)), some (kI a), some (kI b), some (kI le), some (kI i), some (kI x_83), some (kI t)]) dX11_lastingOf_86 (by decide) rfl rfl ?_
                    refine ww_iinc hX (pc := 88) (lv' := [some (kR (some 49)), some (kI a), some (kI b), some (kI le), some (kI i), some (kI x_83), some (kI (t + 1))]) dX11_lastingOf_88 rfl (by decide) rfl rfl ?_
                    refine ww_goto hX (pc := 91) (tgt := 41) dX11_lastingOf_91 (by decide) ?_
                    exact ih_41 _ (by have hm9 := Sh0_e hq_41; omega) x_83 (t + 1) rfl ⟨by omega, (by rw [h_83]; exact MT_ad hmt (by omega) hpb (by omega))⟩
          exact hl_41 _ 0 v_39 rfl ⟨by omega, MT_0 (by omega)⟩
        · simp only [w32_mod] at h_27
          refine ww_goto hX (pc := 30) (tgt := 107) dX11_lastingOf_30 (by decide) ?_
          refine ww_iinc hX (pc := 107) (lv' := [some (kR (some 49)), some (kI a), some (kI b), some (kI le), some (kI (i + 1)), none, none]) dX11_lastingOf_107 rfl (by decide) rfl rfl ?_
          refine ww_goto hX (pc := 110) (tgt := 7) dX11_lastingOf_110 (by decide) ?_
          exact ih_7 _ (by have hm9 := Sh0_e hq_7; omega) le (i + 1) rfl ⟨⟨by omega, by omega⟩, LJ_no hlj (by omega)⟩
  exact hl_7 _ 1000000000 0 rfl ⟨⟨by omega, by omega⟩, LJ_0⟩
set_option maxHeartbeats 4000000 in
set_option maxRecDepth 20000 in
theorem c5_X11_lasts0 (l0 : Launch) {Ia Ja : aI1} {Ra : aR1} {Sa : aS1} (hL : LY Ra Sa) (hQ : RX Ia) {a : Int} (hcr : ∀ t : Nat, (t : Int) ≤ FU (Ia 51 304) → -1 ≤ Ia 51 t ∧ Ia 51 t ≤ 7)  : CT l0 2 0 0 mX11_lasts0 [kR (some 49), kI a] Ia Ja Ra Sa (cV (fun I' J' => Ch [61] [] Ia I' ∧ Kp 49 73 Ja J' ∧ RX I' ∧ I' 51 = Ia 51 ∧ zLV (Ia 51) a (FU (Ia 51 304) + 1) (Ia 51 305) (-1) (I' 61)) Ra Sa) := by
  refine ct_in pn_X11 (Nat.le_of_ble_eq_true rfl) (fun X hX hT hIn => ?_)
  have hX : aK l0 X cX11_lasts0 3 RX11 none 2 0 0 := hX
  change WW X 0 [some (kR (some 49)), some (kI a), none] [] Ia Ja Ra Sa 0 0
  have qIa := RX_o hQ
  refine ww_aload_n hX (pc := 0) dX11_lasts0_0 rfl ?_
  refine vI0 hX (pc := 1) sX11_112 (xs_49 hL) (c_X11_states l0 hL hQ ) (by decide) (Nat.le_refl 0) (Nat.le_refl 0) (Nat.le_of_ble_eq_true rfl) dX11_lasts0_1 (fun x_1 I_1 J_1 h_1 => ?_)
  obtain ⟨rfl, rfl, h_1⟩ := h_1
  refine ww_iconst hX (pc := 4) (x := 1) dX11_lasts0_4 rfl ?_
  refine ww_isub hX (pc := 5) dX11_lasts0_5 ?_
  refine ww_nmI (fun v_6 hv_6 => ?_)
  refine ww_istore_n hX (pc := 6) (lv' := [some (kR (some 49)), some (kI a), some (kI v_6)]) dX11_lasts0_6 (by decide) rfl rfl ?_
  have hl_7 : ∀ (n_7 : Nat) (i : Int) (I7 : aI1) (J7 : aI1), (i + 1).toNat = n_7 → (Ch [61] [] Ia I7 ∧ RX I7 ∧ Kp 49 73 Ja J7 ∧ I7 51 304 = Ia 51 304 ∧ I7 51 305 = Ia 51 305 ∧ (-1 ≤ i ∧ i ≤ FU (Ia 51 304)) ∧ I7 51 = Ia 51 ∧ zLV (Ia 51) a (FU (Ia 51 304) + 1) (Ia 51 305) i (I7 61)) → WW X 7 [some (kR (some 49)), some (kI a), some (kI i)] [] I7 J7 Ra Sa 0 0 := by
    intro n_7
    induction n_7 using Nat.strongRecOn with
    | ind n_7 ih_7 =>
      intro i I7 J7 hm_7 hv_7
      have hq_7 := Sh0_i hm_7
      clear hm_7
      obtain ⟨kI7, cI7, kJ7, r304_I7, r305_I7, hv, e51, hlv⟩ := hv_7
      have qI7 := RX_o cI7
      have rf_I7 : FU (I7 51 304) = FU (Ia 51 304) := by rw [r304_I7]
      refine ww_iload_n hX (pc := 7) dX11_lasts0_7 rfl ?_
      refine ww_if_lt hX (pc := 8) (tgt := 29) dX11_lasts0_8 (by decide) (fun h_8 => ?_) (fun h_8 => ?_)
      · simp only [w32_mod] at h_8
        refine rV hX (pc := 29) hT (Nat.le_refl 0) (Nat.le_refl 0) dX11_lasts0_29 ?_
        exact ⟨kI7, kJ7, cI7, e51, (show i = -1 by omega) ▸ hlv⟩
      · simp only [w32_mod] at h_8
        refine ww_aload_n hX (pc := 11) dX11_lasts0_11 rfl ?_
        refine ww_getR hX (pc := 12) fX11_55 (by decide) (xs_49 hL) (xr_49_23 hL) dX11_lasts0_12 ?_
        refine ww_iload_n hX (pc := 15) dX11_lasts0_15 rfl ?_
        refine ww_aload_n hX (pc := 16) dX11_lasts0_16 rfl ?_
        refine ww_iload_n hX (pc := 17) dX11_lasts0_17 rfl ?_
        refine ww_iload_n hX (pc := 18) dX11_lasts0_18 rfl ?_
        refine vI2 hX (pc := 19) sX11_291 (xs_49 hL) (c5_X11_lastingOf l0 hL cI7 (by omega) (by omega) (by omega) (fun t ht => by rw [e51]; rw [e51] at ht; exact hcr t ht) (fun t h1 h2 => (hlv t h1 (by rw [e51] at h2; exact h2)).2)) (by decide) (Nat.le_refl 0) (Nat.le_refl 0) (Nat.le_of_ble_eq_true rfl) dX11_lasts0_19 (fun x_19 I_19 J_19 h_19 => ?_)
        obtain ⟨rfl, rfl, h_19⟩ := h_19
        rw [e51] at h_19
        have hpi := pcn_256 (t := i.toNat) (by omega)
        refine ww_iast hX (pc := 22) (xs_61 hL) (by decide) (by omega) (by omega) dX11_lasts0_22 ?_
        refine ww_nmH (fun I_22 eI_22 => ?_)
        have kI_22 : Ch [61] [] Ia I_22 := by rw [eI_22]; exact Ch_r kI7 (by decide) (by decide)
        have cI_22 : RX I_22 := by rw [eI_22]; exact RX_61 cI7 (by omega) (by omega)
        have qI_22 := RX_o cI_22
        have r304_I_22 : I_22 51 304 = I7 51 304 := by rw [eI_22, up2_off _ _ _ (by decide)]
        have r305_I_22 : I_22 51 305 = I7 51 305 := by rw [eI_22, up2_off _ _ _ (by decide)]
        have rf_I_22 : FU (I_22 51 304) = FU (I7 51 304) := by rw [r304_I_22]
        have e22 : I_22 51 = Ia 51 := by rw [eI_22, up2_off _ _ _ (by decide)]; exact e51
        refine ww_iinc hX (pc := 23) (lv' := [some (kR (some 49)), some (kI a), some (kI (i + (-1)))]) dX11_lasts0_23 rfl (by decide) rfl rfl ?_
        refine ww_goto hX (pc := 26) (tgt := 7) dX11_lasts0_26 (by decide) ?_
        exact ih_7 _ (by have hm9 := Sh0_e hq_7; omega) (i + (-1)) I_22 J7 rfl ⟨kI_22, cI_22, kJ7, by omega, by omega, ⟨by omega, by omega⟩, e22, (by rw [eI_22, up2_row]; exact zLV_step hlv (by omega) h_19 (by omega))⟩
  exact hl_7 _ v_6 Ia Ja rfl ⟨Ch_rf, hQ, (Kp_rf (a := 49) (b := 73)), rfl, rfl, ⟨by omega, by omega⟩, rfl, fun s h1 h2 => absurd h2 (by omega)⟩
