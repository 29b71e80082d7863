section
theorem pcn_256 {t : Nat} (h : t < 256) : 8 - pcn t ≤ 256 - t := by
  have h2 : ∀ n : Fin 256, 8 - pcn n.val ≤ 256 - (n.val : Int) := by decide +kernel
  exact h2 ⟨t, h⟩
theorem bv_an (S T : BitVec 32) : S &&& (T ^^^ BitVec.allOnes 32) = 0#32 ↔ S &&& T = S := by
  constructor
  · intro h
    apply BitVec.eq_of_getLsbD_eq
    intro i hi
    have h2 : (S &&& (T ^^^ BitVec.allOnes 32)).getLsbD i = (0#32).getLsbD i := by rw [h]
    rw [BitVec.getLsbD_and, BitVec.getLsbD_xor, BitVec.getLsbD_allOnes, BitVec.getLsbD_zero] at h2
    rw [BitVec.getLsbD_and]
    revert h2
    cases S.getLsbD i <;> cases T.getLsbD i <;> simp [hi]
  · intro h
    apply BitVec.eq_of_getLsbD_eq
    intro i hi
    have h2 : (S &&& T).getLsbD i = S.getLsbD i := by rw [h]
    rw [BitVec.getLsbD_and] at h2
    rw [BitVec.getLsbD_and, BitVec.getLsbD_xor, BitVec.getLsbD_allOnes, BitVec.getLsbD_zero]
    revert h2
    cases S.getLsbD i <;> cases T.getLsbD i <;> simp [hi]
theorem bv_xr (S T : BitVec 32) (h : S &&& T = S) : T &&& (S ^^^ BitVec.allOnes 32) = T ^^^ S := by
  apply BitVec.eq_of_getLsbD_eq
  intro i hi
  have h2 : (S &&& T).getLsbD i = S.getLsbD i := by rw [h]
  rw [BitVec.getLsbD_and] at h2
  rw [BitVec.getLsbD_and, BitVec.getLsbD_xor, BitVec.getLsbD_xor, BitVec.getLsbD_allOnes]
  revert h2
  cases S.getLsbD i <;> cases T.getLsbD i <;> simp [hi]
theorem m1_bv : (Int32.ofInt (-1)).toBitVec = BitVec.allOnes 32 := by decide
theorem canC_iff {s t b : Int} (hs : 0 ≤ s) (hs1 : s < 256) (ht : 0 ≤ t) (ht1 : t < 256) : canC s t b ↔ (s.toNat &&& t.toNat = s.toNat ∧ i_and (i_xor t s) b = 0) := by
  have w0 : ∀ x : Int32, w32 x.toInt = 0 ↔ x = 0 := fun x => by
    unfold w32
    rw [n_of]
    constructor
    · intro h
      have := n_of x
      rw [h] at this
      rw [← this]
      rfl
    · intro h
      rw [h]
      rfl
  have z0 : ∀ x : Int32, x = 0 ↔ x.toBitVec = 0#32 := fun x => ⟨fun h => by rw [h]; rfl, fun h => Int32.toBitVec_inj.1 h⟩
  have e1 : w32 (i_and s (i_xor t (-1))) = 0 ↔ (Int32.ofInt s).toBitVec &&& (Int32.ofInt t).toBitVec = (Int32.ofInt s).toBitVec := by
    unfold i_and
    rw [w0]
    unfold i_xor
    rw [n_of, z0]
    show (Int32.ofInt s).toBitVec &&& ((Int32.ofInt t).toBitVec ^^^ (Int32.ofInt (-1)).toBitVec) = 0#32 ↔ _
    rw [m1_bv]
    exact bv_an _ _
  have e2 : (Int32.ofInt s).toBitVec &&& (Int32.ofInt t).toBitVec = (Int32.ofInt s).toBitVec ↔ s.toNat &&& t.toNat = s.toNat := by
    have ho := o_and s.toNat t.toNat
    rw [show ((s.toNat : Nat) : Int) = s by omega, show ((t.toNat : Nat) : Int) = t by omega] at ho
    have hle : s.toNat &&& t.toNat ≤ s.toNat := Nat.and_le_left
    constructor
    · intro h
      have h1 : Int32.ofInt s &&& Int32.ofInt t = Int32.ofInt s := Int32.toBitVec_inj.1 h
      rw [ho] at h1
      have h2 := congrArg Int32.toInt h1
      have h3 : w32 ((s.toNat &&& t.toNat : Nat) : Int) = w32 s := h2
      rw [w32_id (by omega) (by omega), w32_id (by omega) (by omega)] at h3
      omega
    · intro h
      have h1 : Int32.ofInt s &&& Int32.ofInt t = Int32.ofInt s := by
        rw [ho, h, show ((s.toNat : Nat) : Int) = s by omega]
      exact congrArg Int32.toBitVec h1
  unfold canC
  rw [e1]
  constructor
  · intro ⟨h1, h2⟩
    refine ⟨e2.mp h1, ?_⟩
    have h3 := bv_xr _ _ h1
    have h4 : Int32.ofInt t &&& (Int32.ofInt s ^^^ Int32.ofInt (-1)) = Int32.ofInt t ^^^ Int32.ofInt s := Int32.toBitVec_inj.1 (by
      show (Int32.ofInt t).toBitVec &&& ((Int32.ofInt s).toBitVec ^^^ (Int32.ofInt (-1)).toBitVec) = (Int32.ofInt t).toBitVec ^^^ (Int32.ofInt s).toBitVec
      rw [m1_bv]
      exact h3)
    unfold i_and at h2
    rw [w0] at h2
    rw [n_of] at h2
    unfold i_xor at h2
    rw [n_of, h4] at h2
    unfold i_and i_xor
    rw [n_of, h2]
    rfl
  · intro ⟨h0, h2⟩
    have h1 := e2.mpr h0
    refine ⟨h1, ?_⟩
    have h3 := bv_xr _ _ h1
    have h4 : Int32.ofInt t &&& (Int32.ofInt s ^^^ Int32.ofInt (-1)) = Int32.ofInt t ^^^ Int32.ofInt s := Int32.toBitVec_inj.1 (by
      show (Int32.ofInt t).toBitVec &&& ((Int32.ofInt s).toBitVec ^^^ (Int32.ofInt (-1)).toBitVec) = (Int32.ofInt t).toBitVec ^^^ (Int32.ofInt s).toBitVec
      rw [m1_bv]
      exact h3)
    have h5 : i_and (i_and t (i_xor s (-1))) b = i_and (i_xor t s) b := by
      unfold i_and i_xor
      rw [n_of, n_of, n_of, h4]
    rw [h5, h2]
    rfl
theorem MT_0 {code L : Nat → Int} {g e N x t : Int} (h : t = e + 1) : Mx (fun u => PB code g e N x u ∧ (u : Int) < t) L 0 := Mx_no (fun u hu => by have h1 := hu.1.1; have h2 := hu.2; omega)
theorem MT_no {code L : Nat → Int} {g e N x t v : Int} (h : Mx (fun u => PB code g e N x u ∧ (u : Int) < t) L v) (h0 : 0 ≤ t) (hn : ¬ PB code g e N x t.toNat) : Mx (fun u => PB code g e N x u ∧ (u : Int) < t + 1) L v :=
  Mx_cg h (fun u => ⟨fun hu => ⟨hu.1, by have := hu.2; omega⟩, fun hu => ⟨hu.1, by
    have h2 := hu.2
    refine Decidable.byContradiction (fun h3 => hn ?_)
    rw [show t.toNat = u by omega]
    exact hu.1⟩⟩) (fun _ _ => rfl)
theorem MT_ad {code L : Nat → Int} {g e N x t v : Int} (h : Mx (fun u => PB code g e N x u ∧ (u : Int) < t) L v) (h0 : 0 ≤ t) (hp : PB code g e N x t.toNat) (hL : 0 ≤ L t.toNat) : Mx (fun u => PB code g e N x u ∧ (u : Int) < t + 1) L (max v (1 + L t.toNat)) :=
  Mx_ad h (fun u => ⟨fun hu => by
    by_cases h3 : (u : Int) < t
    · exact Or.inl ⟨hu.1, h3⟩
    · exact Or.inr (by have := hu.2; omega), fun hu => by
    rcases hu with hu | rfl
    · exact ⟨hu.1, by have := hu.2; omega⟩
    · exact ⟨hp, by omega⟩⟩) hL
theorem MT_e {code L : Nat → Int} {g e N x t v : Int} (h : Mx (fun u => PB code g e N x u ∧ (u : Int) < t) L v) (ht : N ≤ t) : Mx (PB code g e N x) L v :=
  Mx_cg h (fun u => ⟨fun hu => hu.1, fun hu => ⟨hu, by have := hu.2.1; omega⟩⟩) (fun _ _ => rfl)
def LJ (code L : Nat → Int) (g e N i v : Int) : Prop := (∀ x : Nat, (x : Int) < i → ¬ (x : Int) = code e.toNat → ∃ w, Mx (PB code g e N x) L w ∧ v ≤ w) ∧ (v = 1000000000 ∨ ∃ x : Nat, (x : Int) < i ∧ ¬ (x : Int) = code e.toNat ∧ Mx (PB code g e N x) L v) ∧ 0 ≤ v ∧ v ≤ 1000000000
theorem LJ_0 {code L : Nat → Int} {g e N : Int} : LJ code L g e N 0 1000000000 := ⟨fun x hx => absurd hx (by omega), Or.inl rfl, by omega, by omega⟩
theorem LJ_no {code L : Nat → Int} {g e N i v : Int} (h : LJ code L g e N i v) (h1 : i = code e.toNat) : LJ code L g e N (i + 1) v :=
  ⟨fun x hx hn => h.1 x (by omega) hn, h.2.1.imp id (fun ⟨x, h2, h3⟩ => ⟨x, by omega, h3⟩), h.2.2⟩
theorem LJ_ge {code L : Nat → Int} {g e N i v w : Int} (h : LJ code L g e N i v) (h0 : 0 ≤ i) (hm : Mx (PB code g e N i) L w) (h1 : v ≤ w) : LJ code L g e N (i + 1) v := by
  refine ⟨fun x hx hn => ?_, h.2.1.imp id (fun ⟨x, h2, h3⟩ => ⟨x, by omega, h3⟩), h.2.2⟩
  by_cases e1 : (x : Int) = i
  · rw [e1]
    exact ⟨w, hm, h1⟩
  · exact h.1 x (by omega) hn
theorem LJ_lt {code L : Nat → Int} {g e N i v w : Int} (h : LJ code L g e N i v) (h0 : 0 ≤ i) (hm : Mx (PB code g e N i) L w) (hi : ¬ i = code e.toNat) (h1 : w < v) (h2 : 0 ≤ w) : LJ code L g e N (i + 1) w := by
  refine ⟨fun x hx hn => ?_, Or.inr ⟨i.toNat, by omega, by omega, by rw [show ((i.toNat : Nat) : Int) = i by omega]; exact hm⟩, h2, by have := h.2.2.2; omega⟩
  by_cases e1 : (x : Int) = i
  · rw [e1]
    exact ⟨w, hm, by omega⟩
  · obtain ⟨u, u1, u2⟩ := h.1 x (by omega) hn
    exact ⟨u, u1, by omega⟩
theorem LJ_e {code L : Nat → Int} {g e N q v : Int} (h : LJ code L g e N q v) (hL : ∀ t : Nat, e < t → (t : Int) < N → 0 ≤ L t ∧ L t ≤ 8 - pcn t) (h0 : 0 ≤ e) (h1 : e < 256) (hN2 : N ≤ 256) (hq : 2 ≤ q) : zLS code L g N q e v ∧ 0 ≤ v ∧ v ≤ 8 - pcn e.toNat := by
  have hb : ∀ (x : Nat) (w : Int), Mx (PB code g e N x) L w → w ≤ 8 - pcn e.toNat := fun x w hw => by
    have hp := pcn_r e.toNat
    rcases hw.2 with h2 | ⟨t, h2, h3⟩
    · omega
    · have h4 := hL t h2.1 h2.2.1
      have h6 := h2.1
      have h7 := h2.2.1
      have h5 := pcn_lt h2.2.2.1 (by omega) (by omega)
      omega
  obtain ⟨x0, hx0, hx1⟩ : ∃ x : Nat, (x : Int) < q ∧ ¬ (x : Int) = code e.toNat := by
    by_cases h2 : code e.toNat = 0
    · exact ⟨1, by omega, by omega⟩
    · exact ⟨0, by omega, by omega⟩
  obtain ⟨w0, a1, a2⟩ := h.1 x0 hx0 hx1
  have a3 := hb x0 w0 a1
  have hp := pcn_r e.toNat
  refine ⟨⟨h.1, ?_⟩, h.2.2.1, by omega⟩
  rcases h.2.1 with h2 | h2
  · omega
  · exact h2
set_option maxHeartbeats 4000000 in
set_option maxRecDepth 20000 in
theorem c5_X11_lastingOf (l0 : Launch) {Ia Ja : aI1} {Ra : aR1} {Sa : aS1} (hL : LY Ra Sa) (hQ : RX Ia) {a b : Int} (ha0 : 0 ≤ a) (ha1 : a ≤ 255) (haN : a ≤ FU (Ia 51 304)) (hcr : ∀ t : Nat, (t : Int) ≤ FU (Ia 51 304) → -1 ≤ Ia 51 t ∧ Ia 51 t ≤ 7) (hlb : ∀ t : Nat, a < t → (t : Int) < (FU (Ia 51 304) + 1) → 0 ≤ Ia 61 t ∧ Ia 61 t ≤ 8 - pcn t)  : CT l0 1 0 0 mX11_lastingOf [kR (some 49), kI a, kI b] Ia Ja Ra Sa (cI (fun x I' J' => Ia = I' ∧ Ja = J' ∧ zLS (Ia 51) (Ia 61) b (FU (Ia 51 304) + 1) (Ia 51 305) a x ∧ 0 ≤ x ∧ x ≤ 8 - pcn a.toNat) Ra Sa) := by
  refine ct_in pn_X11 (Nat.le_of_ble_eq_true rfl) (fun X hX hT hIn => ?_)
  have hX : aK l0 X cX11_lastingOf 7 RX11 (some .int) 1 0 0 := hX
  change WW X 0 [some (kR (some 49)), some (kI a), some (kI b), none, none, none, none] [] Ia Ja Ra Sa 0 0
  have qIa := RX_o hQ
  have hca := hcr a.toNat (by omega)
  refine ww_ldcw hX (pc := 0) (x := 1000000000) dX11_lastingOf_0 tb_1457 ?_
  refine ww_istore_n hX (pc := 3) (lv' := [some (kR (some 49)), some (kI a), some (kI b), some (kI 1000000000), none, none, none]) dX11_lastingOf_3 (by decide) rfl rfl ?_
  refine ww_iconst hX (pc := 4) (x := 0) dX11_lastingOf_4 rfl ?_
  refine ww_istore hX (pc := 5) (lv' := [some (kR (some 49)), some (kI a), some (kI b), some (kI 1000000000), some (kI 0), none, none]) dX11_lastingOf_5 (by decide) rfl rfl ?_
  have hl_7 : ∀ (n_7 : Nat) (le : Int) (i : Int), (Ia 51 305 - i).toNat = n_7 → ((0 ≤ i ∧ i ≤ Ia 51 305) ∧ LJ (Ia 51) (Ia 61) b a (FU (Ia 51 304) + 1) i le) → WW X 7 [some (kR (some 49)), some (kI a), some (kI b), some (kI le), some (kI i), none, none] [] Ia Ja Ra Sa 0 0 := by
    intro n_7
    induction n_7 using Nat.strongRecOn with
    | ind n_7 ih_7 =>
      intro le i hm_7 hv_7
      have hq_7 := Sh0_i hm_7
      clear hm_7
      obtain ⟨hv, hlj⟩ := hv_7
      have hlr := hlj.2.2
      refine ww_iload hX (pc := 7) dX11_lastingOf_7 rfl ?_
      refine ww_aload_n hX (pc := 9) dX11_lastingOf_9 rfl ?_
      refine ww_getR hX (pc := 10) fX11_20 (by decide) (xs_49 hL) (xr_49_3 hL) dX11_lastingOf_10 ?_
      refine ww_sipush hX (pc := 13) (x := 305) dX11_lastingOf_13 (by decide) ?_
      refine ww_iald hX (pc := 16) (xs_51 hL) (by decide) (by omega) (by omega) dX11_lastingOf_16 ?_
      refine ww_toI (b := Ia 51 305) rfl ?_
      refine ww_icmp_ge hX (pc := 17) (tgt := 113) dX11_lastingOf_17 (by decide) (fun h_17 => ?_) (fun h_17 => ?_)
      · simp only [w32_mod] at h_17
        refine ww_iload_n hX (pc := 113) dX11_lastingOf_113 rfl ?_
        refine rI hX (pc := 114) hT (Nat.le_refl 0) (Nat.le_refl 0) dX11_lastingOf_114 ?_
        exact ⟨rfl, rfl, (LJ_e ((show i = Ia 51 305 by omega) ▸ hlj) hlb (by omega) (by omega) (by omega) (by omega))⟩
      · simp only [w32_mod] at h_17
        refine ww_iload hX (pc := 20) dX11_lastingOf_20 rfl ?_
        refine ww_aload_n hX (pc := 22) dX11_lastingOf_22 rfl ?_
        refine ww_iload_n hX (pc := 23) dX11_lastingOf_23 rfl ?_
        refine vI1 hX (pc := 24) sX11_126 (xs_49 hL) (c_X11_readOf l0 hL hQ (by omega) (by omega)) (by decide) (Nat.le_refl 0) (Nat.le_refl 0) (Nat.le_of_ble_eq_true rfl) dX11_lastingOf_24 (fun x_24 I_24 J_24 h_24 => ?_)
        obtain ⟨rfl, rfl, h_24⟩ := h_24
        refine ww_icmp_ne hX (pc := 27) (tgt := 33) dX11_lastingOf_27 (by decide) (fun h_27 => ?_) (fun h_27 => ?_)
        · simp only [w32_mod] at h_27
          refine ww_iconst hX (pc := 33) (x := 0) dX11_lastingOf_33 rfl ?_
          refine ww_istore hX (pc := 34) (lv' := [some (kR (some 49)), some (kI a), some (kI b), some (kI le), some (kI i), some (kI 0), none]) dX11_lastingOf_34 (by decide) rfl rfl ?_
          refine ww_iload_n hX (pc := 36) dX11_lastingOf_36 rfl ?_
          refine ww_iconst hX (pc := 37) (x := 1) dX11_lastingOf_37 rfl ?_
          refine ww_iadd hX (pc := 38) dX11_lastingOf_38 ?_
          refine ww_nmI (fun v_39 hv_39 => ?_)
          refine ww_istore hX (pc := 39) (lv' := [some (kR (some 49)), some (kI a), some (kI b), some (kI le), some (kI i), some (kI 0), some (kI v_39)]) dX11_lastingOf_39 (by decide) rfl rfl ?_
          have hl_41 : ∀ (n_41 : Nat) (bs : Int) (t : Int), (256 - t).toNat = n_41 → ((a + 1 ≤ t ∧ t ≤ (FU (Ia 51 304) + 1) ∧ 0 ≤ bs ∧ bs ≤ 9) ∧ Mx (fun u => PB (Ia 51) b a (FU (Ia 51 304) + 1) i u ∧ (u : Int) < t) (Ia 61) bs) → WW X 41 [some (kR (some 49)), some (kI a), some (kI b), some (kI le), some (kI i), some (kI bs), some (kI t)] [] Ia Ja Ra Sa 0 0 := by
            intro n_41
            induction n_41 using Nat.strongRecOn with
            | ind n_41 ih_41 =>
              intro bs t hm_41 hv_41
              have hq_41 := Sh0_i hm_41
              clear hm_41
              obtain ⟨hu, hmt⟩ := hv_41
              refine ww_iload hX (pc := 41) dX11_lastingOf_41 rfl ?_
              refine ww_aload_n hX (pc := 43) dX11_lastingOf_43 rfl ?_
              refine vI0 hX (pc := 44) sX11_112 (xs_49 hL) (c_X11_states l0 hL hQ ) (by decide) (Nat.le_refl 0) (Nat.le_refl 0) (Nat.le_of_ble_eq_true rfl) dX11_lastingOf_44 (fun x_44 I_44 J_44 h_44 => ?_)
              obtain ⟨rfl, rfl, h_44⟩ := h_44
              refine ww_icmp_ge hX (pc := 47) (tgt := 94) dX11_lastingOf_47 (by decide) (fun h_47 => ?_) (fun h_47 => ?_)
              · simp only [w32_mod] at h_47
                have hmx := MT_e hmt (by omega)
                refine ww_iload hX (pc := 94) dX11_lastingOf_94 rfl ?_
                refine ww_iload_n hX (pc := 96) dX11_lastingOf_96 rfl ?_
                refine ww_icmp_ge hX (pc := 97) (tgt := 105) dX11_lastingOf_97 (by decide) (fun h_97 => ?_) (fun h_97 => ?_)
                · simp only [w32_mod] at h_97
                  refine ww_iload_n hX (pc := 105) dX11_lastingOf_105 rfl ?_
                  refine ww_istore_n hX (pc := 106) (lv' := [some (kR (some 49)), some (kI a), some (kI b), some (kI le), some (kI i), some (kI bs), some (kI t)]) dX11_lastingOf_106 (by decide) rfl rfl ?_
                  refine ww_iinc hX (pc := 107) (lv' := [some (kR (some 49)), some (kI a), some (kI b), some (kI le), some (kI (i + 1)), some (kI bs), some (kI t)]) dX11_lastingOf_107 rfl (by decide) rfl rfl ?_
                  refine ww_goto hX (pc := 110) (tgt := 7) dX11_lastingOf_110 (by decide) ?_
                  refine ww_sub [some (kR (some 49)), some (kI a), some (kI b), some (kI le), some (kI (i + 1)), none, none] (aLe_s (aLe_s (aLe_s (aLe_s (aLe_s (aLe_n (aLe_n aLe_0))))))) ?_
                  exact ih_7 _ (by have hm9 := Sh0_e hq_7; omega) le (i + 1) rfl ⟨⟨by omega, by omega⟩, LJ_ge hlj (by omega) hmx (by omega)⟩
                · simp only [w32_mod] at h_97
                  refine ww_iload hX (pc := 100) dX11_lastingOf_100 rfl ?_
                  refine ww_goto hX (pc := 102) (tgt := 106) dX11_lastingOf_102 (by decide) ?_
                  refine ww_istore_n hX (pc := 106) (lv' := [some (kR (some 49)), some (kI a), some (kI b), some (kI bs), some (kI i), some (kI bs), some (kI t)]) dX11_lastingOf_106 (by decide) rfl rfl ?_
                  refine ww_iinc hX (pc := 107) (lv' := [some (kR (some 49)), some (kI a), some (kI b), some (kI bs), some (kI (i + 1)), some (kI bs), some (kI t)]) dX11_lastingOf_107 rfl (by decide) rfl rfl ?_
                  refine ww_goto hX (pc := 110) (tgt := 7) dX11_lastingOf_110 (by decide) ?_
                  refine ww_sub [some (kR (some 49)), some (kI a), some (kI b), some (kI bs), some (kI (i + 1)), none, none] (aLe_s (aLe_s (aLe_s (aLe_s (aLe_s (aLe_n (aLe_n aLe_0))))))) ?_
                  exact ih_7 _ (by have hm9 := Sh0_e hq_7; omega) bs (i + 1) rfl ⟨⟨by omega, by omega⟩, LJ_lt hlj (by omega) hmx (by omega) (by omega) (by omega)⟩
              · simp only [w32_mod] at h_47
                have hcd := hcr t.toNat (by omega)
                refine ww_aload_n hX (pc := 50) dX11_lastingOf_50 rfl ?_
                refine ww_iload hX (pc := 51) dX11_lastingOf_51 rfl ?_
                refine vI1 hX (pc := 53) sX11_126 (xs_49 hL) (c_X11_readOf l0 hL hQ (by omega) (by omega)) (by decide) (Nat.le_refl 0) (Nat.le_refl 0) (Nat.le_of_ble_eq_true rfl) dX11_lastingOf_53 (fun x_53 I_53 J_53 h_53 => ?_)
                obtain ⟨rfl, rfl, h_53⟩ := h_53
                refine ww_iload hX (pc := 56) dX11_lastingOf_56 rfl ?_
                refine ww_icmp_ne hX (pc := 58) (tgt := 88) dX11_lastingOf_58 (by decide) (fun h_58 => ?_) (fun h_58 => ?_)
                · simp only [w32_mod] at h_58
                  have hnp : ¬ PB (Ia 51) b a (FU (Ia 51 304) + 1) i t.toNat := fun h9 => by have h8 := h9.2.2.2.2; omega
                  refine ww_iinc hX (pc := 88) (lv' := [some (kR (some 49)), some (kI a), some (kI b), some (kI le), some (kI i), some (kI bs), some (kI (t + 1))]) dX11_lastingOf_88 rfl (by decide) rfl rfl ?_
                  refine ww_goto hX (pc := 91) (tgt := 41) dX11_lastingOf_91 (by decide) ?_
                  exact ih_41 _ (by have hm9 := Sh0_e hq_41; omega) bs (t + 1) rfl ⟨by omega, MT_no hmt (by omega) hnp⟩
                · simp only [w32_mod] at h_58
                  refine ww_aload_n hX (pc := 61) dX11_lastingOf_61 rfl ?_
                  refine ww_iload_n hX (pc := 62) dX11_lastingOf_62 rfl ?_
                  refine ww_iload hX (pc := 63) dX11_lastingOf_63 rfl ?_
                  refine ww_iload_n hX (pc := 65) dX11_lastingOf_65 rfl ?_
                  refine vI3 hX (pc := 66) sX11_271 (xs_49 hL) (c_X11_canCome l0 hL hQ ) (by decide) (Nat.le_refl 0) (Nat.le_refl 0) (Nat.le_of_ble_eq_true rfl) dX11_lastingOf_66 (fun x_66 I_66 J_66 h_66 => ?_)
                  obtain ⟨rfl, rfl, h_66⟩ := h_66
                  refine ww_if_eq hX (pc := 69) (tgt := 88) dX11_lastingOf_69 (by decide) (fun h_69 => ?_) (fun h_69 => ?_)
                  · simp only [w32_mod] at h_69
                    have hnp : ¬ PB (Ia 51) b a (FU (Ia 51 304) + 1) i t.toNat := fun h9 => by
                      have h7 := h9.2.2.2.1
                      rw [show ((t.toNat : Nat) : Int) = t by omega] at h7
                      have h8 : canC a t b := (canC_iff (by omega) (by omega) (by omega) (by omega)).mpr ⟨h9.2.2.1, h7⟩
                      have := h_66.2.mpr h8
                      omega
                    refine ww_iinc hX (pc := 88) (lv' := [some (kR (some 49)), some (kI a), some (kI b), some (kI le), some (kI i), some (kI bs), some (kI (t + 1))]) dX11_lastingOf_88 rfl (by decide) rfl rfl ?_
                    refine ww_goto hX (pc := 91) (tgt := 41) dX11_lastingOf_91 (by decide) ?_
                    exact ih_41 _ (by have hm9 := Sh0_e hq_41; omega) bs (t + 1) rfl ⟨by omega, MT_no hmt (by omega) hnp⟩
                  · simp only [w32_mod] at h_69
                    have hcc := (canC_iff (by omega) (by omega) (by omega) (by omega)).mp (h_66.2.mp (by omega))
                    have hpb : PB (Ia 51) b a (FU (Ia 51 304) + 1) i t.toNat := ⟨by omega, by omega, hcc.1, by rw [show ((t.toNat : Nat) : Int) = t by omega]; exact hcc.2, by omega⟩
                    have hlt := hlb t.toNat (by omega) (by omega)
                    have hpr := pcn_r t.toNat
                    refine ww_iload hX (pc := 72) dX11_lastingOf_72 rfl ?_
                    refine ww_iconst hX (pc := 74) (x := 1) dX11_lastingOf_74 rfl ?_
                    refine ww_aload_n hX (pc := 75) dX11_lastingOf_75 rfl ?_
                    refine ww_getR hX (pc := 76) fX11_55 (by decide) (xs_49 hL) (xr_49_23 hL) dX11_lastingOf_76 ?_
                    refine ww_iload hX (pc := 79) dX11_lastingOf_79 rfl ?_
                    refine ww_iald hX (pc := 81) (xs_61 hL) (by decide) (by omega) (by omega) dX11_lastingOf_81 ?_
                    refine ww_iadd hX (pc := 82) dX11_lastingOf_82 ?_
                    refine sI2 hX (pc := 83) sX11_132 (c_X11_greater l0 (by omega) (by omega) (by omega) (by omega)) (by decide) (Nat.le_refl 0) (Nat.le_refl 0) (Nat.le_of_ble_eq_true rfl) dX11_lastingOf_83 (fun x_83 I_83 J_83 h_83 => ?_)
                    obtain ⟨rfl, rfl, h_83⟩ := h_83
                    refine ww_istore hX (pc := 86) (lv' := [some (kR (some 49)), some (kI a), some (kI b), some (kI le), some (kI i), some (kI x_83), some (kI t)]) dX11_lastingOf_86 (by decide) rfl rfl ?_
                    refine ww_iinc hX (pc := 88) (lv' := [some (kR (some 49)), some (kI a), some (kI b), some (kI le), some (kI i), some (kI x_83), some (kI (t + 1))]) dX11_lastingOf_88 rfl (by decide) rfl rfl ?_
                    refine ww_goto hX (pc := 91) (tgt := 41) dX11_lastingOf_91 (by decide) ?_
                    exact ih_41 _ (by have hm9 := Sh0_e hq_41; omega) x_83 (t + 1) rfl ⟨by omega, (by rw [h_83]; exact MT_ad hmt (by omega) hpb (by omega))⟩
          exact hl_41 _ 0 v_39 rfl ⟨by omega, MT_0 (by omega)⟩
        · simp only [w32_mod] at h_27
          refine ww_goto hX (pc := 30) (tgt := 107) dX11_lastingOf_30 (by decide) ?_
          refine ww_iinc hX (pc := 107) (lv' := [some (kR (some 49)), some (kI a), some (kI b), some (kI le), some (kI (i + 1)), none, none]) dX11_lastingOf_107 rfl (by decide) rfl rfl ?_
          refine ww_goto hX (pc := 110) (tgt := 7) dX11_lastingOf_110 (by decide) ?_
          exact ih_7 _ (by have hm9 := Sh0_e hq_7; omega) le (i + 1) rfl ⟨⟨by omega, by omega⟩, LJ_no hlj (by omega)⟩
  exact hl_7 _ 1000000000 0 rfl ⟨⟨by omega, by omega⟩, LJ_0⟩
set_option maxHeartbeats 4000000 in
set_option maxRecDepth 20000 in
theorem c5_X11_lasts0 (l0 : Launch) {Ia Ja : aI1} {Ra : aR1} {Sa : aS1} (hL : LY Ra Sa) (hQ : RX Ia) {a : Int} (hcr : ∀ t : Nat, (t : Int) ≤ FU (Ia 51 304) → -1 ≤ Ia 51 t ∧ Ia 51 t ≤ 7)  : CT l0 2 0 0 mX11_lasts0 [kR (some 49), kI a] Ia Ja Ra Sa (cV (fun I' J' => Ch [61] [] Ia I' ∧ Kp 49 73 Ja J' ∧ RX I' ∧ I' 51 = Ia 51 ∧ zLV (Ia 51) a (FU (Ia 51 304) + 1) (Ia 51 305) (-1) (I' 61)) Ra Sa) := by
  refine ct_in pn_X11 (Nat.le_of_ble_eq_true rfl) (fun X hX hT hIn => ?_)
  have hX : aK l0 X cX11_lasts0 3 RX11 none 2 0 0 := hX
  change WW X 0 [some (kR (some 49)), some (kI a), none] [] Ia Ja Ra Sa 0 0
  have qIa := RX_o hQ
  refine ww_aload_n hX (pc := 0) dX11_lasts0_0 rfl ?_
  refine vI0 hX (pc := 1) sX11_112 (xs_49 hL) (c_X11_states l0 hL hQ ) (by decide) (Nat.le_refl 0) (Nat.le_refl 0) (Nat.le_of_ble_eq_true rfl) dX11_lasts0_1 (fun x_1 I_1 J_1 h_1 => ?_)
  obtain ⟨rfl, rfl, h_1⟩ := h_1
  refine ww_iconst hX (pc := 4) (x := 1) dX11_lasts0_4 rfl ?_
  refine ww_isub hX (pc := 5) dX11_lasts0_5 ?_
  refine ww_nmI (fun v_6 hv_6 => ?_)
  refine ww_istore_n hX (pc := 6) (lv' := [some (kR (some 49)), some (kI a), some (kI v_6)]) dX11_lasts0_6 (by decide) rfl rfl ?_
  have hl_7 : ∀ (n_7 : Nat) (i : Int) (I7 : aI1) (J7 : aI1), (i + 1).toNat = n_7 → (Ch [61] [] Ia I7 ∧ RX I7 ∧ Kp 49 73 Ja J7 ∧ I7 51 304 = Ia 51 304 ∧ I7 51 305 = Ia 51 305 ∧ (-1 ≤ i ∧ i ≤ FU (Ia 51 304)) ∧ I7 51 = Ia 51 ∧ zLV (Ia 51) a (FU (Ia 51 304) + 1) (Ia 51 305) i (I7 61)) → WW X 7 [some (kR (some 49)), some (kI a), some (kI i)] [] I7 J7 Ra Sa 0 0 := by
    intro n_7
    induction n_7 using Nat.strongRecOn with
    | ind n_7 ih_7 =>
      intro i I7 J7 hm_7 hv_7
      have hq_7 := Sh0_i hm_7
      clear hm_7
      obtain ⟨kI7, cI7, kJ7, r304_I7, r305_I7, hv, e51, hlv⟩ := hv_7
      have qI7 := RX_o cI7
      have rf_I7 : FU (I7 51 304) = FU (Ia 51 304) := by rw [r304_I7]
      refine ww_iload_n hX (pc := 7) dX11_lasts0_7 rfl ?_
      refine ww_if_lt hX (pc := 8) (tgt := 29) dX11_lasts0_8 (by decide) (fun h_8 => ?_) (fun h_8 => ?_)
      · simp only [w32_mod] at h_8
        refine rV hX (pc := 29) hT (Nat.le_refl 0) (Nat.le_refl 0) dX11_lasts0_29 ?_
        exact ⟨kI7, kJ7, cI7, e51, (show i = -1 by omega) ▸ hlv⟩
      · simp only [w32_mod] at h_8
        refine ww_aload_n hX (pc := 11) dX11_lasts0_11 rfl ?_
        refine ww_getR hX (pc := 12) fX11_55 (by decide) (xs_49 hL) (xr_49_23 hL) dX11_lasts0_12 ?_
        refine ww_iload_n hX (pc := 15) dX11_lasts0_15 rfl ?_
        refine ww_aload_n hX (pc := 16) dX11_lasts0_16 rfl ?_
        refine ww_iload_n hX (pc := 17) dX11_lasts0_17 rfl ?_
        refine ww_iload_n hX (pc := 18) dX11_lasts0_18 rfl ?_
        refine vI2 hX (pc := 19) sX11_291 (xs_49 hL) (c5_X11_lastingOf l0 hL cI7 (by omega) (by omega) (by omega) (fun t ht => by rw [e51]; rw [e51] at ht; exact hcr t ht) (fun t h1 h2 => (hlv t h1 (by rw [e51] at h2; exact h2)).2)) (by decide) (Nat.le_refl 0) (Nat.le_refl 0) (Nat.le_of_ble_eq_true rfl) dX11_lasts0_19 (fun x_19 I_19 J_19 h_19 => ?_)
        obtain ⟨rfl, rfl, h_19⟩ := h_19
        rw [e51] at h_19
        have hpi := pcn_256 (t := i.toNat) (by omega)
        refine ww_iast hX (pc := 22) (xs_61 hL) (by decide) (by omega) (by omega) dX11_lasts0_22 ?_
        refine ww_nmH (fun I_22 eI_22 => ?_)
        have kI_22 : Ch [61] [] Ia I_22 := by rw [eI_22]; exact Ch_r kI7 (by decide) (by decide)
        have cI_22 : RX I_22 := by rw [eI_22]; exact RX_61 cI7 (by omega) (by omega)
        have qI_22 := RX_o cI_22
        have r304_I_22 : I_22 51 304 = I7 51 304 := by rw [eI_22, up2_off _ _ _ (by decide)]
        have r305_I_22 : I_22 51 305 = I7 51 305 := by rw [eI_22, up2_off _ _ _ (by decide)]
        have rf_I_22 : FU (I_22 51 304) = FU (I7 51 304) := by rw [r304_I_22]
        have e22 : I_22 51 = Ia 51 := by rw [eI_22, up2_off _ _ _ (by decide)]; exact e51
        refine ww_iinc hX (pc := 23) (lv' := [some (kR (some 49)), some (kI a), some (kI (i + (-1)))]) dX11_lasts0_23 rfl (by decide) rfl rfl ?_
        refine ww_goto hX (pc := 26) (tgt := 7) dX11_lasts0_26 (by decide) ?_
        exact ih_7 _ (by have hm9 := Sh0_e hq_7; omega) (i + (-1)) I_22 J7 rfl ⟨kI_22, cI_22, kJ7, by omega, by omega, ⟨by omega, by omega⟩, e22, (by rw [eI_22, up2_row]; exact zLV_step hlv (by omega) h_19 (by omega))⟩
  exact hl_7 _ v_6 Ia Ja rfl ⟨Ch_rf, hQ, (Kp_rf (a := 49) (b := 73)), rfl, rfl, ⟨by omega, by omega⟩, rfl, fun s h1 h2 => absurd h2 (by omega)⟩
end
section
def dv (k c : Nat) : Nat → Nat
  | 0 => c
  | j + 1 => dv k c j / k
def dg (k N c s : Nat) : Nat := dv k c (N - 1 - s) % k
noncomputable def dgs (k N c : Nat) : List Nat := mkL (dg k N c) N []
/-- how many of the first c CODES are LASTING t at least -/
noncomputable def cN (k N t : Nat) : Nat → Nat
  | 0 => 0
  | c + 1 => cN k N t c + (if t ≤ DL k (dgs k N c) then 1 else 0)
theorem dg_r {k N c s : Nat} (hk : 2 ≤ k) (hk4 : k ≤ 4) : dg k N c s ≤ 3 := by
  have := Nat.mod_lt (dv k c (N - 1 - s)) (show k > 0 by omega)
  unfold dg
  omega
/-- the CODE's number taken apart from the last STATE down to q -/
def DG (k N c : Nat) (q re : Int) (F : Nat → Int) : Prop := re = ((dv k c ((N : Int) - 1 - q).toNat : Nat) : Int) ∧ ∀ s : Nat, q < s → s < N → F s = ((dg k N c s : Nat) : Int)
theorem DG_0 {k N c : Nat} {q re : Int} {F : Nat → Int} (h : q = (N : Int) - 1) (h1 : re = c) : DG k N c q re F := by
  refine ⟨?_, fun s h2 h3 => absurd h3 (by omega)⟩
  rw [h, h1, show ((N : Int) - 1 - ((N : Int) - 1)).toNat = 0 by omega]
  rfl
theorem DG_s {k N c : Nat} {q re re' q' : Int} {F : Nat → Int} {kk : Int} (h : DG k N c q re F) (h0 : 0 ≤ q) (hN : q < N) (hk : kk = k) (hr : re' = re / kk) (hq : q' = q - 1) : DG k N c q' re' (up1 F q.toNat (re % kk)) := by
  obtain ⟨h1, h2⟩ := h
  refine ⟨?_, fun s h3 h4 => ?_⟩
  · rw [hr, h1, hk, hq, show ((N : Int) - 1 - (q - 1)).toNat = ((N : Int) - 1 - q).toNat + 1 by omega]
    rfl
  · by_cases e : s = q.toNat
    · subst e
      rw [up1_s, h1, hk]
      unfold dg
      rw [show N - 1 - q.toNat = ((N : Int) - 1 - q).toNat by omega]
      rfl
    · rw [up1_n _ _ e]
      exact h2 s (by omega) h4
theorem DG_e {k N c : Nat} {re : Int} {F : Nat → Int} (h : DG k N c (-1) re F) {s : Nat} (hs : s < N) : F s = ((gd (dgs k N c) s : Nat) : Int) := by
  unfold dgs
  rw [(mkL_v (dg k N c) N []).2.1 s hs]
  exact h.2 s (by omega) hs
theorem DG_r {k N c : Nat} {re : Int} {F : Nat → Int} (h : DG k N c (-1) re F) (hk : 2 ≤ k) (hk4 : k ≤ 4) {s : Nat} (hs : s < N) : 0 ≤ F s ∧ F s ≤ 3 := by
  rw [h.2 s (by omega) hs]
  have := dg_r (N := N) (c := c) (s := s) hk hk4
  omega
theorem DG_cg {k N c : Nat} {q re : Int} {F G : Nat → Int} (h : DG k N c q re F) (e : G = F) : DG k N c q re G := by rw [e]; exact h
theorem dgs_len (k N c : Nat) : (dgs k N c).length = N := by
  unfold dgs
  rw [(mkL_v (dg k N c) N []).1]
  rfl
theorem pow_65536 {b : Int} {n : Nat} (h0 : 2 ≤ b) (h1 : b ≤ 4) (hn : n ≤ 8) : 1 ≤ b ^ n ∧ b ^ n ≤ 65536 := by
  have h : ∀ n : Nat, n < 9 → 1 ≤ b ^ n ∧ b ^ n ≤ 65536 := by
    rcases (show b = 2 ∨ b = 3 ∨ b = 4 by omega) with rfl | rfl | rfl <;> decide
  exact h n (by omega)
theorem pow_nat {b : Int} (n : Nat) (h0 : 0 ≤ b) : (b ^ n).toNat = b.toNat ^ n := by
  obtain ⟨m, rfl⟩ := Int.eq_ofNat_of_zero_le h0
  rw [← Int.natCast_pow]
  rfl
end
section
theorem namN_r {k u : Nat} (h0 : 2 ≤ k) (h1 : k ≤ 4) (h2 : u ≤ k) : 1 ≤ namN k u ∧ namN k u ≤ 24 := by
  have h : ∀ k u : Fin 5, 2 ≤ k.val → u.val ≤ k.val → 1 ≤ namN k.val u.val ∧ namN k.val u.val ≤ 24 := by decide
  exact h ⟨k, by omega⟩ ⟨u, by omega⟩ h0 h2
theorem nam_s {a i : Int} (h0 : 0 ≤ i) (h1 : i ≤ a) : ((namN a.toNat (i + 1).toNat : Nat) : Int) = ((namN a.toNat i.toNat : Nat) : Int) * (a - i) := by
  rw [show (i + 1).toNat = i.toNat + 1 by omega]
  show ((namN a.toNat i.toNat * (a.toNat - i.toNat) : Nat) : Int) = _
  rw [Int.natCast_mul, show ((a.toNat - i.toNat : Nat) : Int) = a - i by omega]
/-- counts: c more for the first w of a pair -/
def NI (F G : aI1) (a w c : Int) : Prop := (∀ t : Nat, t < 4 → G 43 (4 * a.toNat + t) = F 43 (4 * a.toNat + t) + (if (t : Int) < w then c else 0)) ∧ ∀ j : Nat, (j < 4 * a.toNat ∨ 4 * a.toNat + 4 ≤ j) → G 43 j = F 43 j
theorem NI_0 {F : aI1} {a c : Int} : NI F F a 0 c := ⟨fun t _ => by rw [if_neg (by omega)]; omega, fun _ _ => rfl⟩
theorem NI_s {F G H : aI1} {a w c : Int} (h : NI F G a w c) (h0 : 0 ≤ w) (h1 : w < 4) (e : H 43 = up1 (G 43) (4 * a.toNat + w.toNat) (G 43 (4 * a.toNat + w.toNat) + c)) : NI F H a (w + 1) c := by
  refine ⟨fun t ht => ?_, fun j hj => ?_⟩
  · rw [e]
    by_cases e1 : (t : Int) = w
    · rw [show w.toNat = t by omega, up1_s, h.1 t ht, if_neg (by omega), if_pos (by omega)]
      omega
    · rw [up1_n _ _ (by omega), h.1 t ht]
      by_cases e2 : (t : Int) < w
      · rw [if_pos e2, if_pos (by omega)]
      · rw [if_neg e2, if_neg (by omega)]
  · rw [e, up1_n _ _ (by omega)]
    exact h.2 j hj
/-- a row turned on at q, as far as i -/
def TI (F G : aI1) (q i m : Int) : Prop := ∀ j : Nat, (j : Int) < i → (G 41 j = if (j : Int) < q then F 41 j else if (j : Int) = q then F 41 j + 1 else 0) ∧ (G 42 j = if (j : Int) < q then F 42 j else m)
theorem TI_up {F : aI1} {q m : Int} (h0 : 0 ≤ q) : TI F (up2 (up2 F 41 q.toNat (F 41 q.toNat + 1)) 42 q.toNat m) q (q + 1) m := by
  intro j hj
  rw [up2_off _ _ _ (show (41 : Nat) ≠ 42 by decide), up2_row (k := 42), up2_row (k := 41), up2_off _ _ _ (show (42 : Nat) ≠ 41 by decide)]
  by_cases e : (j : Int) = q
  · rw [show q.toNat = j by omega, up1_s, up1_s, if_neg (by omega), if_pos e, if_neg (by omega)]
    exact ⟨rfl, rfl⟩
  · rw [up1_n _ _ (by omega), up1_n _ _ (by omega), if_pos (by omega), if_pos (by omega)]
    exact ⟨rfl, rfl⟩
theorem TI_st {F G : aI1} {q i m v : Int} (h : TI F G q i m) (h0 : 0 ≤ q) (h1 : q < i) (hv : v = G 42 (i - 1).toNat) : TI F (up2 (up2 G 41 i.toNat 0) 42 i.toNat v) q (i + 1) m := by
  have hm : v = m := by
    have := (h (i - 1).toNat (by omega)).2
    rw [if_neg (by omega)] at this
    rw [hv, this]
  intro j hj
  rw [up2_off _ _ _ (show (41 : Nat) ≠ 42 by decide), up2_row (k := 42), up2_row (k := 41), up2_off _ _ _ (show (42 : Nat) ≠ 41 by decide)]
  by_cases e : (j : Int) = i
  · rw [show i.toNat = j by omega, up1_s, up1_s, if_neg (by omega), if_neg (by omega), if_neg (by omega)]
    exact ⟨rfl, hm⟩
  · rw [up1_n _ _ (by omega), up1_n _ _ (by omega)]
    exact h j (by omega)
/-- how a row goes on -/
def TO (F G : aI1) (a b x : Int) : Prop := (x = 0 ∧ ∀ j : Nat, 0 < j → (j : Int) < a → F 41 j = min (b - 1) (F 42 (j - 1) + 1)) ∨ (x = 1 ∧ ∃ q : Int, 0 < q ∧ q < a ∧ (∀ j : Nat, q < j → (j : Int) < a → F 41 j = min (b - 1) (F 42 (j - 1) + 1)) ∧ ¬ F 41 q.toNat = min (b - 1) (F 42 (q.toNat - 1) + 1) ∧ TI F G q a (max (F 42 (q - 1).toNat) (F 41 q.toNat + 1)))
/-- row and peak as lists -/
def RR (F : aI1) (N : Nat) (r p : List Nat) : Prop := r.length = N ∧ p.length = N ∧ ∀ j, j < N → F 41 j = ((gd r j : Nat) : Int) ∧ F 42 j = ((gd p j : Nat) : Int)
theorem TO_0 {F G : aI1} {N k : Nat} {r p : List Nat} {a b : Int} (hN : a = N) (hk : b = k) (hk2 : 2 ≤ k) (h : RR F N r p) (ht : TO F G a b 0) : nxA k r p (N - 1) = 0 := by
  rcases ht with ⟨-, ht⟩ | ⟨ht, -⟩
  · refine nxA_at k r p (Or.inl rfl) (N - 1) (by omega) (fun j h1 h2 => ?_)
    have h3 := ht j h1 (by omega)
    rw [(h.2.2 j (by omega)).1, (h.2.2 (j - 1) (by omega)).2] at h3
    omega
  · omega
theorem TO_1 {F G : aI1} {N k : Nat} {r p : List Nat} {a b : Int} (hN : a = N) (hk : b = k) (hk2 : 2 ≤ k) (h : RR F N r p) (ht : TO F G a b 1) : ¬ nxA k r p (N - 1) = 0 ∧ RR G N (mkL (nxR r (nxA k r p (N - 1))) N []) (mkL (nxP r p (nxA k r p (N - 1))) N []) := by
  rcases ht with ⟨ht, -⟩ | ⟨-, q, q0, q1, q2, q3, q4⟩
  · omega
  · have hq : nxA k r p (N - 1) = q.toNat := nxA_at k r p (Or.inr (fun h3 => q3 (by rw [(h.2.2 q.toNat (by omega)).1, (h.2.2 (q.toNat - 1) (by omega)).2]; omega))) (N - 1) (by omega) (fun j h1 h2 => by
      have h3 := q2 j (by omega) (by omega)
      rw [(h.2.2 j (by omega)).1, (h.2.2 (j - 1) (by omega)).2] at h3
      omega)
    rw [hq]
    refine ⟨by omega, ?_, ?_, fun j hj => ?_⟩
    · rw [(mkL_v _ N []).1]; rfl
    · rw [(mkL_v _ N []).1]; rfl
    · rw [(mkL_v _ N []).2.1 j hj, (mkL_v _ N []).2.1 j hj]
      unfold nxR nxP
      rw [blt_if, beq_if, blt_if, mxx_e]
      have h5 := q4 j (by omega)
      have h6 := h.2.2 j hj
      have h7 := h.2.2 q.toNat (by omega)
      have h8 := h.2.2 (q.toNat - 1) (by omega)
      rw [show (q - 1).toNat = q.toNat - 1 by omega] at h5
      by_cases e1 : j < q.toNat
      · rw [if_pos e1, if_pos e1]
        rw [if_pos (by omega), if_pos (by omega)] at h5
        omega
      · rw [if_neg e1, if_neg e1]
        rw [if_neg (by omega), if_neg (show ¬ (j : Int) < q by omega)] at h5
        by_cases e2 : j = q.toNat
        · rw [if_pos e2]
          rw [if_pos (by omega)] at h5
          subst e2
          refine ⟨by rw [h5.1]; omega, by rw [h5.2]; omega⟩
        · rw [if_neg e2]
          rw [if_neg (by omega)] at h5
          refine ⟨by rw [h5.1]; omega, by rw [h5.2]; omega⟩
/-- a pair's counts in one number -/
def PK (F : aI1) (q : Nat) : Int := F 43 (4 * q) + 16777216 * F 43 (4 * q + 1) + 281474976710656 * F 43 (4 * q + 2) + 4722366482869645213696 * F 43 (4 * q + 3)
theorem PK_n {F G : aI1} {a w c b : Int} (h : NI F G a w c) (hw : w = b + 1 ∨ (w = 4 ∧ 3 ≤ b)) (hb : 0 ≤ b) : PK G a.toNat = PK F a.toNat + c * ((pwC b.toNat : Nat) : Int) := by
  have h0 := h.1 0 (by decide)
  have h1 := h.1 1 (by decide)
  have h2 := h.1 2 (by decide)
  have h3 := h.1 3 (by decide)
  rw [Nat.add_zero] at h0
  unfold PK
  rw [h0, h1, h2, h3, pwC_e]
  rw [if_pos (show ((0 : Nat) : Int) < w by omega)]
  by_cases c1 : 1 ≤ b
  · rw [if_pos (show ((1 : Nat) : Int) < w by omega), if_pos (show 1 ≤ b.toNat by omega)]
    by_cases c2 : 2 ≤ b
    · rw [if_pos (show ((2 : Nat) : Int) < w by omega), if_pos (show 2 ≤ b.toNat by omega)]
      by_cases c3 : 3 ≤ b
      · rw [if_pos (show ((3 : Nat) : Int) < w by omega), if_pos (show 3 ≤ b.toNat by omega)]
        omega
      · rw [if_neg (show ¬ ((3 : Nat) : Int) < w by omega), if_neg (show ¬ 3 ≤ b.toNat by omega)]
        omega
    · rw [if_neg (show ¬ ((2 : Nat) : Int) < w by omega), if_neg (show ¬ 2 ≤ b.toNat by omega), if_neg (show ¬ ((3 : Nat) : Int) < w by omega), if_neg (show ¬ 3 ≤ b.toNat by omega)]
      omega
  · rw [if_neg (show ¬ ((1 : Nat) : Int) < w by omega), if_neg (show ¬ 1 ≤ b.toNat by omega), if_neg (show ¬ ((2 : Nat) : Int) < w by omega), if_neg (show ¬ 2 ≤ b.toNat by omega), if_neg (show ¬ ((3 : Nat) : Int) < w by omega), if_neg (show ¬ 3 ≤ b.toNat by omega)]
    omega
set_option maxHeartbeats 4000000 in
set_option maxRecDepth 20000 in
theorem c5_X2_namings (l0 : Launch) {Ia Ja : aI1} {Ra : aR1} {Sa : aS1} {a b : Int} (ha0 : 2 ≤ a) (ha1 : a ≤ 4) (hb0 : 0 ≤ b) (hb1 : b ≤ a)  : CT l0 0 0 0 mX2_namings [kI a, kI b] Ia Ja Ra Sa (cI (fun x I' J' => Ia = I' ∧ Ja = J' ∧ x = ((namN a.toNat b.toNat : Nat) : Int)) Ra Sa) := by
  refine ct_in pn_X2 (Nat.le_of_ble_eq_true rfl) (fun X hX hT hIn => ?_)
  have hX : aK l0 X cX2_namings 4 RX2 (some .int) 0 0 0 := hX
  change WW X 0 [some (kI a), some (kI b), none, none] [] Ia Ja Ra Sa 0 0
  refine ww_iconst hX (pc := 0) (x := 1) dX2_namings_0 rfl ?_
  refine ww_istore_n hX (pc := 1) (lv' := [some (kI a), some (kI b), some (kI 1), none]) dX2_namings_1 (by decide) rfl rfl ?_
  refine ww_iconst hX (pc := 2) (x := 0) dX2_namings_2 rfl ?_
  refine ww_istore_n hX (pc := 3) (lv' := [some (kI a), some (kI b), some (kI 1), some (kI 0)]) dX2_namings_3 (by decide) rfl rfl ?_
  have hl_4 : ∀ (n_4 : Nat) (mn : Int) (i : Int), (b - i).toNat = n_4 → ((0 ≤ i ∧ i ≤ b) ∧ mn = ((namN a.toNat i.toNat : Nat) : Int)) → WW X 4 [some (kI a), some (kI b), some (kI mn), some (kI i)] [] Ia Ja Ra Sa 0 0 := by
    intro n_4
    induction n_4 using Nat.strongRecOn with
    | ind n_4 ih_4 =>
      intro mn i hm_4 hv_4
      have hq_4 := Sh0_i hm_4
      clear hm_4
      obtain ⟨⟨hi0, hi1⟩, hmn⟩ := hv_4
      refine ww_iload_n hX (pc := 4) dX2_namings_4 rfl ?_
      refine ww_iload_n hX (pc := 5) dX2_namings_5 rfl ?_
      refine ww_icmp_ge hX (pc := 6) (tgt := 21) dX2_namings_6 (by decide) (fun h_6 => ?_) (fun h_6 => ?_)
      · simp only [w32_mod] at h_6
        refine ww_iload_n hX (pc := 21) dX2_namings_21 rfl ?_
        refine rI hX (pc := 22) hT (Nat.le_refl 0) (Nat.le_refl 0) dX2_namings_22 ?_
        exact ⟨rfl, rfl, by rw [hmn, show i = b by omega]⟩
      · simp only [w32_mod] at h_6
        refine ww_iload_n hX (pc := 9) dX2_namings_9 rfl ?_
        refine ww_iload_n hX (pc := 10) dX2_namings_10 rfl ?_
        refine ww_iload_n hX (pc := 11) dX2_namings_11 rfl ?_
        refine ww_isub hX (pc := 12) dX2_namings_12 ?_
        refine ww_imul hX (pc := 13) dX2_namings_13 ?_
        refine ww_nmI (fun v_14 hv_14 => ?_)
        refine ww_istore_n hX (pc := 14) (lv' := [some (kI a), some (kI b), some (kI v_14), some (kI i)]) dX2_namings_14 (by decide) rfl rfl ?_
        refine ww_iinc hX (pc := 15) (lv' := [some (kI a), some (kI b), some (kI v_14), some (kI (i + 1))]) dX2_namings_15 rfl (by decide) rfl rfl ?_
        refine ww_goto hX (pc := 18) (tgt := 4) dX2_namings_18 (by decide) ?_
        exact ih_4 _ (by have hm9 := Sh0_e hq_4; omega) v_14 (i + 1) rfl ⟨⟨by omega, by omega⟩, by rw [hv_14, hmn]; exact (nam_s (by omega) (by omega)).symm⟩
  exact hl_4 _ 1 0 rfl ⟨⟨by omega, by omega⟩, rfl⟩
set_option maxHeartbeats 4000000 in
set_option maxRecDepth 20000 in
theorem c5_X2_turnOn (l0 : Launch) {Ia Ja : aI1} {Ra : aR1} {Sa : aS1} (hL : LY Ra Sa) {a b : Int} (ha0 : 2 ≤ a) (ha1 : a ≤ 8) (hb0 : 2 ≤ b) (hb1 : b ≤ 4) (hr : RI Ia a b)  : CT l0 1 0 0 mX2_turnOn [kR (some 37), kI a, kI b] Ia Ja Ra Sa (cI (fun x I' J' => Kp 41 43 Ia I' ∧ Kp 41 43 Ja J' ∧ (x = 0 ∨ x = 1) ∧ RI I' a b ∧ TO Ia I' a b x) Ra Sa) := by
  refine ct_in pn_X2 (Nat.le_of_ble_eq_true rfl) (fun X hX hT hIn => ?_)
  have hX : aK l0 X cX2_turnOn 5 RX2 (some .boolean) 1 0 0 := hX
  change WW X 0 [some (kR (some 37)), some (kI a), some (kI b), none, none] [] Ia Ja Ra Sa 0 0
  refine ww_iload_n hX (pc := 0) dX2_turnOn_0 rfl ?_
  refine ww_iconst hX (pc := 1) (x := 1) dX2_turnOn_1 rfl ?_
  refine ww_isub hX (pc := 2) dX2_turnOn_2 ?_
  refine ww_nmI (fun v_3 hv_3 => ?_)
  refine ww_istore_n hX (pc := 3) (lv' := [some (kR (some 37)), some (kI a), some (kI b), some (kI v_3), none]) dX2_turnOn_3 (by decide) rfl rfl ?_
  have hl_4 : ∀ (n_4 : Nat) (at_ : Int), at_.toNat = n_4 → ((0 ≤ at_ ∧ at_ < a) ∧ ∀ j : Nat, at_ < j → (j : Int) < a → Ia 41 j = min (b - 1) (Ia 42 (j - 1) + 1)) → WW X 4 [some (kR (some 37)), some (kI a), some (kI b), some (kI at_), none] [] Ia Ja Ra Sa 0 0 := by
    intro n_4
    induction n_4 using Nat.strongRecOn with
    | ind n_4 ih_4 =>
      intro at_ hm_4 hv_4
      have hq_4 := Sh0_i hm_4
      clear hm_4
      obtain ⟨⟨hat0, hat1⟩, hsk⟩ := hv_4
      refine ww_iload_n hX (pc := 4) dX2_turnOn_4 rfl ?_
      refine ww_if_le hX (pc := 5) (tgt := 39) dX2_turnOn_5 (by decide) (fun h_5 => ?_) (fun h_5 => ?_)
      · simp only [w32_mod] at h_5
        refine ww_iload_n hX (pc := 39) dX2_turnOn_39 rfl ?_
        refine ww_if_ne hX (pc := 40) (tgt := 45) dX2_turnOn_40 (by decide) (fun h_40 => ?_) (fun h_40 => ?_)
        · simp only [w32_mod] at h_40
          exact absurd h_40 (by omega)
        · simp only [w32_mod] at h_40
          refine ww_iconst hX (pc := 43) (x := 0) dX2_turnOn_43 rfl ?_
          refine rZ hX (pc := 44) hT (Nat.le_refl 0) (Nat.le_refl 0) dX2_turnOn_44 (by decide) ?_
          exact ⟨(Kp_rf (a := 41) (b := 43)), (Kp_rf (a := 41) (b := 43)), by omega, hr, Or.inl ⟨rfl, fun j h1 h2 => hsk j (by omega) h2⟩⟩
      · simp only [w32_mod] at h_5
        have hp1 := hr.1 (at_ - 1).toNat (by omega)
        have hw1 := hr.1 at_.toNat (by omega)
        have hx1 := hr.2 at_.toNat (by omega) (by omega)
        rw [show at_.toNat - 1 = (at_ - 1).toNat by omega] at hx1
        refine ww_aload_n hX (pc := 8) dX2_turnOn_8 rfl ?_
        refine ww_getR hX (pc := 9) fX2_18 (by decide) (xs_37 hL) (xr_37_1 hL) dX2_turnOn_9 ?_
        refine ww_iload_n hX (pc := 12) dX2_turnOn_12 rfl ?_
        refine ww_iald hX (pc := 13) (xs_41 hL) (by decide) (by omega) (by omega) dX2_turnOn_13 ?_
        refine ww_iload_n hX (pc := 14) dX2_turnOn_14 rfl ?_
        refine ww_iconst hX (pc := 15) (x := 1) dX2_turnOn_15 rfl ?_
        refine ww_isub hX (pc := 16) dX2_turnOn_16 ?_
        refine ww_aload_n hX (pc := 17) dX2_turnOn_17 rfl ?_
        refine ww_getR hX (pc := 18) fX2_22 (by decide) (xs_37 hL) (xr_37_2 hL) dX2_turnOn_18 ?_
        refine ww_iload_n hX (pc := 21) dX2_turnOn_21 rfl ?_
        refine ww_iconst hX (pc := 22) (x := 1) dX2_turnOn_22 rfl ?_
        refine ww_isub hX (pc := 23) dX2_turnOn_23 ?_
        refine ww_iald hX (pc := 24) (xs_42 hL) (by decide) (by omega) (by omega) dX2_turnOn_24 ?_
        refine ww_iconst hX (pc := 25) (x := 1) dX2_turnOn_25 rfl ?_
        refine ww_iadd hX (pc := 26) dX2_turnOn_26 ?_
        refine ww_mmin hX (pc := 27) tb_884 tb_579 tb_13 tb_580 (by decide) (Nat.le_refl 0) (Nat.le_refl 0) (Nat.le_of_ble_eq_true rfl) dX2_turnOn_27 ?_
        refine ww_toI (b := min (b - 1) (Ia 42 (at_ - 1).toNat + 1)) (by rw [i_min_r (by omega) (by omega) (by omega) (by omega)]) ?_
        refine ww_icmp_ne hX (pc := 30) (tgt := 39) dX2_turnOn_30 (by decide) (fun h_30 => ?_) (fun h_30 => ?_)
        · simp only [w32_mod] at h_30
          refine ww_iload_n hX (pc := 39) dX2_turnOn_39 rfl ?_
          refine ww_if_ne hX (pc := 40) (tgt := 45) dX2_turnOn_40 (by decide) (fun h_40 => ?_) (fun h_40 => ?_)
          · simp only [w32_mod] at h_40
            refine ww_aload_n hX (pc := 45) dX2_turnOn_45 rfl ?_
            refine ww_getR hX (pc := 46) fX2_18 (by decide) (xs_37 hL) (xr_37_1 hL) dX2_turnOn_46 ?_
            refine ww_iload_n hX (pc := 49) dX2_turnOn_49 rfl ?_
            refine ww_dup2 hX (pc := 50) dX2_turnOn_50 ?_
            refine ww_iald hX (pc := 51) (xs_41 hL) (by decide) (by omega) (by omega) dX2_turnOn_51 ?_
            refine ww_iconst hX (pc := 52) (x := 1) dX2_turnOn_52 rfl ?_
            refine ww_iadd hX (pc := 53) dX2_turnOn_53 ?_
            refine ww_iast hX (pc := 54) (xs_41 hL) (by decide) (by omega) (by omega) dX2_turnOn_54 ?_
            refine ww_nmH (fun I_54 eI_54 => ?_)
            have kI_54 : Kp 41 43 Ia I_54 := by rw [eI_54]; exact Kp_up (Kp_rf (a := 41) (b := 43)) _ _ (by decide)
            refine ww_aload_n hX (pc := 55) dX2_turnOn_55 rfl ?_
            refine ww_getR hX (pc := 56) fX2_22 (by decide) (xs_37 hL) (xr_37_2 hL) dX2_turnOn_56 ?_
            refine ww_iload_n hX (pc := 59) dX2_turnOn_59 rfl ?_
            refine ww_aload_n hX (pc := 60) dX2_turnOn_60 rfl ?_
            refine ww_getR hX (pc := 61) fX2_22 (by decide) (xs_37 hL) (xr_37_2 hL) dX2_turnOn_61 ?_
            refine ww_iload_n hX (pc := 64) dX2_turnOn_64 rfl ?_
            refine ww_iconst hX (pc := 65) (x := 1) dX2_turnOn_65 rfl ?_
            refine ww_isub hX (pc := 66) dX2_turnOn_66 ?_
            refine ww_iald hX (pc := 67) (xs_42 hL) (by decide) (by omega) (by omega) dX2_turnOn_67 ?_
            refine ww_aload_n hX (pc := 68) dX2_turnOn_68 rfl ?_
            refine ww_getR hX (pc := 69) fX2_18 (by decide) (xs_37 hL) (xr_37_1 hL) dX2_turnOn_69 ?_
            refine ww_iload_n hX (pc := 72) dX2_turnOn_72 rfl ?_
            refine ww_iald hX (pc := 73) (xs_41 hL) (by decide) (by omega) (by omega) dX2_turnOn_73 ?_
            refine ww_mmax hX (pc := 74) tb_885 tb_460 tb_13 tb_461 (by decide) (Nat.le_refl 0) (Nat.le_refl 0) (Nat.le_of_ble_eq_true rfl) dX2_turnOn_74 ?_
            refine ww_toI (b := max (Ia 42 (at_ - 1).toNat) (Ia 41 at_.toNat + 1)) (by rw [eI_54, up2_off _ _ _ (by decide), up2_s, i_max_r (by omega) (by omega) (by omega) (by omega)]) ?_
            refine ww_iast hX (pc := 77) (xs_42 hL) (by decide) (by omega) (by omega) dX2_turnOn_77 ?_
            refine ww_nmH (fun I_77 eI_77 => ?_)
            have kI_77 : Kp 41 43 Ia I_77 := by rw [eI_77]; exact Kp_up kI_54 _ _ (by decide)
            have hr3 : RI I_77 (at_ + 1) b := by rw [eI_77, eI_54]; exact RI_up hr (by omega) (by omega) ha1 hb0 (by omega) rfl
            refine ww_iload_n hX (pc := 78) dX2_turnOn_78 rfl ?_
            refine ww_iconst hX (pc := 79) (x := 1) dX2_turnOn_79 rfl ?_
            refine ww_iadd hX (pc := 80) dX2_turnOn_80 ?_
            refine ww_nmI (fun v_81 hv_81 => ?_)
            refine ww_istore hX (pc := 81) (lv' := [some (kR (some 37)), some (kI a), some (kI b), some (kI at_), some (kI v_81)]) dX2_turnOn_81 (by decide) rfl rfl ?_
            have hl_83 : ∀ (n_83 : Nat) (i : Int) (I2 : aI1) (J2 : aI1), (a - i).toNat = n_83 → (Kp 41 43 Ia I2 ∧ Kp 41 43 Ja J2 ∧ (1 ≤ i ∧ i ≤ a ∧ at_ < i) ∧ RI I2 i b ∧ TI Ia I2 at_ i (max (Ia 42 (at_ - 1).toNat) (Ia 41 at_.toNat + 1))) → WW X 83 [some (kR (some 37)), some (kI a), some (kI b), some (kI at_), some (kI i)] [] I2 J2 Ra Sa 0 0 := by
              intro n_83
              induction n_83 using Nat.strongRecOn with
              | ind n_83 ih_83 =>
                intro i I2 J2 hm_83 hv_83
                have hq_83 := Sh0_i hm_83
                clear hm_83
                obtain ⟨kI2, kJ2, hi, hr2, hti⟩ := hv_83
                refine ww_iload hX (pc := 83) dX2_turnOn_83 rfl ?_
                refine ww_iload_n hX (pc := 85) dX2_turnOn_85 rfl ?_
                refine ww_icmp_ge hX (pc := 86) (tgt := 119) dX2_turnOn_86 (by decide) (fun h_86 => ?_) (fun h_86 => ?_)
                · simp only [w32_mod] at h_86
                  refine ww_iconst hX (pc := 119) (x := 1) dX2_turnOn_119 rfl ?_
                  refine rZ hX (pc := 120) hT (Nat.le_refl 0) (Nat.le_refl 0) dX2_turnOn_120 (by decide) ?_
                  exact ⟨kI2, kJ2, by omega, by rw [show a = i by omega]; exact hr2, Or.inr ⟨rfl, at_, by omega, by omega, hsk, by rw [show at_.toNat - 1 = (at_ - 1).toNat by omega]; omega, by rw [show a = i by omega]; exact hti⟩⟩
                · simp only [w32_mod] at h_86
                  refine ww_aload_n hX (pc := 89) dX2_turnOn_89 rfl ?_
                  refine ww_getR hX (pc := 90) fX2_18 (by decide) (xs_37 hL) (xr_37_1 hL) dX2_turnOn_90 ?_
                  refine ww_iload hX (pc := 93) dX2_turnOn_93 rfl ?_
                  refine ww_iconst hX (pc := 95) (x := 0) dX2_turnOn_95 rfl ?_
                  refine ww_iast hX (pc := 96) (xs_41 hL) (by decide) (by omega) (by omega) dX2_turnOn_96 ?_
                  refine ww_nmH (fun I_96 eI_96 => ?_)
                  have kI_96 : Kp 41 43 Ia I_96 := by rw [eI_96]; exact Kp_up kI2 _ _ (by decide)
                  refine ww_aload_n hX (pc := 97) dX2_turnOn_97 rfl ?_
                  refine ww_getR hX (pc := 98) fX2_22 (by decide) (xs_37 hL) (xr_37_2 hL) dX2_turnOn_98 ?_
                  refine ww_iload hX (pc := 101) dX2_turnOn_101 rfl ?_
                  refine ww_aload_n hX (pc := 103) dX2_turnOn_103 rfl ?_
                  refine ww_getR hX (pc := 104) fX2_22 (by decide) (xs_37 hL) (xr_37_2 hL) dX2_turnOn_104 ?_
                  refine ww_iload hX (pc := 107) dX2_turnOn_107 rfl ?_
                  refine ww_iconst hX (pc := 109) (x := 1) dX2_turnOn_109 rfl ?_
                  refine ww_isub hX (pc := 110) dX2_turnOn_110 ?_
                  refine ww_iald hX (pc := 111) (xs_42 hL) (by decide) (by omega) (by omega) dX2_turnOn_111 ?_
                  refine ww_iast hX (pc := 112) (xs_42 hL) (by decide) (by omega) (by omega) dX2_turnOn_112 ?_
                  refine ww_nmH (fun I_112 eI_112 => ?_)
                  have kI_112 : Kp 41 43 Ia I_112 := by rw [eI_112]; exact Kp_up kI_96 _ _ (by decide)
                  refine ww_iinc hX (pc := 113) (lv' := [some (kR (some 37)), some (kI a), some (kI b), some (kI at_), some (kI (i + 1))]) dX2_turnOn_113 rfl (by decide) rfl rfl ?_
                  refine ww_goto hX (pc := 116) (tgt := 83) dX2_turnOn_116 (by decide) ?_
                  exact ih_83 _ (by have hm9 := Sh0_e hq_83; omega) (i + 1) I_112 J2 rfl ⟨kI_112, kJ2, ⟨by omega, by omega, by omega⟩, by rw [eI_112, eI_96]; exact RI_st hr2 (by omega) (by omega) hb0 (by rw [up2_off _ _ _ (by decide)]), by rw [eI_112, eI_96]; exact TI_st hti (by omega) (by omega) (by rw [up2_off _ _ _ (by decide)])⟩
            exact hl_83 _ v_81 I_77 Ja rfl ⟨kI_77, (Kp_rf (a := 41) (b := 43)), ⟨by omega, by omega, by omega⟩, by rw [hv_81]; exact hr3, by rw [hv_81, eI_77, eI_54]; exact TI_up (by omega)⟩
          · simp only [w32_mod] at h_40
            refine ww_iconst hX (pc := 43) (x := 0) dX2_turnOn_43 rfl ?_
            refine rZ hX (pc := 44) hT (Nat.le_refl 0) (Nat.le_refl 0) dX2_turnOn_44 (by decide) ?_
            exact ⟨(Kp_rf (a := 41) (b := 43)), (Kp_rf (a := 41) (b := 43)), by omega, hr, Or.inl ⟨rfl, fun j h1 h2 => hsk j (by omega) h2⟩⟩
        · simp only [w32_mod] at h_30
          refine ww_iinc hX (pc := 33) (lv' := [some (kR (some 37)), some (kI a), some (kI b), some (kI (at_ + (-1))), none]) dX2_turnOn_33 rfl (by decide) rfl rfl ?_
          refine ww_goto hX (pc := 36) (tgt := 4) dX2_turnOn_36 (by decide) ?_
          exact ih_4 _ (by have hm9 := Sh0_e hq_4; omega) (at_ + (-1)) rfl ⟨⟨by omega, by omega⟩, fun j h1 h2 => by
            by_cases e9 : (j : Int) = at_
            · rw [show j - 1 = (at_ - 1).toNat by omega, show j = at_.toNat by omega]; omega
            · exact hsk j (by omega) h2⟩
  exact hl_4 _ v_3 rfl ⟨⟨by omega, by omega⟩, fun j h1 h2 => absurd h2 (by omega)⟩
/-- a pair's count for t -/
noncomputable def TBt (k N t : Nat) : Int := ((TOTc k N / 16777216 ^ t % 16777216 : Nat) : Int)
/-- what was searched is as it should be -/
def SR (F : aI1) : Prop := ∀ n k : Int, 1 ≤ n → n ≤ 3 → 2 ≤ k → k ≤ 4 → (F 45 ((n - 1) * 3 + k - 2).toNat = 0 ∧ ∀ t : Nat, t < 4 → F 43 (4 * ((n - 1) * 3 + k - 2).toNat + t) = 0) ∨ (F 45 ((n - 1) * 3 + k - 2).toNat = 1 ∧ ∀ t : Nat, t < 4 → F 43 (4 * ((n - 1) * 3 + k - 2).toNat + t) = TBt k.toNat (2 ^ n.toNat) t)
theorem SR_of {F G : aI1} (h : SR F) (h1 : G 43 = F 43) (h2 : G 45 = F 45) : SR G := by unfold SR; rw [h1, h2]; exact h
theorem PK_t {F : aI1} {q T : Nat} (h : PK F q = ((T : Nat) : Int)) (hr : ∀ t : Nat, t < 4 → 0 ≤ F 43 (4 * q + t) ∧ F 43 (4 * q + t) < 16777216) : ∀ t : Nat, t < 4 → F 43 (4 * q + t) = ((T / 16777216 ^ t % 16777216 : Nat) : Int) := by
  have h0 := hr 0 (by decide)
  have h1 := hr 1 (by decide)
  have h2 := hr 2 (by decide)
  have h3 := hr 3 (by decide)
  unfold PK at h
  rw [Nat.add_zero] at h0
  intro t ht
  rcases (show t = 0 ∨ t = 1 ∨ t = 2 ∨ t = 3 by omega) with rfl | rfl | rfl | rfl
  · rw [Nat.add_zero, Nat.pow_zero, Nat.div_one]; omega
  · rw [show 16777216 ^ 1 = 16777216 from rfl]; omega
  · rw [show 16777216 ^ 2 = 281474976710656 from rfl]; omega
  · rw [show 16777216 ^ 3 = 4722366482869645213696 from rfl]; omega
theorem SR_s {F G : aI1} {n k : Int} (h : SR F) (n0 : 1 ≤ n) (n1 : n ≤ 3) (k0 : 2 ≤ k) (k1 : k ≤ 4) (hp : PK G ((n - 1) * 3 + k - 2).toNat = ((TOTc k.toNat (2 ^ n.toNat) : Nat) : Int)) (hr : ∀ t : Nat, t < 4 → 0 ≤ G 43 (4 * ((n - 1) * 3 + k - 2).toNat + t) ∧ G 43 (4 * ((n - 1) * 3 + k - 2).toNat + t) < 16777216) (ho : ∀ j : Nat, (j < 4 * ((n - 1) * 3 + k - 2).toNat ∨ 4 * ((n - 1) * 3 + k - 2).toNat + 4 ≤ j) → G 43 j = F 43 j) (h45 : G 45 = up1 (F 45) ((n - 1) * 3 + k - 2).toNat 1) : SR G := by
  intro n' k' a0 a1 b0 b1
  by_cases e : (n' - 1) * 3 + k' - 2 = (n - 1) * 3 + k - 2
  · have en : n' = n := by omega
    have ek : k' = k := by omega
    subst en ek
    right
    rw [h45, up1_s]
    exact ⟨rfl, PK_t hp hr⟩
  · rw [h45, up1_n _ _ (by omega)]
    rcases h n' k' a0 a1 b0 b1 with ⟨h1, h2⟩ | ⟨h1, h2⟩
    · exact Or.inl ⟨h1, fun t ht => by rw [ho _ (by omega)]; exact h2 t ht⟩
    · exact Or.inr ⟨h1, fun t ht => by rw [ho _ (by omega)]; exact h2 t ht⟩
/-- a pair's count for any t -/
noncomputable def TBX (n k t : Int) : Int := if t ≤ 3 then TBt k.toNat (2 ^ n.toNat) t.toNat else 0
end
section
/-! how many CODES there are, counted STATE by STATE from the last -/
noncomputable def sumX (j : Nat) (f : Nat → Nat) : Nat := Nat.rec (motive := fun _ => Nat) 0 (fun j ih => frc ih (fun a => frc (f j) (fun b => a + b))) j
theorem sumX_s (j : Nat) (f : Nat → Nat) : sumX (j + 1) f = sumX j f + f j := by
  show frc (sumX j f) (fun a => frc (f j) (fun b => a + b)) = _
  rw [frc_e, frc_e]
theorem sumX_cg {f g : Nat → Nat} : ∀ j, (∀ i, i < j → f i = g i) → sumX j f = sumX j g
  | 0, _ => rfl
  | j + 1, h => by rw [sumX_s, sumX_s, sumX_cg j (fun i hi => h i (by omega)), h j (by omega)]
theorem sumX_ad (f g : Nat → Nat) : ∀ j, sumX j (fun i => f i + g i) = sumX j f + sumX j g
  | 0 => rfl
  | j + 1 => by rw [sumX_s, sumX_s, sumX_s, sumX_ad f g j]; omega
theorem sumX_ap (f : Nat → Nat) (a : Nat) : ∀ j, sumX (a + j) f = sumX a f + sumX j (fun i => f (a + i))
  | 0 => rfl
  | j + 1 => by rw [← Nat.add_assoc, sumX_s, sumX_s, sumX_ap f a j]; omega
theorem sumX_2 {k : Nat} (hk : 0 < k) (g : Nat → Nat → Nat) : ∀ m, sumX (m * k) (fun c => g (c % k) (c / k)) = sumX k (fun x => sumX m (fun c => g x c))
  | 0 => by
    rw [Nat.zero_mul]
    show 0 = _
    have h : ∀ j, sumX j (fun x => sumX 0 (fun c => g x c)) = 0 := by
      intro j
      induction j with
      | zero => rfl
      | succ j ih => rw [sumX_s, ih]; rfl
    rw [h]
  | m + 1 => by
    rw [Nat.succ_mul, sumX_ap, sumX_2 hk g m]
    have h1 : sumX k (fun i => g ((m * k + i) % k) ((m * k + i) / k)) = sumX k (fun x => g x m) := sumX_cg k (fun i hi => by
      rw [Nat.mul_comm m k, Nat.mul_add_mod, Nat.mod_eq_of_lt hi, Nat.mul_add_div hk, Nat.div_eq_of_lt hi, Nat.add_zero])
    rw [h1, ← sumX_ad]
    exact sumX_cg k (fun i _ => (sumX_s m (fun c => g i c)).symm)
def pwR (d : Nat) : Nat := pwC d + cond (Nat.ble 4 d) 79228162514264337593543950336 0
theorem pwR_e (d : Nat) : pwR d = (1 + (if 1 ≤ d then 16777216 else 0) + (if 2 ≤ d then 281474976710656 else 0) + (if 3 ≤ d then 4722366482869645213696 else 0)) + (if 4 ≤ d then 79228162514264337593543950336 else 0) := by
  unfold pwR
  rw [pwC_e, ble_if]
noncomputable def cntL (k m : Nat) (cs ls : List Nat) : Nat := Nat.rec (motive := fun _ => List Nat → List Nat → Nat) (fun _ ls => pwR (gd ls 0)) (fun m ih cs ls => frcL (bsV m (Nat.succ m) cs ls k 0 []) (fun bs => sumX k (fun x => frc (mnV x bs) (fun l => ih (x :: cs) (l :: ls))))) m cs ls
theorem cntL_s (k m : Nat) (cs ls : List Nat) : cntL k (m + 1) cs ls = sumX k (fun x => cntL k m (x :: cs) (stL k m x cs ls :: ls)) := by
  show frcL (bsV m (Nat.succ m) cs ls k 0 []) (fun bs => sumX k (fun x => frc (mnV x bs) (fun l => cntL k m (x :: cs) (l :: ls)))) = _
  rw [frcL_e]
  exact sumX_cg k (fun x _ => by rw [frc_e]; rfl)
def dr (k : Nat) : Nat → Nat → List Nat
  | 0, _ => []
  | m + 1, c => (c % k) :: dr k m (c / k)
theorem dr_len (k : Nat) : ∀ m c, (dr k m c).length = m
  | 0, _ => rfl
  | m + 1, c => by show (dr k m (c / k)).length + 1 = m + 1; rw [dr_len k m]
theorem cntL_e {k : Nat} (hk : 0 < k) : ∀ m cs ls, cntL k m cs ls = sumX (k ^ m) (fun c => pwR (gd (lasA k (dr k m c) cs ls) 0))
  | 0, cs, ls => by
    rw [Nat.pow_zero, sumX_s]
    show pwR (gd ls 0) = 0 + pwR (gd ls 0)
    omega
  | m + 1, cs, ls => by
    rw [cntL_s, Nat.pow_succ]
    have h := sumX_2 hk (fun x c => pwR (gd (lasA k (x :: dr k m c) cs ls) 0)) (k ^ m)
    have h2 : sumX (k ^ m * k) (fun c => pwR (gd (lasA k (dr k (m + 1) c) cs ls) 0)) = sumX (k ^ m * k) (fun c => (fun x c => pwR (gd (lasA k (x :: dr k m c) cs ls) 0)) (c % k) (c / k)) := rfl
    rw [h2, h]
    refine sumX_cg k (fun x _ => ?_)
    rw [cntL_e hk m]
    refine sumX_cg _ (fun c _ => ?_)
    show _ = pwR (gd (lasA k (x :: dr k m c) cs ls) 0)
    rw [lasA_c, dr_len]
theorem mkL_ap (f : Nat → Nat) : ∀ m acc, mkL f m acc = mkL f m [] ++ acc
  | 0, acc => rfl
  | m + 1, acc => by
    rw [mkL_s, mkL_s, mkL_ap f m (f m :: acc), mkL_ap f m [f m], List.append_assoc]
    rfl
theorem dgs_rv {k N c : Nat} : ∀ m, m ≤ N → (mkL (dg k N c) m []).reverse = dr k m (dv k c (N - m))
  | 0, _ => rfl
  | m + 1, h => by
    rw [mkL_s, mkL_ap, List.reverse_append]
    show dg k N c m :: (mkL (dg k N c) m []).reverse = (dv k c (N - (m + 1)) % k) :: dr k m (dv k c (N - (m + 1)) / k)
    rw [dgs_rv m (by omega)]
    have e : dv k c (N - (m + 1)) / k = dv k c (N - m) := by
      rw [show N - m = (N - (m + 1)) + 1 by omega]
      rfl
    rw [e]
    unfold dg
    rw [show N - 1 - m = N - (m + 1) by omega]
theorem DL_dr (k N c : Nat) : DL k (dgs k N c) = gd (lasA k (dr k N c) [] []) 0 := by
  unfold DL dgs
  rw [dgs_rv N (Nat.le_refl _), Nat.sub_self]
  rfl
theorem cN_5 {k N : Nat} : ∀ c, sumX c (fun c => pwR (DL k (dgs k N c))) = cN k N 0 c + 16777216 * cN k N 1 c + 281474976710656 * cN k N 2 c + 4722366482869645213696 * cN k N 3 c + 79228162514264337593543950336 * cN k N 4 c
  | 0 => rfl
  | c + 1 => by
    rw [sumX_s, cN_5 c, pwR_e]
    show _ = (cN k N 0 c + _) + 16777216 * (cN k N 1 c + _) + 281474976710656 * (cN k N 2 c + _) + 4722366482869645213696 * (cN k N 3 c + _) + 79228162514264337593543950336 * (cN k N 4 c + _)
    generalize DL k (dgs k N c) = d
    rw [if_pos (show 0 ≤ d by omega)]
    by_cases h1 : 1 ≤ d
    · by_cases h2 : 2 ≤ d
      · by_cases h3 : 3 ≤ d
        · by_cases h4 : 4 ≤ d
          · simp only [if_pos h1, if_pos h2, if_pos h3, if_pos h4]; omega
          · simp only [if_pos h1, if_pos h2, if_pos h3, if_neg h4]; omega
        · simp only [if_pos h1, if_pos h2, if_neg h3, if_neg (show ¬ 4 ≤ d by omega)]; omega
      · simp only [if_pos h1, if_neg h2, if_neg (show ¬ 3 ≤ d by omega), if_neg (show ¬ 4 ≤ d by omega)]; omega
    · simp only [if_neg h1, if_neg (show ¬ 2 ≤ d by omega), if_neg (show ¬ 3 ≤ d by omega), if_neg (show ¬ 4 ≤ d by omega)]; omega
theorem cN_le {k N t : Nat} : ∀ c, cN k N t c ≤ c
  | 0 => Nat.le_refl _
  | c + 1 => by
    have := cN_le (k := k) (N := N) (t := t) c
    show cN k N t c + _ ≤ c + 1
    split <;> omega
theorem cN_mo {k N t u : Nat} (h : t ≤ u) : ∀ c, cN k N u c ≤ cN k N t c
  | 0 => Nat.le_refl _
  | c + 1 => by
    have := cN_mo (k := k) (N := N) h c
    show cN k N u c + _ ≤ cN k N t c + _
    by_cases h1 : u ≤ DL k (dgs k N c)
    · rw [if_pos h1, if_pos (by omega)]; omega
    · rw [if_neg h1]; omega
/-- if the sum is the class's own: the counts are the class's -/
theorem cN_T {k N : Nat} (hk : 0 < k) (hN : k ^ N ≤ 65536) (h : cntL k N [] [] = TOTc k N) (hT : TOTc k N < 79228162514264337593543950336) : (∀ t, t ≤ 3 → cN k N t (k ^ N) = TOTc k N / 16777216 ^ t % 16777216) ∧ ∀ t, 4 ≤ t → cN k N t (k ^ N) = 0 := by
  have h1 := cN_5 (k := k) (N := N) (k ^ N)
  have h2 : sumX (k ^ N) (fun c => pwR (DL k (dgs k N c))) = TOTc k N := by
    rw [← h, cntL_e hk]
    exact sumX_cg _ (fun c _ => by rw [DL_dr])
  rw [h2] at h1
  have b0 := cN_le (k := k) (N := N) (t := 0) (k ^ N)
  have b1 := cN_le (k := k) (N := N) (t := 1) (k ^ N)
  have b2 := cN_le (k := k) (N := N) (t := 2) (k ^ N)
  have b3 := cN_le (k := k) (N := N) (t := 3) (k ^ N)
  have h4 : cN k N 4 (k ^ N) = 0 := by omega
  refine ⟨fun t ht => ?_, fun t ht => ?_⟩
  · rcases (show t = 0 ∨ t = 1 ∨ t = 2 ∨ t = 3 by omega) with rfl | rfl | rfl | rfl
    · rw [Nat.pow_zero, Nat.div_one]; omega
    · rw [show 16777216 ^ 1 = 16777216 from rfl]; omega
    · rw [show 16777216 ^ 2 = 281474976710656 from rfl]; omega
    · rw [show 16777216 ^ 3 = 4722366482869645213696 from rfl]; omega
  · have := cN_mo (k := k) (N := N) ht (k ^ N)
    omega
end
section
theorem tot_2_2 : TOTc 2 2 = 33554436 := by decide +kernel
theorem cnt_2_2 : cntL 2 2 [] [] = 33554436 := by decide +kernel
theorem tot_3_2 : TOTc 3 2 = 9 := by decide +kernel
theorem cnt_3_2 : cntL 3 2 [] [] = 9 := by decide +kernel
theorem tot_4_2 : TOTc 4 2 = 16 := by decide +kernel
theorem cnt_4_2 : cntL 4 2 [] [] = 16 := by decide +kernel
theorem tot_2_4 : TOTc 2 4 = 1688850095144976 := by decide +kernel
theorem cnt_2_4 : cntL 2 4 [] [] = 1688850095144976 := by decide +kernel
theorem tot_3_4 : TOTc 3 4 = 603979857 := by decide +kernel
theorem cnt_3_4 : cntL 3 4 [] [] = 603979857 := by decide +kernel
theorem tot_4_4 : TOTc 4 4 = 402653440 := by decide +kernel
theorem cnt_4_4 : cntL 4 4 [] [] = 402653440 := by decide +kernel
theorem tot_2_8 : TOTc 2 8 = 434457777785556543996160 := by decide +kernel
theorem cnt_2_8 : cntL 2 8 [] [] = 434457777785556543996160 := by decide +kernel
theorem tot_3_8 : TOTc 3 8 = 187462431730047393 := by decide +kernel
theorem cnt_3_8 : cntL 3 8 [] [] = 187462431730047393 := by decide +kernel
theorem tot_4_8 : TOTc 4 8 = 6756084354187264 := by decide +kernel
theorem cnt_4_8 : cntL 4 8 [] [] = 6756084354187264 := by decide +kernel
/-- class and reference count CODES alike -/
theorem codes_eq {n k t : Int} (n0 : 1 ≤ n) (n1 : n ≤ 3) (k0 : 2 ≤ k) (k1 : k ≤ 4) (t0 : 0 ≤ t) : ((cN k.toNat (2 ^ n.toNat) t.toNat (k.toNat ^ (2 ^ n.toNat)) : Nat) : Int) = TBX n k t := by
  unfold TBX
  have key : ∀ (kk N : Nat), 0 < kk → kk ^ N ≤ 65536 → cntL kk N [] [] = TOTc kk N → TOTc kk N < 79228162514264337593543950336 → ((cN kk N t.toNat (kk ^ N) : Nat) : Int) = if t ≤ 3 then TBt kk N t.toNat else 0 := fun kk N h1 h2 h3 h4 => by
    have h5 := cN_T h1 h2 h3 h4
    by_cases ht : t ≤ 3
    · rw [if_pos ht, h5.1 t.toNat (by omega)]
      rfl
    · rw [if_neg ht, h5.2 t.toNat (by omega)]
      rfl
  rcases (show n = 1 ∨ n = 2 ∨ n = 3 by omega) with rfl | rfl | rfl
  · rcases (show k = 2 ∨ k = 3 ∨ k = 4 by omega) with rfl | rfl | rfl
    · exact key 2 2 (by decide) (by decide) (by rw [cnt_2_2, tot_2_2]) (by rw [tot_2_2]; decide)
    · exact key 3 2 (by decide) (by decide) (by rw [cnt_3_2, tot_3_2]) (by rw [tot_3_2]; decide)
    · exact key 4 2 (by decide) (by decide) (by rw [cnt_4_2, tot_4_2]) (by rw [tot_4_2]; decide)
  · rcases (show k = 2 ∨ k = 3 ∨ k = 4 by omega) with rfl | rfl | rfl
    · exact key 2 4 (by decide) (by decide) (by rw [cnt_2_4, tot_2_4]) (by rw [tot_2_4]; decide)
    · exact key 3 4 (by decide) (by decide) (by rw [cnt_3_4, tot_3_4]) (by rw [tot_3_4]; decide)
    · exact key 4 4 (by decide) (by decide) (by rw [cnt_4_4, tot_4_4]) (by rw [tot_4_4]; decide)
  · rcases (show k = 2 ∨ k = 3 ∨ k = 4 by omega) with rfl | rfl | rfl
    · exact key 2 8 (by decide) (by decide) (by rw [cnt_2_8, tot_2_8]) (by rw [tot_2_8]; decide)
    · exact key 3 8 (by decide) (by decide) (by rw [cnt_3_8, tot_3_8]) (by rw [tot_3_8]; decide)
    · exact key 4 8 (by decide) (by decide) (by rw [cnt_4_8, tot_4_8]) (by rw [tot_4_8]; decide)
end
section
/-- which rows, and which single places, of the class's own cells may differ -/
def Fw (rs : List Nat) (ws : List (Nat × Nat)) (I I' : aI1) : Prop := ∀ k j, k < 49 → k ∉ rs → (k, j) ∉ ws → I' k j = I k j
theorem Fw_rf {rs : List Nat} {ws : List (Nat × Nat)} {I : aI1} : Fw rs ws I I := fun _ _ _ _ _ => rfl
theorem Fw_tr {rs : List Nat} {ws : List (Nat × Nat)} {I I1 I2 : aI1} (h : Fw rs ws I I1) (g : Fw rs ws I1 I2) : Fw rs ws I I2 := fun k j h1 h2 h3 => (g k j h1 h2 h3).trans (h k j h1 h2 h3)
theorem Fw_wd {rs rs' : List Nat} {ws ws' : List (Nat × Nat)} {I I' : aI1} (h : Fw rs ws I I') (h1 : ∀ k ∈ rs, k ∈ rs') (h2 : ∀ p ∈ ws, p.1 ∈ rs' ∨ p ∈ ws') : Fw rs' ws' I I' := fun k j g1 g2 g3 => h k j g1 (fun q => g2 (h1 k q)) (fun q => (h2 _ q).elim g2 g3)
theorem Fw_up {rs : List Nat} {ws : List (Nat × Nat)} {I I1 : aI1} {k j : Nat} {v : Int} (h : Fw rs ws I I1) (hk : k ∈ rs ∨ (k, j) ∈ ws) : Fw rs ws I (up2 I1 k j v) := fun a b g1 g2 g3 => by
  rw [up2_n _ _ (by
    by_cases e1 : a = k
    · right
      intro e2
      subst e1 e2
      exact hk.elim g2 g3
    · exact Or.inl e1)]
  exact h a b g1 g2 g3
theorem Fw_upR {rs : List Nat} {ws : List (Nat × Nat)} {I I1 : aI1} {k : Nat} {f : Nat → Int} (h : Fw rs ws I I1) (hk : k ∈ rs) : Fw rs ws I (upR I1 k f) := fun a b g1 g2 g3 => by
  rw [upR_n _ _ (fun e => g2 (by rw [e]; exact hk))]
  exact h a b g1 g2 g3
theorem Fw_kp {rs : List Nat} {ws : List (Nat × Nat)} {I I1 I2 : aI1} {a b : Nat} (h : Fw rs ws I I1) (hk : Kp a b I1 I2) (hr : ∀ k, k < b → a ≤ k → k ∈ rs) : Fw rs ws I I2 := fun k j g1 g2 g3 => by
  rw [hk k (by
    by_cases e : k < a
    · exact Or.inl e
    · right
      refine Decidable.byContradiction (fun e2 => g2 (hr k (by omega) (by omega))))]
  exact h k j g1 g2 g3
theorem Fw_of {rs : List Nat} {ws : List (Nat × Nat)} {I I1 I2 : aI1} (h : Fw rs ws I I1) (hk : ∀ k, k < 49 → k ∉ rs → I2 k = I1 k) : Fw rs ws I I2 := fun k j g1 g2 g3 => by
  rw [hk k g1 g2]
  exact h k j g1 g2 g3
theorem Fw_row {rs : List Nat} {ws : List (Nat × Nat)} {I I' : aI1} (h : Fw rs ws I I') (k : Nat) (h1 : k < 49) (h2 : k ∉ rs) (h3 : ∀ p ∈ ws, p.1 ≠ k) : I' k = I k := funext (fun j => h k j h1 h2 (fun q => h3 _ q rfl))
/-- REFUSED by k: nothing but that differs -/
def RFc (I I' : aI1) (k : Int) : Prop := Fw [48] [(0, 16)] I I' ∧ I' 0 16 = k ∧ I' 48 = up1 (I 48) (-k).toNat (I 48 (-k).toNat + 1)
end
section
/-- the q-th byte of a number, the highest first -/
def by8 (a : Int) (q : Nat) : Int := i_and (i_ushr a (24 - 8 * q)) 255
def PIc (F G : Nat → Int) (l a n : Int) : Prop := (∀ j : Nat, (j : Int) < l → G j = F j) ∧ (∀ q : Nat, (q : Int) < n → G (l.toNat + q) = by8 a q)
theorem PIc_0 {F : Nat → Int} {l a : Int} : PIc F F l a 0 := ⟨fun _ _ => rfl, fun q hq => absurd hq (by omega)⟩
theorem PIc_s {F G : Nat → Int} {l a n m s : Int} (h : PIc F G l a n) (h0 : 0 ≤ l) (hn : 0 ≤ n) (hm : m = n + 1) (hs : s = 24 - 8 * n) {p : Nat} (hp : p = (l + n).toNat) : PIc F (up1 G p (i_and (i_ushr a s) 255)) l a m := by
  subst hm hs hp
  refine ⟨fun j hj => ?_, fun q hq => ?_⟩
  · rw [up1_n _ _ (by omega)]
    exact h.1 j hj
  · by_cases e : (q : Int) = n
    · rw [show l.toNat + q = (l + n).toNat by omega, up1_s, ← e]
      rfl
    · rw [up1_n _ _ (by omega)]
      exact h.2 q (by omega)
def sel5 (a b c e f : Int) (q : Nat) : Int := if q = 0 then a else if q = 1 then b else if q = 2 then c else if q = 3 then e else f
def FDc (F G : Nat → Int) (l a b c e f : Int) : Prop := (∀ j : Nat, (j : Int) < l → G j = F j) ∧ (∀ k : Nat, k < 20 → G (l.toNat + k) = by8 (sel5 a b c e f (k / 4)) (k % 4))
theorem FDc_of {F G1 G2 G3 G4 G5 : Nat → Int} {l a b c e f : Int} (h0 : 0 ≤ l) (h1 : PIc F G1 l a 4) (h2 : PIc G1 G2 (l + 4) b 4) (h3 : PIc G2 G3 (l + 4 + 4) c 4) (h4 : PIc G3 G4 (l + 4 + 4 + 4) e 4) (h5 : PIc G4 G5 (l + 4 + 4 + 4 + 4) f 4) : FDc F G5 l a b c e f := by
  refine ⟨fun j hj => by rw [h5.1 j (by omega), h4.1 j (by omega), h3.1 j (by omega), h2.1 j (by omega), h1.1 j hj], fun k hk => ?_⟩
  unfold sel5
  rcases (show k / 4 = 0 ∨ k / 4 = 1 ∨ k / 4 = 2 ∨ k / 4 = 3 ∨ k / 4 = 4 by omega) with q | q | q | q | q
  · rw [q, if_pos rfl, h5.1 _ (by omega), h4.1 _ (by omega), h3.1 _ (by omega), h2.1 _ (by omega), show l.toNat + k = l.toNat + k % 4 by omega]
    exact h1.2 (k % 4) (by omega)
  · rw [q, if_neg (by decide), if_pos rfl, h5.1 _ (by omega), h4.1 _ (by omega), h3.1 _ (by omega), show l.toNat + k = (l + 4).toNat + k % 4 by omega]
    exact h2.2 (k % 4) (by omega)
  · rw [q, if_neg (by decide), if_neg (by decide), if_pos rfl, h5.1 _ (by omega), h4.1 _ (by omega), show l.toNat + k = (l + 4 + 4).toNat + k % 4 by omega]
    exact h3.2 (k % 4) (by omega)
  · rw [q, if_neg (by decide), if_neg (by decide), if_neg (by decide), if_pos rfl, h5.1 _ (by omega), show l.toNat + k = (l + 4 + 4 + 4).toNat + k % 4 by omega]
    exact h4.2 (k % 4) (by omega)
  · rw [q, if_neg (by decide), if_neg (by decide), if_neg (by decide), if_neg (by decide), show l.toNat + k = (l + 4 + 4 + 4 + 4).toNat + k % 4 by omega]
    exact h5.2 (k % 4) (by omega)
/-- a STATE's NEWS by a ROW of bytes -/
def RWv (F : Nat → Int) (l k : Int) (j : Nat) : Int := if (j : Int) < l ∧ 0 ≤ F j ∧ F j < k then F j else -1
/-- how many of the first n are READ -/
def cnR (F : Nat → Int) : Nat → Int
  | 0 => 0
  | n + 1 => cnR F n + (if F n = -1 then 0 else 1)
theorem cnR_cg {F G : Nat → Int} : ∀ n, (∀ j, j < n → F j = G j) → cnR F n = cnR G n
  | 0, _ => rfl
  | n + 1, h => by
    show cnR F n + _ = cnR G n + _
    rw [cnR_cg n (fun j hj => h j (by omega)), h n (by omega)]
theorem cnR_s (F : Nat → Int) {i : Int} (h : 0 ≤ i) : cnR F (i + 1).toNat = cnR F i.toNat + (if F i.toNat = -1 then 0 else 1) := by
  rw [show (i + 1).toNat = i.toNat + 1 by omega]
  rfl
set_option maxHeartbeats 4000000 in
set_option maxRecDepth 20000 in
theorem c5_X9_put (l0 : Launch) {Ia Ja : aI1} {Ra : aR1} {Sa : aS1} (hL : LY Ra Sa) {a : Int} (hl0 : 0 ≤ Ia 8 1) (hl1 : Ia 8 1 ≤ 396) (hby : (∀ j, j < 400 → 0 ≤ Ia 9 j ∧ Ia 9 j ≤ 255))  : CT l0 0 0 0 mX9_put [kR (some 8), kI a] Ia Ja Ra Sa (cV (fun I' J' => Kp 8 10 Ia I' ∧ Kp 8 10 Ja J' ∧ I' 8 1 = Ia 8 1 + 4 ∧ (∀ j, j < 400 → 0 ≤ I' 9 j ∧ I' 9 j ≤ 255) ∧ PIc (Ia 9) (I' 9) (Ia 8 1) a 4) Ra Sa) := by
  refine ct_in pn_X9 (Nat.le_of_ble_eq_true rfl) (fun X hX hT hIn => ?_)
  have hX : aK l0 X cX9_put 3 RX9 none 0 0 0 := hX
  change WW X 0 [some (kR (some 8)), some (kI a), none] [] Ia Ja Ra Sa 0 0
  refine ww_bipush hX (pc := 0) (x := 24) dX9_put_0 (by decide) ?_
  refine ww_istore_n hX (pc := 2) (lv' := [some (kR (some 8)), some (kI a), some (kI 24)]) dX9_put_2 (by decide) rfl rfl ?_
  have hl_3 : ∀ (n_3 : Nat) (sh : Int) (I2 : aI1) (J2 : aI1), (sh + 8).toNat = n_3 → (Kp 8 10 Ia I2 ∧ Kp 8 10 Ja J2 ∧ (-8 ≤ sh ∧ sh ≤ 24 ∧ sh % 8 = 0) ∧ I2 8 1 = Ia 8 1 + (24 - sh) / 8 ∧ (∀ j, j < 400 → 0 ≤ I2 9 j ∧ I2 9 j ≤ 255) ∧ PIc (Ia 9) (I2 9) (Ia 8 1) a ((24 - sh) / 8)) → WW X 3 [some (kR (some 8)), some (kI a), some (kI sh)] [] I2 J2 Ra Sa 0 0 := by
    intro n_3
    induction n_3 using Nat.strongRecOn with
    | ind n_3 ih_3 =>
      intro sh I2 J2 hm_3 hv_3
      have hq_3 := Sh0_i hm_3
      clear hm_3
      obtain ⟨kI2, kJ2, hsh, hle0, hby2, hpi⟩ := hv_3
      refine ww_iload_n hX (pc := 3) dX9_put_3 rfl ?_
      refine ww_if_lt hX (pc := 4) (tgt := 49) dX9_put_4 (by decide) (fun h_4 => ?_) (fun h_4 => ?_)
      · simp only [w32_mod] at h_4
        refine rV hX (pc := 49) hT (Nat.le_refl 0) (Nat.le_refl 0) dX9_put_49 ?_
        exact ⟨kI2, kJ2, by omega, hby2, (show (24 - sh) / 8 = 4 by omega) ▸ hpi⟩
      · simp only [w32_mod] at h_4
        refine ww_aload_n hX (pc := 7) dX9_put_7 rfl ?_
        refine ww_getI hX (pc := 8) fX9_15 (by decide) (xs_8 hL) dX9_put_8 ?_
        refine ww_sipush hX (pc := 11) (x := 400) dX9_put_11 (by decide) ?_
        refine ww_icmp_ge hX (pc := 14) (tgt := 49) dX9_put_14 (by decide) (fun h_14 => ?_) (fun h_14 => ?_)
        · simp only [w32_mod] at h_14
          refine rV hX (pc := 49) hT (Nat.le_refl 0) (Nat.le_refl 0) dX9_put_49 ?_
          exact ⟨kI2, kJ2, by omega, hby2, (show (24 - sh) / 8 = 4 by omega) ▸ hpi⟩
        · simp only [w32_mod] at h_14
          have hbb := i_and_255 (i_ushr a sh)
          refine ww_aload_n hX (pc := 17) dX9_put_17 rfl ?_
          refine ww_getR hX (pc := 18) fX9_9 (by decide) (xs_8 hL) (xr_8_0 hL) dX9_put_18 ?_
          refine ww_aload_n hX (pc := 21) dX9_put_21 rfl ?_
          refine ww_getI hX (pc := 22) fX9_15 (by decide) (xs_8 hL) dX9_put_22 ?_
          refine ww_iload_n hX (pc := 25) dX9_put_25 rfl ?_
          refine ww_iload_n hX (pc := 26) dX9_put_26 rfl ?_
          refine ww_iushr hX (pc := 27) dX9_put_27 ?_
          refine ww_sipush hX (pc := 28) (x := 255) dX9_put_28 (by decide) ?_
          refine ww_iand hX (pc := 31) dX9_put_31 ?_
          refine ww_iast hX (pc := 32) (xs_9 hL) (by decide) (by omega) (by omega) dX9_put_32 ?_
          refine ww_nmH (fun I_32 eI_32 => ?_)
          have kI_32 : Kp 8 10 Ia I_32 := by rw [eI_32]; exact Kp_up kI2 _ _ (by decide)
          have hle : I_32 8 1 = I2 8 1 := by rw [eI_32, up2_off _ _ _ (by decide)]
          have hbz : (∀ j, j < 400 → 0 ≤ I_32 9 j ∧ I_32 9 j ≤ 255) := by rw [eI_32]; exact rng_upN hbb hby2
          have hp32 : PIc (Ia 9) (I_32 9) (Ia 8 1) a ((24 - (sh + (-8))) / 8) := by rw [eI_32, up2_row]; exact PIc_s hpi (by omega) (by omega) (by omega) (by omega) (by omega)
          refine ww_aload_n hX (pc := 33) dX9_put_33 rfl ?_
          refine ww_dupR hX (pc := 34) dX9_put_34 ?_
          refine ww_getI hX (pc := 35) fX9_15 (by decide) (xs_8 hL) dX9_put_35 ?_
          refine ww_iconst hX (pc := 38) (x := 1) dX9_put_38 rfl ?_
          refine ww_iadd hX (pc := 39) dX9_put_39 ?_
          refine ww_putI hX (pc := 40) (fun h9 => absurd h9 (by decide)) gX9_15 rfl (xs_8 hL) dX9_put_40 ?_
          refine ww_nmH (fun I_40 eI_40 => ?_)
          have kI_40 : Kp 8 10 Ia I_40 := by rw [eI_40]; exact Kp_up kI_32 _ _ (by decide)
          have hle2 : I_40 8 1 = I2 8 1 + 1 := by rw [eI_40, up2_s, hle]
          have hbz2 : (∀ j, j < 400 → 0 ≤ I_40 9 j ∧ I_40 9 j ≤ 255) := by rw [eI_40, up2_off _ _ _ (by decide)]; exact hbz
          have hp40 : PIc (Ia 9) (I_40 9) (Ia 8 1) a ((24 - (sh + (-8))) / 8) := by rw [eI_40, up2_off _ _ _ (by decide)]; exact hp32
          refine ww_iinc hX (pc := 43) (lv' := [some (kR (some 8)), some (kI a), some (kI (sh + (-8)))]) dX9_put_43 rfl (by decide) rfl rfl ?_
          refine ww_goto hX (pc := 46) (tgt := 3) dX9_put_46 (by decide) ?_
          exact ih_3 _ (by have hm9 := Sh0_e hq_3; omega) (sh + (-8)) I_40 J2 rfl ⟨kI_40, kJ2, by omega, by omega, hbz2, hp40⟩
  exact hl_3 _ 24 Ia Ja rfl ⟨(Kp_rf (a := 8) (b := 10)), (Kp_rf (a := 8) (b := 10)), by omega, by omega, hby, PIc_0⟩
set_option maxHeartbeats 4000000 in
set_option maxRecDepth 20000 in
theorem c5_X1_readCount (l0 : Launch) {Ia Ja : aI1} {Ra : aR1} {Sa : aS1} (hL : LY Ra Sa) (hI : XI Ia)  : CT l0 1 0 0 mX1_readCount [kR (some 1)] Ia Ja Ra Sa (cI (fun x I' J' => Ia = I' ∧ Ja = J' ∧ x = cnR (Ia 3) (FU (Ia 1 5) + 1).toNat) Ra Sa) := by
  refine ct_in pn_X1 (Nat.le_of_ble_eq_true rfl) (fun X hX hT hIn => ?_)
  have hX : aK l0 X cX1_readCount 4 RX1 (some .int) 1 0 0 := hX
  change WW X 0 [some (kR (some 1)), none, none, none] [] Ia Ja Ra Sa 0 0
  obtain ⟨hn1, hn2⟩ := hI.1
  obtain ⟨hk1, hk2⟩ := hI.2.1
  obtain ⟨hf1, hf2⟩ := hI.fu
  refine ww_iconst hX (pc := 0) (x := 0) dX1_readCount_0 rfl ?_
  refine ww_istore_n hX (pc := 1) (lv' := [some (kR (some 1)), some (kI 0), none, none]) dX1_readCount_1 (by decide) rfl rfl ?_
  refine ww_aload_n hX (pc := 2) dX1_readCount_2 rfl ?_
  refine vI0 hX (pc := 3) sX1_43 (xs_1 hL) (c_X1_full l0 hL hI) (by decide) (Nat.le_refl 0) (Nat.le_refl 0) (Nat.le_of_ble_eq_true rfl) dX1_readCount_3 (fun x_3 I_3 J_3 h_3 => ?_)
  obtain ⟨rfl, rfl, h_3⟩ := h_3
  refine ww_istore_n hX (pc := 6) (lv' := [some (kR (some 1)), some (kI 0), some (kI x_3), none]) dX1_readCount_6 (by decide) rfl rfl ?_
  refine ww_iconst hX (pc := 7) (x := 0) dX1_readCount_7 rfl ?_
  refine ww_istore_n hX (pc := 8) (lv' := [some (kR (some 1)), some (kI 0), some (kI x_3), some (kI 0)]) dX1_readCount_8 (by decide) rfl rfl ?_
  have hl_9 : ∀ (n_9 : Nat) (mn : Int) (q : Int), (x_3 + 1 - q).toNat = n_9 → ((0 ≤ q ∧ q ≤ x_3 + 1) ∧ mn = cnR (Ia 3) q.toNat) → WW X 9 [some (kR (some 1)), some (kI mn), some (kI x_3), some (kI q)] [] Ia Ja Ra Sa 0 0 := by
    intro n_9
    induction n_9 using Nat.strongRecOn with
    | ind n_9 ih_9 =>
      intro mn q hm_9 hv_9
      have hq_9 := Sh0_i hm_9
      clear hm_9
      obtain ⟨⟨hq0, hq1⟩, hmn⟩ := hv_9
      refine ww_iload_n hX (pc := 9) dX1_readCount_9 rfl ?_
      refine ww_iload_n hX (pc := 10) dX1_readCount_10 rfl ?_
      refine ww_icmp_gt hX (pc := 11) (tgt := 38) dX1_readCount_11 (by decide) (fun h_11 => ?_) (fun h_11 => ?_)
      · simp only [w32_mod] at h_11
        refine ww_iload_n hX (pc := 38) dX1_readCount_38 rfl ?_
        refine rI hX (pc := 39) hT (Nat.le_refl 0) (Nat.le_refl 0) dX1_readCount_39 ?_
        exact ⟨rfl, rfl, by rw [hmn, show q = FU (Ia 1 5) + 1 by omega]⟩
      · simp only [w32_mod] at h_11
        have hcd := hI.2.2.2.2.2.2.2.2.2.1 q.toNat (by omega)
        have hcs := cnR_s (Ia 3) hq0
        refine ww_iload_n hX (pc := 14) dX1_readCount_14 rfl ?_
        refine ww_aload_n hX (pc := 15) dX1_readCount_15 rfl ?_
        refine ww_getR hX (pc := 16) fX1_15 (by decide) (xs_1 hL) (xr_1_1 hL) dX1_readCount_16 ?_
        refine ww_iload_n hX (pc := 19) dX1_readCount_19 rfl ?_
        refine ww_iald hX (pc := 20) (xs_3 hL) (by decide) (by omega) (by omega) dX1_readCount_20 ?_
        refine ww_iconst hX (pc := 21) (x := (-1)) dX1_readCount_21 rfl ?_
        refine ww_icmp_ne hX (pc := 22) (tgt := 29) dX1_readCount_22 (by decide) (fun h_22 => ?_) (fun h_22 => ?_)
        · simp only [w32_mod] at h_22
          rw [if_neg (by omega)] at hcs
          refine ww_iconst hX (pc := 29) (x := 1) dX1_readCount_29 rfl ?_
          refine ww_iadd hX (pc := 30) dX1_readCount_30 ?_
          refine ww_nmI (fun v_31 hv_31 => ?_)
          refine ww_istore_n hX (pc := 31) (lv' := [some (kR (some 1)), some (kI v_31), some (kI x_3), some (kI q)]) dX1_readCount_31 (by decide) rfl rfl ?_
          refine ww_iinc hX (pc := 32) (lv' := [some (kR (some 1)), some (kI v_31), some (kI x_3), some (kI (q + 1))]) dX1_readCount_32 rfl (by decide) rfl rfl ?_
          refine ww_goto hX (pc := 35) (tgt := 9) dX1_readCount_35 (by decide) ?_
          exact ih_9 _ (by have hm9 := Sh0_e hq_9; omega) v_31 (q + 1) rfl ⟨⟨by omega, by omega⟩, by omega⟩
        · simp only [w32_mod] at h_22
          rw [if_pos (by omega)] at hcs
          refine ww_iconst hX (pc := 25) (x := 0) dX1_readCount_25 rfl ?_
          refine ww_goto hX (pc := 26) (tgt := 30) dX1_readCount_26 (by decide) ?_
          refine ww_iadd hX (pc := 30) dX1_readCount_30 ?_
          refine ww_nmI (fun v_31 hv_31 => ?_)
          refine ww_istore_n hX (pc := 31) (lv' := [some (kR (some 1)), some (kI v_31), some (kI x_3), some (kI q)]) dX1_readCount_31 (by decide) rfl rfl ?_
          refine ww_iinc hX (pc := 32) (lv' := [some (kR (some 1)), some (kI v_31), some (kI x_3), some (kI (q + 1))]) dX1_readCount_32 rfl (by decide) rfl rfl ?_
          refine ww_goto hX (pc := 35) (tgt := 9) dX1_readCount_35 (by decide) ?_
          exact ih_9 _ (by have hm9 := Sh0_e hq_9; omega) v_31 (q + 1) rfl ⟨⟨by omega, by omega⟩, by omega⟩
  exact hl_9 _ 0 0 rfl ⟨⟨by omega, by omega⟩, rfl⟩
end
section
theorem TBX_r (n k t : Int) : 0 ≤ TBX n k t ∧ TBX n k t < 16777216 := by
  unfold TBX TBt
  split <;> omega
theorem mem_37 {rs : List Nat} {k : Nat} (h1 : 37 ≤ k) (h2 : k < 46) (h : ∀ k, k < 46 → 37 ≤ k → k ∈ rs) : k ∈ rs := h k h2 h1
end
section
/-- cells from c on keep what the coast keeps in I, R -/
def ImC (I I' : aI1) (R R' : aR1) (c : Nat) : Prop := (∀ j, 5 ≤ j → j ≤ 11 → I' c j = I 1 j) ∧ (∀ j, j < 8 → I' (c + 1) j = I 2 j) ∧ (∀ s, s < 256 → I' (c + 2) s = I 3 s) ∧ (∀ j, j < 24 → I' (c + 4) j = I 5 j) ∧ (∀ j, j < 16 → I' (c + 5) j = I 6 j) ∧ (∀ i, i < 6 → R' (c + 3) i = R 4 i)
/-- the coast is again what cells from c on keep -/
def BkC (I I' : aI1) (R R' : aR1) (c : Nat) : Prop := (∀ j, 5 ≤ j → j ≤ 11 → I' 1 j = I c j) ∧ (∀ j, j < 8 → I' 2 j = I (c + 1) j) ∧ (∀ s, s < 256 → I' 3 s = I (c + 2) s) ∧ (∀ j, j < 24 → I' 5 j = I (c + 4) j) ∧ (∀ j, j < 16 → I' 6 j = I (c + 5) j) ∧ (∀ i, i < 6 → R' 4 i = R (c + 3) i)
theorem mem_10 {rs : List Nat} {k : Nat} (h1 : 10 ≤ k) (h2 : k < 15) (h : ∀ k, k < 15 → 10 ≤ k → k ∈ rs) : k ∈ rs := h k h2 h1
end
section
theorem FU_2 {a : Int} (h0 : 1 ≤ a) (h1 : a ≤ 3) : (FU a + 1).toNat = 2 ^ a.toNat := by
  rcases (show a = 1 ∨ a = 2 ∨ a = 3 by omega) with rfl | rfl | rfl <;> decide
end
section
/-- row 51 emptied -/
def EMr (F : Nat → Int) (j : Nat) : Int := if j < 256 then -1 else if j = 307 ∨ j = 308 ∨ j = 309 then 0 else F j
theorem EMr_o {F : Nat → Int} {j : Nat} (h : 256 ≤ j) (h1 : ¬ (j = 307 ∨ j = 308 ∨ j = 309)) : EMr F j = F j := by
  unfold EMr
  rw [if_neg (by omega), if_neg h1]
theorem EMr_c {F : Nat → Int} {j : Nat} (h : j < 256) : EMr F j = -1 := if_pos h
theorem EMr_z {F : Nat → Int} {j : Nat} (h1 : j = 307 ∨ j = 308 ∨ j = 309) : EMr F j = 0 := by
  unfold EMr
  rw [if_neg (by omega), if_pos h1]
set_option maxHeartbeats 4000000 in
set_option maxRecDepth 20000 in
theorem c5_X11_empties (l0 : Launch) {Ia Ja : aI1} {Ra : aR1} {Sa : aS1} (hL : LY Ra Sa) (hQ : RX Ia)  : CT l0 0 0 0 mX11_empties [kR (some 49)] Ia Ja Ra Sa (cV (fun I' J' => Ch [51] [] Ia I' ∧ Kp 49 73 Ja J' ∧ RX I' ∧ I' 51 = EMr (Ia 51)) Ra Sa) := by
  refine ct_in pn_X11 (Nat.le_of_ble_eq_true rfl) (fun X hX hT hIn => ?_)
  have hX : aK l0 X cX11_empties 2 RX11 none 0 0 0 := hX
  change WW X 0 [some (kR (some 49)), none] [] Ia Ja Ra Sa 0 0
  have qIa := RX_o hQ
  refine ww_iconst hX (pc := 0) (x := 0) dX11_empties_0 rfl ?_
  refine ww_istore_n hX (pc := 1) (lv' := [some (kR (some 49)), some (kI 0)]) dX11_empties_1 (by decide) rfl rfl ?_
  have hl_2 : ∀ (n_2 : Nat) (i : Int) (I2 : aI1) (J2 : aI1), (256 - i).toNat = n_2 → (Ch [51] [] Ia I2 ∧ RX I2 ∧ Kp 49 73 Ja J2 ∧ I2 51 304 = Ia 51 304 ∧ I2 51 305 = Ia 51 305 ∧ (0 ≤ i ∧ i ≤ 256) ∧ (∀ j : Nat, I2 51 j = if (j : Int) < i then -1 else Ia 51 j)) → WW X 2 [some (kR (some 49)), some (kI i)] [] I2 J2 Ra Sa 0 0 := by
    intro n_2
    induction n_2 using Nat.strongRecOn with
    | ind n_2 ih_2 =>
      intro i I2 J2 hm_2 hv_2
      have hq_2 := Sh0_i hm_2
      clear hm_2
      obtain ⟨kI2, cI2, kJ2, r304_I2, r305_I2, hv, hej⟩ := hv_2
      have qI2 := RX_o cI2
      have rf_I2 : FU (I2 51 304) = FU (Ia 51 304) := by rw [r304_I2]
      refine ww_iload_n hX (pc := 2) dX11_empties_2 rfl ?_
      refine ww_sipush hX (pc := 3) (x := 256) dX11_empties_3 (by decide) ?_
      refine ww_icmp_ge hX (pc := 6) (tgt := 24) dX11_empties_6 (by decide) (fun h_6 => ?_) (fun h_6 => ?_)
      · simp only [w32_mod] at h_6
        refine ww_aload_n hX (pc := 24) dX11_empties_24 rfl ?_
        refine ww_getR hX (pc := 25) fX11_20 (by decide) (xs_49 hL) (xr_49_3 hL) dX11_empties_25 ?_
        refine ww_sipush hX (pc := 28) (x := 307) dX11_empties_28 (by decide) ?_
        refine ww_iconst hX (pc := 31) (x := 0) dX11_empties_31 rfl ?_
        refine ww_iast hX (pc := 32) (xs_51 hL) (by decide) (by omega) (by omega) dX11_empties_32 ?_
        refine ww_nmH (fun I_32 eI_32 => ?_)
        have kI_32 : Ch [51] [] Ia I_32 := by rw [eI_32]; exact Ch_r kI2 (by decide) (by decide)
        have cI_32 : RX I_32 := by rw [eI_32]; exact RX_307 cI2 (by omega) (by omega)
        have qI_32 := RX_o cI_32
        have r304_I_32 : I_32 51 304 = I2 51 304 := by rw [eI_32, up2_n _ _ (Or.inr (by decide))]
        have r305_I_32 : I_32 51 305 = I2 51 305 := by rw [eI_32, up2_n _ _ (Or.inr (by decide))]
        have rf_I_32 : FU (I_32 51 304) = FU (I2 51 304) := by rw [r304_I_32]
        refine ww_aload_n hX (pc := 33) dX11_empties_33 rfl ?_
        refine ww_getR hX (pc := 34) fX11_20 (by decide) (xs_49 hL) (xr_49_3 hL) dX11_empties_34 ?_
        refine ww_sipush hX (pc := 37) (x := 308) dX11_empties_37 (by decide) ?_
        refine ww_iconst hX (pc := 40) (x := 0) dX11_empties_40 rfl ?_
        refine ww_iast hX (pc := 41) (xs_51 hL) (by decide) (by omega) (by omega) dX11_empties_41 ?_
        refine ww_nmH (fun I_41 eI_41 => ?_)
        have kI_41 : Ch [51] [] Ia I_41 := by rw [eI_41]; exact Ch_r kI_32 (by decide) (by decide)
        have cI_41 : RX I_41 := by rw [eI_41]; exact RX_308 cI_32 (by omega) (by omega)
        have qI_41 := RX_o cI_41
        have r304_I_41 : I_41 51 304 = I_32 51 304 := by rw [eI_41, up2_n _ _ (Or.inr (by decide))]
        have r305_I_41 : I_41 51 305 = I_32 51 305 := by rw [eI_41, up2_n _ _ (Or.inr (by decide))]
        have rf_I_41 : FU (I_41 51 304) = FU (I_32 51 304) := by rw [r304_I_41]
        refine ww_aload_n hX (pc := 42) dX11_empties_42 rfl ?_
        refine ww_getR hX (pc := 43) fX11_20 (by decide) (xs_49 hL) (xr_49_3 hL) dX11_empties_43 ?_
        refine ww_sipush hX (pc := 46) (x := 309) dX11_empties_46 (by decide) ?_
        refine ww_iconst hX (pc := 49) (x := 0) dX11_empties_49 rfl ?_
        refine ww_iast hX (pc := 50) (xs_51 hL) (by decide) (by omega) (by omega) dX11_empties_50 ?_
        refine ww_nmH (fun I_50 eI_50 => ?_)
        have kI_50 : Ch [51] [] Ia I_50 := by rw [eI_50]; exact Ch_r kI_41 (by decide) (by decide)
        have cI_50 : RX I_50 := by rw [eI_50]; exact RX_309 cI_41 (by omega) (by omega)
        have qI_50 := RX_o cI_50
        have r304_I_50 : I_50 51 304 = I_41 51 304 := by rw [eI_50, up2_n _ _ (Or.inr (by decide))]
        have r305_I_50 : I_50 51 305 = I_41 51 305 := by rw [eI_50, up2_n _ _ (Or.inr (by decide))]
        have rf_I_50 : FU (I_50 51 304) = FU (I_41 51 304) := by rw [r304_I_50]
        refine rV hX (pc := 51) hT (Nat.le_refl 0) (Nat.le_refl 0) dX11_empties_51 ?_
        exact ⟨kI_50, kJ2, cI_50, (by
            rw [eI_50, up2_row, eI_41, up2_row, eI_32, up2_row]
            funext j
            by_cases e1 : j = 309
            · subst e1; exact (up1_s _ _ _).trans (EMr_z (by decide)).symm
            · by_cases e2 : j = 308
              · subst e2; exact (up1_n _ _ (by decide)).trans ((up1_s _ _ _).trans (EMr_z (by decide)).symm)
              · by_cases e3 : j = 307
                · subst e3; exact (up1_n _ _ (by decide)).trans ((up1_n _ _ (by decide)).trans ((up1_s _ _ _).trans (EMr_z (by decide)).symm))
                · refine (up1_n _ _ e1).trans ((up1_n _ _ e2).trans ((up1_n _ _ e3).trans ?_))
                  rw [hej j]
                  by_cases e4 : j < 256
                  · rw [if_pos (by omega), EMr_c e4]
                  · rw [if_neg (by omega), EMr_o (by omega) (by omega)])⟩
      · simp only [w32_mod] at h_6
        refine ww_aload_n hX (pc := 9) dX11_empties_9 rfl ?_
        refine ww_getR hX (pc := 10) fX11_20 (by decide) (xs_49 hL) (xr_49_3 hL) dX11_empties_10 ?_
        refine ww_iconst hX (pc := 13) (x := 0) dX11_empties_13 rfl ?_
        refine ww_iload_n hX (pc := 14) dX11_empties_14 rfl ?_
        refine ww_iadd hX (pc := 15) dX11_empties_15 ?_
        refine ww_iconst hX (pc := 16) (x := (-1)) dX11_empties_16 rfl ?_
        refine ww_iast hX (pc := 17) (xs_51 hL) (by decide) (by omega) (by omega) dX11_empties_17 ?_
        refine ww_nmH (fun I_17 eI_17 => ?_)
        have kI_17 : Ch [51] [] Ia I_17 := by rw [eI_17]; exact Ch_r kI2 (by decide) (by decide)
        have cI_17 : RX I_17 := by rw [eI_17]; exact RX_lo cI2 (by omega)
        have qI_17 := RX_o cI_17
        have r304_I_17 : I_17 51 304 = I2 51 304 := by rw [eI_17, up2_n _ _ (Or.inr (by omega))]
        have r305_I_17 : I_17 51 305 = I2 51 305 := by rw [eI_17, up2_n _ _ (Or.inr (by omega))]
        have rf_I_17 : FU (I_17 51 304) = FU (I2 51 304) := by rw [r304_I_17]
        have t17 : ∀ j : Nat, I_17 51 j = if (j : Int) < i + 1 then -1 else Ia 51 j := fun j => by
          rw [eI_17, up2_row]
          by_cases e9 : j = (0 + i).toNat
          · rw [e9, up1_s, if_pos (by omega)]
          · rw [up1_n _ _ e9, hej j]
            by_cases e8 : (j : Int) < i
            · rw [if_pos e8, if_pos (by omega)]
            · rw [if_neg e8, if_neg (by omega)]
        refine ww_iinc hX (pc := 18) (lv' := [some (kR (some 49)), some (kI (i + 1))]) dX11_empties_18 rfl (by decide) rfl rfl ?_
        refine ww_goto hX (pc := 21) (tgt := 2) dX11_empties_21 (by decide) ?_
        exact ih_2 _ (by have hm9 := Sh0_e hq_2; omega) (i + 1) I_17 J2 rfl ⟨kI_17, cI_17, kJ2, by omega, by omega, ⟨by omega, by omega⟩, t17⟩
  exact hl_2 _ 0 Ia Ja rfl ⟨Ch_rf, hQ, (Kp_rf (a := 49) (b := 73)), rfl, rfl, ⟨by omega, by omega⟩, fun j => by rw [if_neg (by omega)]⟩
end
section
theorem imgR_at {I : aI1} {a : Int} (h0 : 0 ≤ a) {j : Nat} (hj : j < 5117) : imgR I a 5117 52 (5117 * a.toNat + j) = I 51 j := by
  unfold imgR
  rw [upR_s]
  show (if 5117 * a ≤ ((5117 * a.toNat + j : Nat) : Int) ∧ ((5117 * a.toNat + j : Nat) : Int) < 5117 * a + 5117 then I 51 (((5117 * a.toNat + j : Nat) : Int) - 5117 * a).toNat else I 52 (5117 * a.toNat + j)) = I 51 j
  rw [if_pos (by omega)]
  exact congrArg _ (by omega)
theorem imgR_of {I : aI1} {a : Int} (h0 : 0 ≤ a) {b : Nat} (hb : b < 5117 * a.toNat ∨ 5117 * a.toNat + 5117 ≤ b) : imgR I a 5117 52 b = I 52 b := by
  unfold imgR
  rw [upR_s]
  show (if 5117 * a ≤ (b : Int) ∧ (b : Int) < 5117 * a + 5117 then I 51 ((b : Int) - 5117 * a).toNat else I 52 b) = I 52 b
  rw [if_neg (by omega)]
theorem backR_at {I : aI1} {a : Int} (h0 : 0 ≤ a) {j : Nat} (hj : j < 5117) : backR I a 5117 51 j = I 52 (5117 * a.toNat + j) := by
  unfold backR
  rw [upR_s]
  show (if (j : Int) < 5117 then I 52 (5117 * a + j).toNat else I 51 j) = I 52 (5117 * a.toNat + j)
  rw [if_pos (by omega)]
  exact congrArg _ (by omega)
set_option maxHeartbeats 4000000 in
set_option maxRecDepth 20000 in
theorem c2_X11_torn (l0 : Launch) {Ia Ja : aI1} {Ra : aR1} {Sa : aS1} (hL : LY Ra Sa) (hQ : RX Ia)  : CT l0 0 0 0 mX11_torn [kR (some 49)] Ia Ja Ra Sa (cI (fun x I' J' => Ia = I' ∧ Ja = J' ∧ x = Ia 49 6) Ra Sa) := by
  refine ct_in pn_X11 (Nat.le_of_ble_eq_true rfl) (fun X hX hT hIn => ?_)
  have hX : aK l0 X cX11_torn 1 RX11 (some .int) 0 0 0 := hX
  change WW X 0 [some (kR (some 49))] [] Ia Ja Ra Sa 0 0
  have qIa := RX_o hQ
  refine ww_aload_n hX (pc := 0) dX11_torn_0 rfl ?_
  refine ww_getI hX (pc := 1) fX11_136 (by decide) (xs_49 hL) dX11_torn_1 ?_
  refine rI hX (pc := 4) hT (Nat.le_refl 0) (Nat.le_refl 0) dX11_torn_4 ?_
  exact ⟨rfl, rfl, rfl⟩
end
section
def FDr (F G : Nat → Int) (l a b c e f : Int) : Prop := (∀ j : Nat, (j : Int) < l → G j = F j) ∧ (∀ k : Nat, k < 20 → G (l.toNat + k) = i_b (i_shr (sel5 a b c e f (k / 4)) (24 - 8 * ((k % 4 : Nat) : Int))))
def FIr (F G : Nat → Int) (l a b c e f n : Int) : Prop := (∀ j : Nat, (j : Int) < l → G j = F j) ∧ (∀ k : Nat, (k : Int) < n → G (l.toNat + k) = i_b (i_shr (sel5 a b c e f (k / 4)) (24 - 8 * ((k % 4 : Nat) : Int))))
theorem FIr_0 {F : Nat → Int} {l a b c e f : Int} : FIr F F l a b c e f 0 := ⟨fun _ _ => rfl, fun q hq => absurd hq (by omega)⟩
theorem FIr_s {F G : Nat → Int} {l a b c e f n v : Int} {p : Nat} (h : FIr F G l a b c e f n) (h0 : 0 ≤ l) (hn : 0 ≤ n) (hp : p = (l + n).toNat) (hv : v = i_b (i_shr (sel5 a b c e f (n / 4).toNat) (24 - 8 * (n % 4)))) : FIr F (up1 G p v) l a b c e f (n + 1) := by
  subst hp hv
  refine ⟨fun j hj => ?_, fun q hq => ?_⟩
  · rw [up1_n _ _ (by omega)]
    exact h.1 j hj
  · by_cases e1 : (q : Int) = n
    · rw [show l.toNat + q = (l + n).toNat by omega, up1_s, ← e1]
      rfl
    · rw [up1_n _ _ (by omega)]
      exact h.2 q (by omega)
theorem ib_e (y : Int) : i_b y = (w32 y).bmod 256 := by
  show (Int32.ofInt y).toInt8.toInt32.toInt = _
  rw [Int8.toInt_toInt32, Int32.toInt_toInt8]
  rfl
theorem ib_ib (y : Int) : i_b (i_b y) = i_b y := by
  rw [ib_e (i_b y)]
  have h1 := Int.le_bmod (x := w32 y) (m := 256) (by decide)
  have h2 := Int.bmod_lt (x := w32 y) (m := 256) (by decide)
  rw [ib_e y, w32_id (by omega) (by omega)]
  exact Int.bmod_eq_of_le (by omega) (by omega)
theorem U5_v (F : Nat → Int) (a b c e g : Int) {q : Nat} (hq : q < 5) : up1 (up1 (up1 (up1 (up1 F 0 a) 1 b) 2 c) 3 e) 4 g q = sel5 a b c e g q := by
  unfold sel5
  rcases (show q = 0 ∨ q = 1 ∨ q = 2 ∨ q = 3 ∨ q = 4 by omega) with rfl | rfl | rfl | rfl | rfl
  · rw [up1_n _ _ (by decide), up1_n _ _ (by decide), up1_n _ _ (by decide), up1_n _ _ (by decide), up1_s, if_pos rfl]
  · rw [up1_n _ _ (by decide), up1_n _ _ (by decide), up1_n _ _ (by decide), up1_s, if_neg (by decide), if_pos rfl]
  · rw [up1_n _ _ (by decide), up1_n _ _ (by decide), up1_s, if_neg (by decide), if_neg (by decide), if_pos rfl]
  · rw [up1_n _ _ (by decide), up1_s, if_neg (by decide), if_neg (by decide), if_neg (by decide), if_pos rfl]
  · rw [up1_s, if_neg (by decide), if_neg (by decide), if_neg (by decide), if_neg (by decide)]
set_option maxHeartbeats 4000000 in
set_option maxRecDepth 20000 in
theorem c5_X11_readMany (l0 : Launch) {Ia Ja : aI1} {Ra : aR1} {Sa : aS1} (hL : LY Ra Sa) (hQ : RX Ia) (hcr : ∀ t : Nat, (t : Int) ≤ FU (Ia 51 304) → -1 ≤ Ia 51 t ∧ Ia 51 t ≤ 7)  : CT l0 1 0 0 mX11_readMany [kR (some 49)] Ia Ja Ra Sa (cI (fun x I' J' => Ia = I' ∧ Ja = J' ∧ x = cnR (Ia 51) (FU (Ia 51 304) + 1).toNat) Ra Sa) := by
  refine ct_in pn_X11 (Nat.le_of_ble_eq_true rfl) (fun X hX hT hIn => ?_)
  have hX : aK l0 X cX11_readMany 3 RX11 (some .int) 1 0 0 := hX
  change WW X 0 [some (kR (some 49)), none, none] [] Ia Ja Ra Sa 0 0
  have qIa := RX_o hQ
  refine ww_iconst hX (pc := 0) (x := 0) dX11_readMany_0 rfl ?_
  refine ww_istore_n hX (pc := 1) (lv' := [some (kR (some 49)), some (kI 0), none]) dX11_readMany_1 (by decide) rfl rfl ?_
  refine ww_iconst hX (pc := 2) (x := 0) dX11_readMany_2 rfl ?_
  refine ww_istore_n hX (pc := 3) (lv' := [some (kR (some 49)), some (kI 0), some (kI 0)]) dX11_readMany_3 (by decide) rfl rfl ?_
  have hl_4 : ∀ (n_4 : Nat) (n : Int) (i : Int), (256 - i).toNat = n_4 → ((0 ≤ i ∧ i ≤ FU (Ia 51 304) + 1) ∧ n = cnR (Ia 51) i.toNat) → WW X 4 [some (kR (some 49)), some (kI n), some (kI i)] [] Ia Ja Ra Sa 0 0 := by
    intro n_4
    induction n_4 using Nat.strongRecOn with
    | ind n_4 ih_4 =>
      intro n i hm_4 hv_4
      have hq_4 := Sh0_i hm_4
      clear hm_4
      obtain ⟨hv, hn⟩ := hv_4
      refine ww_iload_n hX (pc := 4) dX11_readMany_4 rfl ?_
      refine ww_aload_n hX (pc := 5) dX11_readMany_5 rfl ?_
      refine vI0 hX (pc := 6) sX11_112 (xs_49 hL) (c_X11_states l0 hL hQ ) (by decide) (Nat.le_refl 0) (Nat.le_refl 0) (Nat.le_of_ble_eq_true rfl) dX11_readMany_6 (fun x_6 I_6 J_6 h_6 => ?_)
      obtain ⟨rfl, rfl, h_6⟩ := h_6
      refine ww_icmp_ge hX (pc := 9) (tgt := 35) dX11_readMany_9 (by decide) (fun h_9 => ?_) (fun h_9 => ?_)
      · simp only [w32_mod] at h_9
        refine ww_iload_n hX (pc := 35) dX11_readMany_35 rfl ?_
        refine rI hX (pc := 36) hT (Nat.le_refl 0) (Nat.le_refl 0) dX11_readMany_36 ?_
        exact ⟨rfl, rfl, (by rw [hn, show i = FU (Ia 51 304) + 1 by omega])⟩
      · simp only [w32_mod] at h_9
        have hcd := hcr i.toNat (by omega)
        have hcs := cnR_s (Ia 51) (i := i) (by omega)
        refine ww_iload_n hX (pc := 12) dX11_readMany_12 rfl ?_
        refine ww_aload_n hX (pc := 13) dX11_readMany_13 rfl ?_
        refine ww_iload_n hX (pc := 14) dX11_readMany_14 rfl ?_
        refine vI1 hX (pc := 15) sX11_126 (xs_49 hL) (c_X11_readOf l0 hL hQ (by omega) (by omega)) (by decide) (Nat.le_refl 0) (Nat.le_refl 0) (Nat.le_of_ble_eq_true rfl) dX11_readMany_15 (fun x_15 I_15 J_15 h_15 => ?_)
        obtain ⟨rfl, rfl, h_15⟩ := h_15
        refine ww_iconst hX (pc := 18) (x := (-1)) dX11_readMany_18 rfl ?_
        refine ww_icmp_ne hX (pc := 19) (tgt := 26) dX11_readMany_19 (by decide) (fun h_19 => ?_) (fun h_19 => ?_)
        · simp only [w32_mod] at h_19
          rw [if_neg (by omega)] at hcs
          refine ww_iconst hX (pc := 26) (x := 1) dX11_readMany_26 rfl ?_
          refine ww_iadd hX (pc := 27) dX11_readMany_27 ?_
          refine ww_nmI (fun v_28 hv_28 => ?_)
          refine ww_istore_n hX (pc := 28) (lv' := [some (kR (some 49)), some (kI v_28), some (kI i)]) dX11_readMany_28 (by decide) rfl rfl ?_
          refine ww_iinc hX (pc := 29) (lv' := [some (kR (some 49)), some (kI v_28), some (kI (i + 1))]) dX11_readMany_29 rfl (by decide) rfl rfl ?_
          refine ww_goto hX (pc := 32) (tgt := 4) dX11_readMany_32 (by decide) ?_
          exact ih_4 _ (by have hm9 := Sh0_e hq_4; omega) v_28 (i + 1) rfl ⟨⟨by omega, by omega⟩, by omega⟩
        · simp only [w32_mod] at h_19
          rw [if_pos (by omega)] at hcs
          refine ww_iconst hX (pc := 22) (x := 0) dX11_readMany_22 rfl ?_
          refine ww_goto hX (pc := 23) (tgt := 27) dX11_readMany_23 (by decide) ?_
          refine ww_iadd hX (pc := 27) dX11_readMany_27 ?_
          refine ww_nmI (fun v_28 hv_28 => ?_)
          refine ww_istore_n hX (pc := 28) (lv' := [some (kR (some 49)), some (kI v_28), some (kI i)]) dX11_readMany_28 (by decide) rfl rfl ?_
          refine ww_iinc hX (pc := 29) (lv' := [some (kR (some 49)), some (kI v_28), some (kI (i + 1))]) dX11_readMany_29 rfl (by decide) rfl rfl ?_
          refine ww_goto hX (pc := 32) (tgt := 4) dX11_readMany_32 (by decide) ?_
          exact ih_4 _ (by have hm9 := Sh0_e hq_4; omega) v_28 (i + 1) rfl ⟨⟨by omega, by omega⟩, by omega⟩
  exact hl_4 _ 0 0 rfl ⟨⟨by omega, by omega⟩, rfl⟩
end
