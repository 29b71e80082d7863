section
theorem pcn_256 {t : Nat} (h : t < 256) : 8 - pcn t ≤ 256 - t := by
  have h2 : ∀ n : Fin 256, 8 - pcn n.val ≤ 256 - (n.val : Int) := by decide +kernel
  exact h2 ⟨t, h⟩
theorem bv_an (S T : BitVec 32) : S &&& (T ^^^ BitVec.allOnes 32) = 0#32 ↔ S &&& T = S := by
  constructor
  · intro h
    apply BitVec.eq_of_getLsbD_eq
    intro i hi
    have h2 : (S &&& (T ^^^ BitVec.allOnes 32)).getLsbD i = (0#32).getLsbD i := by rw [h]
    rw [BitVec.getLsbD_and, BitVec.getLsbD_xor, BitVec.getLsbD_allOnes, BitVec.getLsbD_zero] at h2
    rw [BitVec.getLsbD_and]
    revert h2
    cases S.getLsbD i <;> cases T.getLsbD i <;> simp [hi]
  · intro h
    apply BitVec.eq_of_getLsbD_eq
    intro i hi
    have h2 : (S &&& T).getLsbD i = S.getLsbD i := by rw [h]
    rw [BitVec.getLsbD_and] at h2
    rw [BitVec.getLsbD_and, BitVec.getLsbD_xor, BitVec.getLsbD_allOnes, BitVec.getLsbD_zero]
    revert h2
    cases S.getLsbD i <;> cases T.getLsbD i <;> simp [hi]
theorem bv_xr (S T : BitVec 32) (h : S &&& T = S) : T &&& (S ^^^ BitVec.allOnes 32) = T ^^^ S := by
  apply BitVec.eq_of_getLsbD_eq
  intro i hi
  have h2 : (S &&& T).getLsbD i = S.getLsbD i := by rw [h]
  rw [BitVec.getLsbD_and] at h2
  rw [BitVec.getLsbD_and, BitVec.getLsbD_xor, BitVec.getLsbD_xor, BitVec.getLsbD_allOnes]
  revert h2
  cases S.getLsbD i <;> cases T.getLsbD i <;> simp [hi]
theorem m1_bv : (Int32.ofInt (-1)).toBitVec = BitVec.allOnes 32 := by decide
theorem canC_iff {s t b : Int} (hs : 0 ≤ s) (hs1 : s < 256) (ht : 0 ≤ t) (ht1 : t < 256) : canC s t b ↔ (s.toNat &&& t.toNat = s.toNat ∧ i_and (i_xor t s) b = 0) := by
  have w0 : ∀ x : Int32, w32 x.toInt = 0 ↔ x = 0 := fun x => by
    unfold w32
    rw [n_of]
    constructor
    · intro h
      have := n_of x
      rw [h] at this
      rw [← this]
      rfl
    · intro h
      rw [h]
      rfl
  have z0 : ∀ x : Int32, x = 0 ↔ x.toBitVec = 0#32 := fun x => ⟨fun h => by rw [h]; rfl, fun h => Int32.toBitVec_inj.1 h⟩
  have e1 : w32 (i_and s (i_xor t (-1))) = 0 ↔ (Int32.ofInt s).toBitVec &&& (Int32.ofInt t).toBitVec = (Int32.ofInt s).toBitVec := by
    unfold i_and
    rw [w0]
    unfold i_xor
    rw [n_of, z0]
    show (Int32.ofInt s).toBitVec &&& ((Int32.ofInt t).toBitVec ^^^ (Int32.ofInt (-1)).toBitVec) = 0#32 ↔ _
    rw [m1_bv]
    exact bv_an _ _
  have e2 : (Int32.ofInt s).toBitVec &&& (Int32.ofInt t).toBitVec = (Int32.ofInt s).toBitVec ↔ s.toNat &&& t.toNat = s.toNat := by
    have ho := o_and s.toNat t.toNat
    rw [show ((s.toNat : Nat) : Int) = s by omega, show ((t.toNat : Nat) : Int) = t by omega] at ho
    have hle : s.toNat &&& t.toNat ≤ s.toNat := Nat.and_le_left
    constructor
    · intro h
      have h1 : Int32.ofInt s &&& Int32.ofInt t = Int32.ofInt s := Int32.toBitVec_inj.1 h
      rw [ho] at h1
      have h2 := congrArg Int32.toInt h1
      have h3 : w32 ((s.toNat &&& t.toNat : Nat) : Int) = w32 s := h2
      rw [w32_id (by omega) (by omega), w32_id (by omega) (by omega)] at h3
      omega
    · intro h
      have h1 : Int32.ofInt s &&& Int32.ofInt t = Int32.ofInt s := by
        rw [ho, h, show ((s.toNat : Nat) : Int) = s by omega]
      exact congrArg Int32.toBitVec h1
  unfold canC
  rw [e1]
  constructor
  · intro ⟨h1, h2⟩
    refine ⟨e2.mp h1, ?_⟩
    have h3 := bv_xr _ _ h1
    have h4 : Int32.ofInt t &&& (Int32.ofInt s ^^^ Int32.ofInt (-1)) = Int32.ofInt t ^^^ Int32.ofInt s := Int32.toBitVec_inj.1 (by
      show (Int32.ofInt t).toBitVec &&& ((Int32.ofInt s).toBitVec ^^^ (Int32.ofInt (-1)).toBitVec) = (Int32.ofInt t).toBitVec ^^^ (Int32.ofInt s).toBitVec
      rw [m1_bv]
      exact h3)
    unfold i_and at h2
    rw [w0] at h2
    rw [n_of] at h2
    unfold i_xor at h2
    rw [n_of, h4] at h2
    unfold i_and i_xor
    rw [n_of, h2]
    rfl
  · intro ⟨h0, h2⟩
    have h1 := e2.mpr h0
    refine ⟨h1, ?_⟩
    have h3 := bv_xr _ _ h1
    have h4 : Int32.ofInt t &&& (Int32.ofInt s ^^^ Int32.ofInt (-1)) = Int32.ofInt t ^^^ Int32.ofInt s := Int32.toBitVec_inj.1 (by
      show (Int32.ofInt t).toBitVec &&& ((Int32.ofInt s).toBitVec ^^^ (Int32.ofInt (-1)).toBitVec) = (Int32.ofInt t).toBitVec ^^^ (Int32.ofInt s).toBitVec
      rw [m1_bv]
      exact h3)
    have h5 : i_and (i_and t (i_xor s (-1))) b = i_and (i_xor t s) b := by
      unfold i_and i_xor
      rw [n_of, n_of, n_of, h4]
    rw [h5, h2]
    rfl
theorem MT_0 {code L : Nat → Int} {g e N x t : Int} (h : t = e + 1) : Mx (fun u => PB code g e N x u ∧ (u : Int) < t) L 0 := Mx_no (fun u hu => by have h1 := hu.1.1; have h2 := hu.2; omega)
theorem MT_no {code L : Nat → Int} {g e N x t v : Int} (h : Mx (fun u => PB code g e N x u ∧ (u : Int) < t) L v) (h0 : 0 ≤ t) (hn : ¬ PB code g e N x t.toNat) : Mx (fun u => PB code g e N x u ∧ (u : Int) < t + 1) L v :=
  Mx_cg h (fun u => ⟨fun hu => ⟨hu.1, by have := hu.2; omega⟩, fun hu => ⟨hu.1, by
    have h2 := hu.2
    refine Decidable.byContradiction (fun h3 => hn ?_)
    rw [show t.toNat = u by omega]
    exact hu.1⟩⟩) (fun _ _ => rfl)
theorem MT_ad {code L : Nat → Int} {g e N x t v : Int} (h : Mx (fun u => PB code g e N x u ∧ (u : Int) < t) L v) (h0 : 0 ≤ t) (hp : PB code g e N x t.toNat) (hL : 0 ≤ L t.toNat) : Mx (fun u => PB code g e N x u ∧ (u : Int) < t + 1) L (max v (1 + L t.toNat)) :=
  Mx_ad h (fun u => ⟨fun hu => by
    by_cases h3 : (u : Int) < t
    · exact Or.inl ⟨hu.1, h3⟩
    · exact Or.inr (by have := hu.2; omega), fun hu => by
    rcases hu with hu | rfl
    · exact ⟨hu.1, by have := hu.2; omega⟩
    · exact ⟨hp, by omega⟩⟩) hL
theorem MT_e {code L : Nat → Int} {g e N x t v : Int} (h : Mx (fun u => PB code g e N x u ∧ (u : Int) < t) L v) (ht : N ≤ t) : Mx (PB code g e N x) L v :=
  Mx_cg h (fun u => ⟨fun hu => hu.1, fun hu => ⟨hu, by have := hu.2.1; omega⟩⟩) (fun _ _ => rfl)
def LJ (code L : Nat → Int) (g e N i v : Int) : Prop := (∀ x : Nat, (x : Int) < i → ¬ (x : Int) = code e.toNat → ∃ w, Mx (PB code g e N x) L w ∧ v ≤ w) ∧ (v = 1000000000 ∨ ∃ x : Nat, (x : Int) < i ∧ ¬ (x : Int) = code e.toNat ∧ Mx (PB code g e N x) L v) ∧ 0 ≤ v ∧ v ≤ 1000000000
theorem LJ_0 {code L : Nat → Int} {g e N : Int} : LJ code L g e N 0 1000000000 := ⟨fun x hx => absurd hx (by omega), Or.inl rfl, by omega, by omega⟩
theorem LJ_no {code L : Nat → Int} {g e N i v : Int} (h : LJ code L g e N i v) (h1 : i = code e.toNat) : LJ code L g e N (i + 1) v :=
  ⟨fun x hx hn => h.1 x (by omega) hn, h.2.1.imp id (fun ⟨x, h2, h3⟩ => ⟨x, by omega, h3⟩), h.2.2⟩
theorem LJ_ge {code L : Nat → Int} {g e N i v w : Int} (h : LJ code L g e N i v) (h0 : 0 ≤ i) (hm : Mx (PB code g e N i) L w) (h1 : v ≤ w) : LJ code L g e N (i + 1) v := by
  refine ⟨fun x hx hn => ?_, h.2.1.imp id (fun ⟨x, h2, h3⟩ => ⟨x, by omega, h3⟩), h.2.2⟩
  by_cases e1 : (x : Int) = i
  · rw [e1]
    exact ⟨w, hm, h1⟩
  · exact h.1 x (by omega) hn
theorem LJ_lt {code L : Nat → Int} {g e N i v w : Int} (h : LJ code L g e N i v) (h0 : 0 ≤ i) (hm : Mx (PB code g e N i) L w) (hi : ¬ i = code e.toNat) (h1 : w < v) (h2 : 0 ≤ w) : LJ code L g e N (i + 1) w := by
  refine ⟨fun x hx hn => ?_, Or.inr ⟨i.toNat, by omega, by omega, by rw [show ((i.toNat : Nat) : Int) = i by omega]; exact hm⟩, h2, by have := h.2.2.2; omega⟩
  by_cases e1 : (x : Int) = i
  · rw [e1]
    exact ⟨w, hm, by omega⟩
  · obtain ⟨u, u1, u2⟩ := h.1 x (by omega) hn
    exact ⟨u, u1, by omega⟩
theorem LJ_e {code L : Nat → Int} {g e N q v : Int} (h : LJ code L g e N q v) (hL : ∀ t : Nat, e < t → (t : Int) < N → 0 ≤ L t ∧ L t ≤ 8 - pcn t) (h0 : 0 ≤ e) (h1 : e < 256) (hN2 : N ≤ 256) (hq : 2 ≤ q) : zLS code L g N q e v ∧ 0 ≤ v ∧ v ≤ 8 - pcn e.toNat := by
  have hb : ∀ (x : Nat) (w : Int), Mx (PB code g e N x) L w → w ≤ 8 - pcn e.toNat := fun x w hw => by
    have hp := pcn_r e.toNat
    rcases hw.2 with h2 | ⟨t, h2, h3⟩
    · omega
    · have h4 := hL t h2.1 h2.2.1
      have h6 := h2.1
      have h7 := h2.2.1
      have h5 := pcn_lt h2.2.2.1 (by omega) (by omega)
      omega
  obtain ⟨x0, hx0, hx1⟩ : ∃ x : Nat, (x : Int) < q ∧ ¬ (x : Int) = code e.toNat := by
    by_cases h2 : code e.toNat = 0
    · exact ⟨1, by omega, by omega⟩
    · exact ⟨0, by omega, by omega⟩
  obtain ⟨w0, a1, a2⟩ := h.1 x0 hx0 hx1
  have a3 := hb x0 w0 a1
  have hp := pcn_r e.toNat
  refine ⟨⟨h.1, ?_⟩, h.2.2.1, by omega⟩
  rcases h.2.1 with h2 | h2
  · omega
  · exact h2
set_option maxHeartbeats 4000000 in
set_option maxRecDepth 20000 in
theorem c5_X11_lastingOf (l0 : Launch) {Ia Ja : aI1} {Ra : aR1} {Sa : aS1} (hL : LY Ra Sa) (hQ : RX Ia) {a b : Int} (ha0 : 0 ≤ a) (ha1 : a ≤ 255) (haN : a ≤ FU (Ia 51 304)) (hcr : ∀ t : Nat, (t : Int) ≤ FU (Ia 51 304) → -1 ≤ Ia 51 t ∧ Ia 51 t ≤ 7) (hlb : ∀ t : Nat, a < t → (t : Int) < (FU (Ia 51 304) + 1) → 0 ≤ Ia 61 t ∧ Ia 61 t ≤ 8 - pcn t)  : CT l0 1 0 0 mX11_lastingOf [kR (some 49), kI a, kI b] Ia Ja Ra Sa (cI (fun x I' J' => Ia = I' ∧ Ja = J' ∧ zLS (Ia 51) (Ia 61) b (FU (Ia 51 304) + 1) (Ia 51 305) a x ∧ 0 ≤ x ∧ x ≤ 8 - pcn a.toNat) Ra Sa) := by
  refine ct_in pn_X11 (Nat.le_of_ble_eq_true rfl) (fun X hX hT hIn => ?_)
  have hX : aK l0 X cX11_lastingOf 7 RX11 (some .int) 1 0 0 := hX
  change WW X 0 [some (kR (some 49)), some (kI a), some (kI b), none, none, none, none] [] Ia Ja Ra Sa 0 0
  have qIa := RX_o hQ
  have hca := hcr a.toNat (by omega)
  refine ww_ldcw hX (pc := 0) (x := 1000000000) dX11_lastingOf_0 tb_1457 ?_
  refine ww_istore_n hX (pc := 3) (lv' := [some (kR (some 49)), some (kI a), some (kI b), some (kI 1000000000), none, none, none]) dX11_lastingOf_3 (by decide) rfl rfl ?_
  refine ww_iconst hX (pc := 4) (x := 0) dX11_lastingOf_4 rfl ?_
  refine ww_istore hX (pc := 5) (lv' := [some (kR (some 49)), some (kI a), some (kI b), some (kI 1000000000), some (kI 0), none, none]) dX11_lastingOf_5 (by decide) rfl rfl ?_
  have hl_7 : ∀ (n_7 : Nat) (le : Int) (i : Int), (Ia 51 305 - i).toNat = n_7 → ((0 ≤ i ∧ i ≤ Ia 51 305) ∧ LJ (Ia 51) (Ia 61) b a (FU (Ia 51 304) + 1) i le) → WW X 7 [some (kR (some 49)), some (kI a), some (kI b), some (kI le), some (kI i), none, none] [] Ia Ja Ra Sa 0 0 := by
    intro n_7
    induction n_7 using Nat.strongRecOn with
    | ind n_7 ih_7 =>
      intro le i hm_7 hv_7
      have hq_7 := Sh0_i hm_7
      clear hm_7
      obtain ⟨hv, hlj⟩ := hv_7
      have hlr := hlj.2.2
      refine ww_iload hX (pc := 7) dX11_lastingOf_7 rfl ?_
      refine ww_aload_n hX (pc := 9) dX11_lastingOf_9 rfl ?_
      refine ww_getR hX (pc := 10) fX11_20 (by decide) (xs_49 hL) (xr_49_3 hL) dX11_lastingOf_10 ?_
      refine ww_sipush hX (pc := 13) (x := 305) dX11_lastingOf_13 (by decide) ?_
      refine ww_iald hX (pc := 16) (xs_51 hL) (by decide) (by omega) (by omega) dX11_lastingOf_16 ?_
      refine ww_toI (b := Ia 51 305) rfl ?_
      refine ww_icmp_ge hX (pc := 17) (tgt := 113) dX11_lastingOf_17 (by decide) (fun h_17 => ?_) (fun h_17 => ?_)
      · simp only [w32_mod] at h_17
        refine ww_iload_n hX (pc := 113) dX11_lastingOf_113 rfl ?_
        refine rI hX (pc := 114) hT (Nat.le_refl 0) (Nat.le_refl 0) dX11_lastingOf_114 ?_
        exact ⟨rfl, rfl, (LJ_e ((show i = Ia 51 305 by omega) ▸ hlj) hlb (by omega) (by omega) (by omega) (by omega))⟩
      · simp only [w32_mod] at h_17
        refine ww_iload hX (pc := 20) dX11_lastingOf_20 rfl ?_
        refine ww_aload_n hX (pc := 22) dX11_lastingOf_22 rfl ?_
        refine ww_iload_n hX (pc := 23) dX11_lastingOf_23 rfl ?_
        refine vI1 hX (pc := 24) sX11_126 (xs_49 hL) (c_X11_readOf l0 hL hQ (by omega) (by omega)) (by decide) (Nat.le_refl 0) (Nat.le_refl 0) (Nat.le_of_ble_eq_true rfl) dX11_lastingOf_24 (fun x_24 I_24 J_24 h_24 => ?_)
        obtain ⟨rfl, rfl, h_24⟩ := h_24
        refine ww_icmp_ne hX (pc := 27) (tgt := 33) dX11_lastingOf_27 (by decide) (fun h_27 => ?_) (fun h_27 => ?_)
        · simp only [w32_mod] at h_27
          refine ww_iconst hX (pc := 33) (x := 0) dX11_lastingOf_33 rfl ?_
          refine ww_istore hX (pc := 34) (lv' := [some (kR (some 49)), some (kI a), some (kI b), some (kI le), some (kI i), some (kI 0), none]) dX11_lastingOf_34 (by decide) rfl rfl ?_
          refine ww_iload_n hX (pc := 36) dX11_lastingOf_36 rfl ?_
          refine ww_iconst hX (pc := 37) (x := 1) dX11_lastingOf_37 rfl ?_
          refine ww_iadd hX (pc := 38) dX11_lastingOf_38 ?_
          refine ww_nmI (fun v_39 hv_39 => ?_)
          refine ww_istore hX (pc := 39) (lv' := [some (kR (some 49)), some (kI a), some (kI b), some (kI le), some (kI i), some (kI 0), some (kI v_39)]) dX11_lastingOf_39 (by decide) rfl rfl ?_
          have hl_41 : ∀ (n_41 : Nat) (bs : Int) (t : Int), (256 - t).toNat = n_41 → ((a + 1 ≤ t ∧ t ≤ (FU (Ia 51 304) + 1) ∧ 0 ≤ bs ∧ bs ≤ 9) ∧ Mx (fun u => PB (Ia 51) b a (FU (Ia 51 304) + 1) i u ∧ (u : Int) < t) (Ia 61) bs) → WW X 41 [some (kR (some 49)), some (kI a), some (kI b), some (kI le), some (kI i), some (kI bs), some (kI t)] [] Ia Ja Ra Sa 0 0 := by
            intro n_41
            induction n_41 using Nat.strongRecOn with
            | ind n_41 ih_41 =>
              intro bs t hm_41 hv_41
              have hq_41 := Sh0_i hm_41
              clear hm_41
              obtain ⟨hu, hmt⟩ := hv_41
              refine ww_iload hX (pc := 41) dX11_lastingOf_41 rfl ?_
              refine ww_aload_n hX (pc := 43) dX11_lastingOf_43 rfl ?_
              refine vI0 hX (pc := 44) sX11_112 (xs_49 hL) (c_X11_states l0 hL hQ ) (by decide) (Nat.le_refl 0) (Nat.le_refl 0) (Nat.le_of_ble_eq_true rfl) dX11_lastingOf_44 (fun x_44 I_44 J_44 h_44 => ?_)
              obtain ⟨rfl, rfl, h_44⟩ := h_44
              refine ww_icmp_ge hX (pc := 47) (tgt := 94) dX11_lastingOf_47 (by decide) (fun h_47 => ?_) (fun h_47 => ?_)
              · simp only [w32_mod] at h_47
                have hmx := MT_e hmt (by omega)
                refine ww_iload hX (pc := 94) dX11_lastingOf_94 rfl ?_
                refine ww_iload_n hX (pc := 96) dX11_lastingOf_96 rfl ?_
                refine ww_icmp_ge hX (pc := 97) (tgt := 105) dX11_lastingOf_97 (by decide) (fun h_97 => ?_) (fun h_97 => ?_)
                · simp only [w32_mod] at h_97
                  refine ww_iload_n hX (pc := 105) dX11_lastingOf_105 rfl ?_
                  refine ww_istore_n hX (pc := 106) (lv' := [some (kR (some 49)), some (kI a), some (kI b), some (kI le), some (kI i), some (kI bs), some (kI t)]) dX11_lastingOf_106 (by decide) rfl rfl ?_
                  refine ww_iinc hX (pc := 107) (lv' := [some (kR (some 49)), some (kI a), some (kI b), some (kI le), some (kI (i + 1)), some (kI bs), some (kI t)]) dX11_lastingOf_107 rfl (by decide) rfl rfl ?_
                  refine ww_goto hX (pc := 110) (tgt := 7) dX11_lastingOf_110 (by decide) ?_
                  refine ww_sub [some (kR (some 49)), some (kI a), some (kI b), some (kI le), some (kI (i + 1)), none, none] (aLe_s (aLe_s (aLe_s (aLe_s (aLe_s (aLe_n (aLe_n aLe_0))))))) ?_
                  exact ih_7 _ (by have hm9 := Sh0_e hq_7; omega) le (i + 1) rfl ⟨⟨by omega, by omega⟩, LJ_ge hlj (by omega) hmx (by omega)⟩
                · simp only [w32_mod] at h_97
                  refine ww_iload hX (pc := 100) dX11_lastingOf_100 rfl ?_
                  refine ww_goto hX (pc := 102) (tgt := 106) dX11_lastingOf_102 (by decide) ?_
                  refine ww_istore_n hX (pc := 106) (lv' := [some (kR (some 49)), some (kI a), some (kI b), some (kI bs), some (kI i), some (kI bs), some (kI t)]) dX11_lastingOf_106 (by decide) rfl rfl ?_
                  refine ww_iinc hX (pc := 107) (lv' := [some (kR (some 49)), some (kI a), some (kI b), some (kI bs), some (kI (i + 1)), some (kI bs), some (kI t)]) dX11_lastingOf_107 rfl (by decide) rfl rfl ?_
                  refine ww_goto hX (pc := 110) (tgt := 7) dX11_lastingOf_110 (by decide) ?_
                  refine ww_sub [some (kR (some 49)), some (kI a), some (kI b), some (kI bs), some (kI (i + 1)), none, none] (aLe_s (aLe_s (aLe_s (aLe_s (aLe_s (aLe_n (aLe_n aLe_0))))))) ?_
                  exact ih_7 _ (by have hm9 := Sh0_e hq_7; omega) bs (i + 1) rfl ⟨⟨by omega, by omega⟩, LJ_lt hlj (by omega) hmx (by omega) (by omega) (by omega)⟩
              · simp only [w32_mod] at h_47
                have hcd := hcr t.toNat (by omega)
                refine ww_aload_n hX (pc := 50) dX11_lastingOf_50 rfl ?_
                refine ww_iload hX (pc := 51) dX11_lastingOf_51 rfl ?_
                refine vI1 hX (pc := 53) sX11_126 (xs_49 hL) (c_X11_readOf l0 hL hQ (by omega) (by omega)) (by decide) (Nat.le_refl 0) (Nat.le_refl 0) (Nat.le_of_ble_eq_true rfl) dX11_lastingOf_53 (fun x_53 I_53 J_53 h_53 => ?_)
                obtain ⟨rfl, rfl, h_53⟩ := h_53
                refine ww_iload hX (pc := 56) dX11_lastingOf_56 rfl ?_
                refine ww_icmp_ne hX (pc := 58) (tgt := 88) dX11_lastingOf_58 (by decide) (fun h_58 => ?_) (fun h_58 => ?_)
                · simp only [w32_mod] at h_58
                  have hnp : ¬ PB (Ia 51) b a (FU (Ia 51 304) + 1) i t.toNat := fun h9 => by have h8 := h9.2.2.2.2; omega
                  refine ww_iinc hX (pc := 88) (lv' := [some (kR (some 49)), some (kI a), some (kI b), some (kI le), some (kI i), some (kI bs), some (kI (t + 1))]) dX11_lastingOf_88 rfl (by decide) rfl rfl ?_
                  refine ww_goto hX (pc := 91) (tgt := 41) dX11_lastingOf_91 (by decide) ?_
                  exact ih_41 _ (by have hm9 := Sh0_e hq_41; omega) bs (t + 1) rfl ⟨by omega, MT_no hmt (by omega) hnp⟩
                · simp only [w32_mod] at h_58
                  refine ww_aload_n hX (pc := 61) dX11_lastingOf_61 rfl ?_
                  refine ww_iload_n hX (pc := 62) dX11_lastingOf_62 rfl ?_
                  refine ww_iload hX (pc := 63) dX11_lastingOf_63 rfl ?_
                  refine ww_iload_n hX (pc := 65) dX11_lastingOf_65 rfl ?_
                  refine vI3 hX (pc := 66) sX11_271 (xs_49 hL) (c_X11_canCome l0 hL hQ ) (by decide) (Nat.le_refl 0) (Nat.le_refl 0) (Nat.le_of_ble_eq_true rfl) dX11_lastingOf_66 (fun x_66 I_66 J_66 h_66 => ?_)
                  obtain ⟨rfl, rfl, h_66⟩ := h_66
                  refine ww_if_eq hX (pc := 69) (tgt := 88) dX11_lastingOf_69 (by decide) (fun h_69 => ?_) (fun h_69 => ?_)
                  · simp only [w32_mod] at h_69
                    have hnp : ¬ PB (Ia 51) b a (FU (Ia 51 304) + 1) i t.toNat := fun h9 => by
                      have h7 := h9.2.2.2.1
                      rw [show ((t.toNat : Nat) : Int) = t by omega] at h7
                      have h8 : canC a t b := (canC_iff (by omega) (by omega) (by omega) (by omega)).mpr ⟨h9.2.2.1, h7⟩
                      have := h_66.2.mpr h8
                      omega
                    refine ww_iinc hX (pc := 88) (lv' := [some (kR (some 49)), some (kI a), some (kI b), some (kI le), some (kI i), some (kI bs), some (kI (t + 1))]) dX11_lastingOf_88 rfl (by decide) rfl rfl ?_
                    refine ww_goto hX (pc := 91) (tgt := 41) dX11_lastingOf_91 (by decide) ?_
                    exact ih_41 _ (by have hm9 := Sh0_e hq_41; omega) bs (t + 1) rfl ⟨by omega, MT_no hmt (by omega) hnp⟩
                  · simp only [w32_mod] at h_69
                    have hcc := (canC_iff (by omega) (by omega) (by omega) (by omega)).mp (h_66.2.mp (by omega))
                    have hpb : PB (Ia 51) b a (FU (Ia 51 304) + 1) i t.toNat := ⟨by omega, by omega, hcc.1, by rw [show ((t.toNat : Nat) : Int) = t by omega]; exact hcc.2, by omega⟩
                    have hlt := hlb t.toNat (by omega) (by omega)
                    have hpr := pcn_r t.toNat
                    refine ww_iload hX (pc := 72) dX11_lastingOf_72 rfl ?_
                    refine ww_iconst hX (pc := 74) (x := 1) dX11_lastingOf_74 rfl ?_
                    refine ww_aload_n hX (pc := 75) dX11_lastingOf_75 rfl ?_
                    refine ww_getR hX (pc := 76) fX11_55 (by decide) (xs_49 hL) (xr_49_23 hL) dX11_lastingOf_76 ?_
                    refine ww_iload hX (pc := 79) dX11_lastingOf_79 rfl ?_
                    refine ww_iald hX (pc := 81) (xs_61 hL) (by decide) (by omega) (by omega) dX11_lastingOf_81 ?_
                    refine ww_iadd hX (pc := 82) dX11_lastingOf_82 ?_
                    refine sI2 hX (pc := 83) sX11_132 (c_X11_greater l0 (by omega) (by omega) (by omega) (by omega)) (by decide) (Nat.le_refl 0) (Nat.le_refl 0) (Nat.le_of_ble_eq_true rfl) dX11_lastingOf_83 (fun x_83 I_83 J_83 h_83 => ?_)
                    obtain ⟨rfl, rfl, h_83⟩ := h_83
                    refine ww_istore hX (pc := 86) (lv' := [some (kR (some 49)), some (kI a), some (kI b), some (kI le), some (kI i), some (kI x_83), some (kI t)]) dX11_lastingOf_86 (by decide) rfl rfl ?_
                    refine ww_iinc hX (pc := 88) (lv' := [some (kR (some 49)), some (kI a), some (kI b), some (kI le), some (kI i), some (kI x_83), some (kI (t + 1))]) dX11_lastingOf_88 rfl (by decide) rfl rfl ?_
                    refine ww_goto hX (pc := 91) (tgt := 41) dX11_lastingOf_91 (by decide) ?_
                    exact ih_41 _ (by have hm9 := Sh0_e hq_41; omega) x_83 (t + 1) rfl ⟨by omega, (by rw [h_83]; exact MT_ad hmt (by omega) hpb (by omega))⟩
          exact hl_41 _ 0 v_39 rfl ⟨by omega, MT_0 (by omega)⟩
        · simp only [w32_mod] at h_27
          refine ww_goto hX (pc := 30) (tgt := 107) dX11_lastingOf_30 (by decide) ?_
          refine ww_iinc hX (pc := 107) (lv' := [some (kR (some 49)), some (kI a), some (kI b), some (kI le), some (kI (i + 1)), none, none]) dX11_lastingOf_107 rfl (by decide) rfl rfl ?_
          refine ww_goto hX (pc := 110) (tgt := 7) dX11_lastingOf_110 (by decide) ?_
          exact ih_7 _ (by have hm9 := Sh0_e hq_7; omega) le (i + 1) rfl ⟨⟨by omega, by omega⟩, LJ_no hlj (by omega)⟩
  exact hl_7 _ 1000000000 0 rfl ⟨⟨by omega, by omega⟩, LJ_0⟩
set_option maxHeartbeats 4000000 in
set_option maxRecDepth 20000 in
theorem c5_X11_lasts0 (l0 : Launch) {Ia Ja : aI1} {Ra : aR1} {Sa : aS1} (hL : LY Ra Sa) (hQ : RX Ia) {a : Int} (hcr : ∀ t : Nat, (t : Int) ≤ FU (Ia 51 304) → -1 ≤ Ia 51 t ∧ Ia 51 t ≤ 7)  : CT l0 2 0 0 mX11_lasts0 [kR (some 49), kI a] Ia Ja Ra Sa (cV (fun I' J' => Ch [61] [] Ia I' ∧ Kp 49 73 Ja J' ∧ RX I' ∧ I' 51 = Ia 51 ∧ zLV (Ia 51) a (FU (Ia 51 304) + 1) (Ia 51 305) (-1) (I' 61)) Ra Sa) := by
  refine ct_in pn_X11 (Nat.le_of_ble_eq_true rfl) (fun X hX hT hIn => ?_)
  have hX : aK l0 X cX11_lasts0 3 RX11 none 2 0 0 := hX
  change WW X 0 [some (kR (some 49)), some (kI a), none] [] Ia Ja Ra Sa 0 0
  have qIa := RX_o hQ
  refine ww_aload_n hX (pc := 0) dX11_lasts0_0 rfl ?_
  refine vI0 hX (pc := 1) sX11_112 (xs_49 hL) (c_X11_states l0 hL hQ ) (by decide) (Nat.le_refl 0) (Nat.le_refl 0) (Nat.le_of_ble_eq_true rfl) dX11_lasts0_1 (fun x_1 I_1 J_1 h_1 => ?_)
  obtain ⟨rfl, rfl, h_1⟩ := h_1
  refine ww_iconst hX (pc := 4) (x := 1) dX11_lasts0_4 rfl ?_
  refine ww_isub hX (pc := 5) dX11_lasts0_5 ?_
  refine ww_nmI (fun v_6 hv_6 => ?_)
  refine ww_istore_n hX (pc := 6) (lv' := [some (kR (some 49)), some (kI a), some (kI v_6)]) dX11_lasts0_6 (by decide) rfl rfl ?_
  have hl_7 : ∀ (n_7 : Nat) (i : Int) (I7 : aI1) (J7 : aI1), (i + 1).toNat = n_7 → (Ch [61] [] Ia I7 ∧ RX I7 ∧ Kp 49 73 Ja J7 ∧ I7 51 304 = Ia 51 304 ∧ I7 51 305 = Ia 51 305 ∧ (-1 ≤ i ∧ i ≤ FU (Ia 51 304)) ∧ I7 51 = Ia 51 ∧ zLV (Ia 51) a (FU (Ia 51 304) + 1) (Ia 51 305) i (I7 61)) → WW X 7 [some (kR (some 49)), some (kI a), some (kI i)] [] I7 J7 Ra Sa 0 0 := by
    intro n_7
    induction n_7 using Nat.strongRecOn with
    | ind n_7 ih_7 =>
      intro i I7 J7 hm_7 hv_7
      have hq_7 := Sh0_i hm_7
      clear hm_7
      obtain ⟨kI7, cI7, kJ7, r304_I7, r305_I7, hv, e51, hlv⟩ := hv_7
      have qI7 := RX_o cI7
      have rf_I7 : FU (I7 51 304) = FU (Ia 51 304) := by rw [r304_I7]
      refine ww_iload_n hX (pc := 7) dX11_lasts0_7 rfl ?_
      refine ww_if_lt hX (pc := 8) (tgt := 29) dX11_lasts0_8 (by decide) (fun h_8 => ?_) (fun h_8 => ?_)
      · simp only [w32_mod] at h_8
        refine rV hX (pc := 29) hT (Nat.le_refl 0) (Nat.le_refl 0) dX11_lasts0_29 ?_
        exact ⟨kI7, kJ7, cI7, e51, (show i = -1 by omega) ▸ hlv⟩
      · simp only [w32_mod] at h_8
        refine ww_aload_n hX (pc := 11) dX11_lasts0_11 rfl ?_
        refine ww_getR hX (pc := 12) fX11_55 (by decide) (xs_49 hL) (xr_49_23 hL) dX11_lasts0_12 ?_
        refine ww_iload_n hX (pc := 15) dX11_lasts0_15 rfl ?_
        refine ww_aload_n hX (pc := 16) dX11_lasts0_16 rfl ?_
        refine ww_iload_n hX (pc := 17) dX11_lasts0_17 rfl ?_
        refine ww_iload_n hX (pc := 18) dX11_lasts0_18 rfl ?_
        refine vI2 hX (pc := 19) sX11_291 (xs_49 hL) (c5_X11_lastingOf l0 hL cI7 (by omega) (by omega) (by omega) (fun t ht => by rw [e51]; rw [e51] at ht; exact hcr t ht) (fun t h1 h2 => (hlv t h1 (by rw [e51] at h2; exact h2)).2)) (by decide) (Nat.le_refl 0) (Nat.le_refl 0) (Nat.le_of_ble_eq_true rfl) dX11_lasts0_19 (fun x_19 I_19 J_19 h_19 => ?_)
        obtain ⟨rfl, rfl, h_19⟩ := h_19
        rw [e51] at h_19
        have hpi := pcn_256 (t := i.toNat) (by omega)
        refine ww_iast hX (pc := 22) (xs_61 hL) (by decide) (by omega) (by omega) dX11_lasts0_22 ?_
        refine ww_nmH (fun I_22 eI_22 => ?_)
        have kI_22 : Ch [61] [] Ia I_22 := by rw [eI_22]; exact Ch_r kI7 (by decide) (by decide)
        have cI_22 : RX I_22 := by rw [eI_22]; exact RX_61 cI7 (by omega) (by omega)
        have qI_22 := RX_o cI_22
        have r304_I_22 : I_22 51 304 = I7 51 304 := by rw [eI_22, up2_off _ _ _ (by decide)]
        have r305_I_22 : I_22 51 305 = I7 51 305 := by rw [eI_22, up2_off _ _ _ (by decide)]
        have rf_I_22 : FU (I_22 51 304) = FU (I7 51 304) := by rw [r304_I_22]
        have e22 : I_22 51 = Ia 51 := by rw [eI_22, up2_off _ _ _ (by decide)]; exact e51
        refine ww_iinc hX (pc := 23) (lv' := [some (kR (some 49)), some (kI a), some (kI (i + (-1)))]) dX11_lasts0_23 rfl (by decide) rfl rfl ?_
        refine ww_goto hX (pc := 26) (tgt := 7) dX11_lasts0_26 (by decide) ?_
        exact ih_7 _ (by have hm9 := Sh0_e hq_7; omega) (i + (-1)) I_22 J7 rfl ⟨kI_22, cI_22, kJ7, by omega, by omega, ⟨by omega, by omega⟩, e22, (by rw [eI_22, up2_row]; exact zLV_step hlv (by omega) h_19 (by omega))⟩
  exact hl_7 _ v_6 Ia Ja rfl ⟨Ch_rf, hQ, (Kp_rf (a := 49) (b := 73)), rfl, rfl, ⟨by omega, by omega⟩, rfl, fun s h1 h2 => absurd h2 (by omega)⟩
end
section
def dv (k c : Nat) : Nat → Nat
  | 0 => c
  | j + 1 => dv k c j / k
def dg (k N c s : Nat) : Nat := dv k c (N - 1 - s) % k
noncomputable def dgs (k N c : Nat) : List Nat := mkL (dg k N c) N []
/-- how many of the first c CODES are LASTING t at least -/
noncomputable def cN (k N t : Nat) : Nat → Nat
  | 0 => 0
  | c + 1 => cN k N t c + (if t ≤ DL k (dgs k N c) then 1 else 0)
theorem dg_r {k N c s : Nat} (hk : 2 ≤ k) (hk4 : k ≤ 4) : dg k N c s ≤ 3 := by
  have := Nat.mod_lt (dv k c (N - 1 - s)) (show k > 0 by omega)
  unfold dg
  omega
/-- the CODE's number taken apart from the last STATE down to q -/
def DG (k N c : Nat) (q re : Int) (F : Nat → Int) : Prop := re = ((dv k c ((N : Int) - 1 - q).toNat : Nat) : Int) ∧ ∀ s : Nat, q < s → s < N → F s = ((dg k N c s : Nat) : Int)
theorem DG_0 {k N c : Nat} {q re : Int} {F : Nat → Int} (h : q = (N : Int) - 1) (h1 : re = c) : DG k N c q re F := by
  refine ⟨?_, fun s h2 h3 => absurd h3 (by omega)⟩
  rw [h, h1, show ((N : Int) - 1 - ((N : Int) - 1)).toNat = 0 by omega]
  rfl
theorem DG_s {k N c : Nat} {q re re' q' : Int} {F : Nat → Int} {kk : Int} (h : DG k N c q re F) (h0 : 0 ≤ q) (hN : q < N) (hk : kk = k) (hr : re' = re / kk) (hq : q' = q - 1) : DG k N c q' re' (up1 F q.toNat (re % kk)) := by
  obtain ⟨h1, h2⟩ := h
  refine ⟨?_, fun s h3 h4 => ?_⟩
  · rw [hr, h1, hk, hq, show ((N : Int) - 1 - (q - 1)).toNat = ((N : Int) - 1 - q).toNat + 1 by omega]
    rfl
  · by_cases e : s = q.toNat
    · subst e
      rw [up1_s, h1, hk]
      unfold dg
      rw [show N - 1 - q.toNat = ((N : Int) - 1 - q).toNat by omega]
      rfl
    · rw [up1_n _ _ e]
      exact h2 s (by omega) h4
theorem DG_e {k N c : Nat} {re : Int} {F : Nat → Int} (h : DG k N c (-1) re F) {s : Nat} (hs : s < N) : F s = ((gd (dgs k N c) s : Nat) : Int) := by
  unfold dgs
  rw [(mkL_v (dg k N c) N []).2.1 s hs]
  exact h.2 s (by omega) hs
theorem DG_r {k N c : Nat} {re : Int} {F : Nat → Int} (h : DG k N c (-1) re F) (hk : 2 ≤ k) (hk4 : k ≤ 4) {s : Nat} (hs : s < N) : 0 ≤ F s ∧ F s ≤ 3 := by
  rw [h.2 s (by omega) hs]
  have := dg_r (N := N) (c := c) (s := s) hk hk4
  omega
theorem DG_cg {k N c : Nat} {q re : Int} {F G : Nat → Int} (h : DG k N c q re F) (e : G = F) : DG k N c q re G := by rw [e]; exact h
theorem dgs_len (k N c : Nat) : (dgs k N c).length = N := by
  unfold dgs
  rw [(mkL_v (dg k N c) N []).1]
  rfl
theorem pow_65536 {b : Int} {n : Nat} (h0 : 2 ≤ b) (h1 : b ≤ 4) (hn : n ≤ 8) : 1 ≤ b ^ n ∧ b ^ n ≤ 65536 := by
  have h : ∀ n : Nat, n < 9 → 1 ≤ b ^ n ∧ b ^ n ≤ 65536 := by
    rcases (show b = 2 ∨ b = 3 ∨ b = 4 by omega) with rfl | rfl | rfl <;> decide
  exact h n (by omega)
theorem pow_nat {b : Int} (n : Nat) (h0 : 0 ≤ b) : (b ^ n).toNat = b.toNat ^ n := by
  obtain ⟨m, rfl⟩ := Int.eq_ofNat_of_zero_le h0
  rw [← Int.natCast_pow]
  rfl
set_option maxHeartbeats 4000000 in
set_option maxRecDepth 20000 in
theorem c5_X11_codes0 (l0 : Launch) {Ia Ja : aI1} {Ra : aR1} {Sa : aS1} (hL : LY Ra Sa) (hQ : RX Ia) {a b c : Int} (ha0 : 1 ≤ a) (ha1 : a ≤ 3) (hb0 : 2 ≤ b) (hb1 : b ≤ 4) (hc0 : 0 ≤ c) (hc1 : c ≤ 8)  : CT l0 3 0 0 mX11_codes0 [kR (some 49), kI a, kI b, kI c] Ia Ja Ra Sa (cV (fun I' J' => Ch [51, 61, 65, 66] [25, 31] Ia I' ∧ Kp 49 73 Ja J' ∧ RX I' ∧ I' 51 304 = Ia 51 304 ∧ I' 51 305 = Ia 51 305 ∧ I' 51 309 = Ia 51 309 ∧ I' 49 31 = ((cN b.toNat (FU a + 1).toNat c.toNat (b.toNat ^ (FU a + 1).toNat) : Nat) : Int) ∧ (∀ j : Nat, 256 ≤ j → j ≠ 304 → j ≠ 305 → I' 51 j = Ia 51 j)) Ra Sa) := by
  refine ct_in pn_X11 (Nat.le_of_ble_eq_true rfl) (fun X hX hT hIn => ?_)
  have hX : aK l0 X cX11_codes0 10 RX11 none 3 0 0 := hX
  change WW X 0 [some (kR (some 49)), some (kI a), some (kI b), some (kI c), none, none, none, none, none, none] [] Ia Ja Ra Sa 0 0
  have qIa := RX_s hQ
  have hfa := FU_r (n := a) (by omega) (by omega)
  have hfa7 := FU_3 (n := a) (by omega) (by omega)
  refine ww_iconst hX (pc := 0) (x := 0) dX11_codes0_0 rfl ?_
  refine ww_istore hX (pc := 1) (lv' := [some (kR (some 49)), some (kI a), some (kI b), some (kI c), some (kI 0), none, none, none, none, none]) dX11_codes0_1 (by decide) rfl rfl ?_
  have hl_3 : ∀ (n_3 : Nat) (i : Int) (I3 : aI1) (J3 : aI1), (256 - i).toNat = n_3 → (Ch [51, 61, 65, 66] [25, 31] Ia I3 ∧ RX I3 ∧ Kp 49 73 Ja J3 ∧ I3 51 304 = Ia 51 304 ∧ I3 51 305 = Ia 51 305 ∧ I3 51 309 = Ia 51 309 ∧ I3 49 31 = Ia 49 31 ∧ (∀ j : Nat, 256 ≤ j → j ≠ 304 → j ≠ 305 → I3 51 j = Ia 51 j) ∧ (0 ≤ i ∧ i ≤ 256)) → WW X 3 [some (kR (some 49)), some (kI a), some (kI b), some (kI c), some (kI i), none, none, none, none, none] [] I3 J3 Ra Sa 0 0 := by
    intro n_3
    induction n_3 using Nat.strongRecOn with
    | ind n_3 ih_3 =>
      intro i I3 J3 hm_3 hv_3
      have hq_3 := Sh0_i hm_3
      clear hm_3
      obtain ⟨kI3, cI3, kJ3, r304_I3, r305_I3, r309_I3, f31_I3, o_I3, hv⟩ := hv_3
      have qI3 := RX_s cI3
      have rf_I3 : FU (I3 51 304) = FU (Ia 51 304) := by rw [r304_I3]
      refine ww_iload hX (pc := 3) dX11_codes0_3 rfl ?_
      refine ww_sipush hX (pc := 5) (x := 256) dX11_codes0_5 (by decide) ?_
      refine ww_icmp_ge hX (pc := 8) (tgt := 30) dX11_codes0_8 (by decide) (fun h_8 => ?_) (fun h_8 => ?_)
      · simp only [w32_mod] at h_8
        refine ww_aload_n hX (pc := 30) dX11_codes0_30 rfl ?_
        refine ww_getR hX (pc := 31) fX11_20 (by decide) (xs_49 hL) (xr_49_3 hL) dX11_codes0_31 ?_
        refine ww_sipush hX (pc := 34) (x := 304) dX11_codes0_34 (by decide) ?_
        refine ww_iald hX (pc := 37) (xs_51 hL) (by decide) (by omega) (by omega) dX11_codes0_37 ?_
        refine ww_toI (b := I3 51 304) rfl ?_
        refine ww_nmI (fun v_38 hv_38 => ?_)
        refine ww_istore hX (pc := 38) (lv' := [some (kR (some 49)), some (kI a), some (kI b), some (kI c), some (kI v_38), none, none, none, none, none]) dX11_codes0_38 (by decide) rfl rfl ?_
        refine ww_aload_n hX (pc := 40) dX11_codes0_40 rfl ?_
        refine ww_getR hX (pc := 41) fX11_20 (by decide) (xs_49 hL) (xr_49_3 hL) dX11_codes0_41 ?_
        refine ww_sipush hX (pc := 44) (x := 305) dX11_codes0_44 (by decide) ?_
        refine ww_iald hX (pc := 47) (xs_51 hL) (by decide) (by omega) (by omega) dX11_codes0_47 ?_
        refine ww_toI (b := I3 51 305) rfl ?_
        refine ww_nmI (fun v_48 hv_48 => ?_)
        refine ww_istore hX (pc := 48) (lv' := [some (kR (some 49)), some (kI a), some (kI b), some (kI c), some (kI v_38), some (kI v_48), none, none, none, none]) dX11_codes0_48 (by decide) rfl rfl ?_
        refine ww_aload_n hX (pc := 50) dX11_codes0_50 rfl ?_
        refine ww_getR hX (pc := 51) fX11_20 (by decide) (xs_49 hL) (xr_49_3 hL) dX11_codes0_51 ?_
        refine ww_sipush hX (pc := 54) (x := 304) dX11_codes0_54 (by decide) ?_
        refine ww_iload_n hX (pc := 57) dX11_codes0_57 rfl ?_
        refine ww_iast hX (pc := 58) (xs_51 hL) (by decide) (by omega) (by omega) dX11_codes0_58 ?_
        refine ww_nmH (fun I_58 eI_58 => ?_)
        have kI_58 : Ch [51, 61, 65, 66] [25, 31] Ia I_58 := by rw [eI_58]; exact Ch_r kI3 (by decide) (by decide)
        have cI_58 : RX I_58 := by rw [eI_58]; exact RX_304 cI3 (by omega) (by omega)
        have qI_58 := RX_s cI_58
        have r305_I_58 : I_58 51 305 = I3 51 305 := by rw [eI_58, up2_n _ _ (Or.inr (by decide))]
        have r309_I_58 : I_58 51 309 = I3 51 309 := by rw [eI_58, up2_n _ _ (Or.inr (by decide))]
        have f31_I_58 : I_58 49 31 = I3 49 31 := by rw [eI_58, up2_off _ _ _ (by decide)]
        have n304 : I_58 51 304 = a := by rw [eI_58]; exact up2_s _ _ _ _
        have hf7 : FU (I_58 51 304) ≤ 7 := FU_3 (by omega) (by omega)
        have hfn : FU (I_58 51 304) = FU a := by rw [n304]
        have o_I_58 : ∀ j : Nat, 256 ≤ j → j ≠ 304 → j ≠ 305 → I_58 51 j = Ia 51 j := fun j h1 h2 h3 => by rw [eI_58, up2_n _ _ (Or.inr (by omega))]; exact o_I3 j h1 h2 h3
        refine ww_aload_n hX (pc := 59) dX11_codes0_59 rfl ?_
        refine ww_getR hX (pc := 60) fX11_20 (by decide) (xs_49 hL) (xr_49_3 hL) dX11_codes0_60 ?_
        refine ww_sipush hX (pc := 63) (x := 305) dX11_codes0_63 (by decide) ?_
        refine ww_iload_n hX (pc := 66) dX11_codes0_66 rfl ?_
        refine ww_iast hX (pc := 67) (xs_51 hL) (by decide) (by omega) (by omega) dX11_codes0_67 ?_
        refine ww_nmH (fun I_67 eI_67 => ?_)
        have kI_67 : Ch [51, 61, 65, 66] [25, 31] Ia I_67 := by rw [eI_67]; exact Ch_r kI_58 (by decide) (by decide)
        have cI_67 : RX I_67 := by rw [eI_67]; exact RX_305 cI_58 (by omega) (by omega)
        have qI_67 := RX_s cI_67
        have r304_I_67 : I_67 51 304 = I_58 51 304 := by rw [eI_67, up2_n _ _ (Or.inr (by decide))]
        have r309_I_67 : I_67 51 309 = I_58 51 309 := by rw [eI_67, up2_n _ _ (Or.inr (by decide))]
        have f31_I_67 : I_67 49 31 = I_58 49 31 := by rw [eI_67, up2_off _ _ _ (by decide)]
        have rf_I_67 : FU (I_67 51 304) = FU (I_58 51 304) := by rw [r304_I_67]
        have n305 : I_67 51 305 = b := by rw [eI_67]; exact up2_s _ _ _ _
        have o_I_67 : ∀ j : Nat, 256 ≤ j → j ≠ 304 → j ≠ 305 → I_67 51 j = Ia 51 j := fun j h1 h2 h3 => by rw [eI_67, up2_n _ _ (Or.inr (by omega))]; exact o_I_58 j h1 h2 h3
        refine ww_iconst hX (pc := 68) (x := 1) dX11_codes0_68 rfl ?_
        refine ww_istore hX (pc := 69) (lv' := [some (kR (some 49)), some (kI a), some (kI b), some (kI c), some (kI v_38), some (kI v_48), some (kI 1), none, none, none]) dX11_codes0_69 (by decide) rfl rfl ?_
        refine ww_iconst hX (pc := 71) (x := 0) dX11_codes0_71 rfl ?_
        refine ww_istore hX (pc := 72) (lv' := [some (kR (some 49)), some (kI a), some (kI b), some (kI c), some (kI v_38), some (kI v_48), some (kI 1), some (kI 0), none, none]) dX11_codes0_72 (by decide) rfl rfl ?_
        have hl_74 : ∀ (n_74 : Nat) (al : Int) (i7 : Int), (256 - i7).toNat = n_74 → ((0 ≤ i7 ∧ i7 ≤ FU a + 1) ∧ al = b ^ i7.toNat) → WW X 74 [some (kR (some 49)), some (kI a), some (kI b), some (kI c), some (kI v_38), some (kI v_48), some (kI al), some (kI i7), none, none] [] I_67 J3 Ra Sa 0 0 := by
          intro n_74
          induction n_74 using Nat.strongRecOn with
          | ind n_74 ih_74 =>
            intro al i7 hm_74 hv_74
            have hq_74 := Sh0_i hm_74
            clear hm_74
            obtain ⟨hv7, hal⟩ := hv_74
            refine ww_iload hX (pc := 74) dX11_codes0_74 rfl ?_
            refine ww_aload_n hX (pc := 76) dX11_codes0_76 rfl ?_
            refine vI0 hX (pc := 77) sX11_112 (xs_49 hL) (c_X11_states l0 hL cI_67 ) (by decide) (Nat.le_refl 0) (Nat.le_refl 0) (Nat.le_of_ble_eq_true rfl) dX11_codes0_77 (fun x_77 I_77 J_77 h_77 => ?_)
            obtain ⟨rfl, rfl, h_77⟩ := h_77
            refine ww_icmp_ge hX (pc := 80) (tgt := 95) dX11_codes0_80 (by decide) (fun h_80 => ?_) (fun h_80 => ?_)
            · simp only [w32_mod] at h_80
              have hpl := pow_65536 (b := b) (n := (FU a + 1).toNat) (by omega) (by omega) (by omega)
              have hal2 : al = b ^ (FU a + 1).toNat := by rw [hal]; exact congrArg (fun z => b ^ z) (by omega)
              refine ww_aload_n hX (pc := 95) dX11_codes0_95 rfl ?_
              refine ww_iconst hX (pc := 96) (x := 0) dX11_codes0_96 rfl ?_
              refine ww_putI hX (pc := 97) (fun h9 => absurd h9 (by decide)) gX11_324 rfl (xs_49 hL) dX11_codes0_97 ?_
              refine ww_nmH (fun I_97 eI_97 => ?_)
              have kI_97 : Ch [51, 61, 65, 66] [25, 31] Ia I_97 := by rw [eI_97]; exact Ch_f kI_67 (by decide)
              have cI_97 : RX I_97 := by rw [eI_97]; exact RX_f cI_67 (by decide)
              have qI_97 := RX_s cI_97
              have r304_I_97 : I_97 51 304 = I_67 51 304 := by rw [eI_97, up2_off _ _ _ (by decide)]
              have r305_I_97 : I_97 51 305 = I_67 51 305 := by rw [eI_97, up2_off _ _ _ (by decide)]
              have r309_I_97 : I_97 51 309 = I_67 51 309 := by rw [eI_97, up2_off _ _ _ (by decide)]
              have rf_I_97 : FU (I_97 51 304) = FU (I_67 51 304) := by rw [r304_I_97]
              have z31 : I_97 49 31 = 0 := by rw [eI_97]; exact up2_s _ _ _ _
              have o_I_97 : ∀ j : Nat, 256 ≤ j → j ≠ 304 → j ≠ 305 → I_97 51 j = Ia 51 j := fun j h1 h2 h3 => by rw [eI_97, up2_off _ _ _ (by decide)]; exact o_I_67 j h1 h2 h3
              refine ww_iconst hX (pc := 100) (x := 0) dX11_codes0_100 rfl ?_
              refine ww_istore hX (pc := 101) (lv' := [some (kR (some 49)), some (kI a), some (kI b), some (kI c), some (kI v_38), some (kI v_48), some (kI al), some (kI 0), none, none]) dX11_codes0_101 (by decide) rfl rfl ?_
              have hl_103 : ∀ (n_103 : Nat) (cc9 : Int) (I103 : aI1) (J103 : aI1), (b ^ (FU a + 1).toNat - cc9).toNat = n_103 → (Ch [51, 61, 65, 66] [25, 31] Ia I103 ∧ RX I103 ∧ Kp 49 73 Ja J103 ∧ I103 51 304 = I_97 51 304 ∧ I103 51 305 = I_97 51 305 ∧ I103 51 309 = I_97 51 309 ∧ (∀ j : Nat, 256 ≤ j → j ≠ 304 → j ≠ 305 → I103 51 j = Ia 51 j) ∧ (0 ≤ cc9 ∧ cc9 ≤ b ^ (FU a + 1).toNat) ∧ I103 49 31 = ((cN b.toNat (FU a + 1).toNat c.toNat (cc9.toNat) : Nat) : Int)) → WW X 103 [some (kR (some 49)), some (kI a), some (kI b), some (kI c), some (kI v_38), some (kI v_48), some (kI al), some (kI cc9), none, none] [] I103 J103 Ra Sa 0 0 := by
                intro n_103
                induction n_103 using Nat.strongRecOn with
                | ind n_103 ih_103 =>
                  intro cc9 I103 J103 hm_103 hv_103
                  have hq_103 := Sh0_i hm_103
                  clear hm_103
                  obtain ⟨kI103, cI103, kJ103, r304_I103, r305_I103, r309_I103, o_I103, hu, hct⟩ := hv_103
                  have qI103 := RX_s cI103
                  have rf_I103 : FU (I103 51 304) = FU (I_97 51 304) := by rw [r304_I103]
                  refine ww_iload hX (pc := 103) dX11_codes0_103 rfl ?_
                  refine ww_iload hX (pc := 105) dX11_codes0_105 rfl ?_
                  refine ww_icmp_ge hX (pc := 107) (tgt := 224) dX11_codes0_107 (by decide) (fun h_107 => ?_) (fun h_107 => ?_)
                  · simp only [w32_mod] at h_107
                    have hcn : I103 49 31 = ((cN b.toNat (FU a + 1).toNat c.toNat (b.toNat ^ (FU a + 1).toNat) : Nat) : Int) := by
                      rw [hct]
                      have h9 : cc9 = b ^ (FU a + 1).toNat := by omega
                      rw [h9, pow_nat _ (by omega)]
                    refine ww_aload_n hX (pc := 224) dX11_codes0_224 rfl ?_
                    refine ww_getR hX (pc := 225) fX11_20 (by decide) (xs_49 hL) (xr_49_3 hL) dX11_codes0_225 ?_
                    refine ww_sipush hX (pc := 228) (x := 304) dX11_codes0_228 (by decide) ?_
                    refine ww_iload hX (pc := 231) dX11_codes0_231 rfl ?_
                    refine ww_iast hX (pc := 233) (xs_51 hL) (by decide) (by omega) (by omega) dX11_codes0_233 ?_
                    refine ww_nmH (fun I_233 eI_233 => ?_)
                    have kI_233 : Ch [51, 61, 65, 66] [25, 31] Ia I_233 := by rw [eI_233]; exact Ch_r kI103 (by decide) (by decide)
                    have cI_233 : RX I_233 := by rw [eI_233]; exact RX_304 cI103 (by omega) (by omega)
                    have qI_233 := RX_s cI_233
                    have r305_I_233 : I_233 51 305 = I103 51 305 := by rw [eI_233, up2_n _ _ (Or.inr (by decide))]
                    have r309_I_233 : I_233 51 309 = I103 51 309 := by rw [eI_233, up2_n _ _ (Or.inr (by decide))]
                    have f31_I_233 : I_233 49 31 = I103 49 31 := by rw [eI_233, up2_off _ _ _ (by decide)]
                    have m304 : I_233 51 304 = v_38 := by rw [eI_233]; exact up2_s _ _ _ _
                    have o_I_233 : ∀ j : Nat, 256 ≤ j → j ≠ 304 → j ≠ 305 → I_233 51 j = Ia 51 j := fun j h1 h2 h3 => by rw [eI_233, up2_n _ _ (Or.inr (by omega))]; exact o_I103 j h1 h2 h3
                    refine ww_aload_n hX (pc := 234) dX11_codes0_234 rfl ?_
                    refine ww_getR hX (pc := 235) fX11_20 (by decide) (xs_49 hL) (xr_49_3 hL) dX11_codes0_235 ?_
                    refine ww_sipush hX (pc := 238) (x := 305) dX11_codes0_238 (by decide) ?_
                    refine ww_iload hX (pc := 241) dX11_codes0_241 rfl ?_
                    refine ww_iast hX (pc := 243) (xs_51 hL) (by decide) (by omega) (by omega) dX11_codes0_243 ?_
                    refine ww_nmH (fun I_243 eI_243 => ?_)
                    have kI_243 : Ch [51, 61, 65, 66] [25, 31] Ia I_243 := by rw [eI_243]; exact Ch_r kI_233 (by decide) (by decide)
                    have cI_243 : RX I_243 := by rw [eI_243]; exact RX_305 cI_233 (by omega) (by omega)
                    have qI_243 := RX_s cI_243
                    have r304_I_243 : I_243 51 304 = I_233 51 304 := by rw [eI_243, up2_n _ _ (Or.inr (by decide))]
                    have r309_I_243 : I_243 51 309 = I_233 51 309 := by rw [eI_243, up2_n _ _ (Or.inr (by decide))]
                    have f31_I_243 : I_243 49 31 = I_233 49 31 := by rw [eI_243, up2_off _ _ _ (by decide)]
                    have rf_I_243 : FU (I_243 51 304) = FU (I_233 51 304) := by rw [r304_I_243]
                    have m305 : I_243 51 305 = v_48 := by rw [eI_243]; exact up2_s _ _ _ _
                    have o_I_243 : ∀ j : Nat, 256 ≤ j → j ≠ 304 → j ≠ 305 → I_243 51 j = Ia 51 j := fun j h1 h2 h3 => by rw [eI_243, up2_n _ _ (Or.inr (by omega))]; exact o_I_233 j h1 h2 h3
                    refine ww_iconst hX (pc := 244) (x := 0) dX11_codes0_244 rfl ?_
                    refine ww_istore hX (pc := 245) (lv' := [some (kR (some 49)), some (kI a), some (kI b), some (kI c), some (kI v_38), some (kI v_48), some (kI al), some (kI 0), none, none]) dX11_codes0_245 (by decide) rfl rfl ?_
                    have hl_247 : ∀ (n_247 : Nat) (q : Int) (I247 : aI1) (J247 : aI1), (256 - q).toNat = n_247 → (Ch [51, 61, 65, 66] [25, 31] Ia I247 ∧ RX I247 ∧ Kp 49 73 Ja J247 ∧ I247 51 304 = I_243 51 304 ∧ I247 51 305 = I_243 51 305 ∧ I247 51 309 = I_243 51 309 ∧ I247 49 31 = I_243 49 31 ∧ (∀ j : Nat, 256 ≤ j → j ≠ 304 → j ≠ 305 → I247 51 j = Ia 51 j) ∧ (0 ≤ q ∧ q ≤ 256)) → WW X 247 [some (kR (some 49)), some (kI a), some (kI b), some (kI c), some (kI v_38), some (kI v_48), some (kI al), some (kI q), none, none] [] I247 J247 Ra Sa 0 0 := by
                      intro n_247
                      induction n_247 using Nat.strongRecOn with
                      | ind n_247 ih_247 =>
                        intro q I247 J247 hm_247 hv_247
                        have hq_247 := Sh0_i hm_247
                        clear hm_247
                        obtain ⟨kI247, cI247, kJ247, r304_I247, r305_I247, r309_I247, f31_I247, o_I247, hw⟩ := hv_247
                        have qI247 := RX_s cI247
                        have rf_I247 : FU (I247 51 304) = FU (I_243 51 304) := by rw [r304_I247]
                        refine ww_iload hX (pc := 247) dX11_codes0_247 rfl ?_
                        refine ww_sipush hX (pc := 249) (x := 256) dX11_codes0_249 (by decide) ?_
                        refine ww_icmp_ge hX (pc := 252) (tgt := 277) dX11_codes0_252 (by decide) (fun h_252 => ?_) (fun h_252 => ?_)
                        · simp only [w32_mod] at h_252
                          refine ww_aload_n hX (pc := 277) dX11_codes0_277 rfl ?_
                          refine ww_iconst hX (pc := 278) (x := (-1)) dX11_codes0_278 rfl ?_
                          refine ww_putI hX (pc := 279) (fun h9 => absurd h9 (by decide)) gX11_62 rfl (xs_49 hL) dX11_codes0_279 ?_
                          refine ww_nmH (fun I_279 eI_279 => ?_)
                          have kI_279 : Ch [51, 61, 65, 66] [25, 31] Ia I_279 := by rw [eI_279]; exact Ch_f kI247 (by decide)
                          have cI_279 : RX I_279 := by rw [eI_279]; exact RX_f cI247 (by decide)
                          have qI_279 := RX_s cI_279
                          have r304_I_279 : I_279 51 304 = I247 51 304 := by rw [eI_279, up2_off _ _ _ (by decide)]
                          have r305_I_279 : I_279 51 305 = I247 51 305 := by rw [eI_279, up2_off _ _ _ (by decide)]
                          have r309_I_279 : I_279 51 309 = I247 51 309 := by rw [eI_279, up2_off _ _ _ (by decide)]
                          have f31_I_279 : I_279 49 31 = I247 49 31 := by rw [eI_279, up2_n _ _ (Or.inr (by decide))]
                          have rf_I_279 : FU (I_279 51 304) = FU (I247 51 304) := by rw [r304_I_279]
                          have o_I_279 : ∀ j : Nat, 256 ≤ j → j ≠ 304 → j ≠ 305 → I_279 51 j = Ia 51 j := fun j h1 h2 h3 => by rw [eI_279, up2_off _ _ _ (by decide)]; exact o_I247 j h1 h2 h3
                          refine rV hX (pc := 282) hT (Nat.le_refl 0) (Nat.le_refl 0) dX11_codes0_282 ?_
                          exact ⟨kI_279, kJ247, cI_279, by omega, by omega, by omega, (by rw [← hcn]; omega), o_I_279⟩
                        · simp only [w32_mod] at h_252
                          refine ww_aload_n hX (pc := 255) dX11_codes0_255 rfl ?_
                          refine ww_getR hX (pc := 256) fX11_20 (by decide) (xs_49 hL) (xr_49_3 hL) dX11_codes0_256 ?_
                          refine ww_iconst hX (pc := 259) (x := 0) dX11_codes0_259 rfl ?_
                          refine ww_iload hX (pc := 260) dX11_codes0_260 rfl ?_
                          refine ww_iadd hX (pc := 262) dX11_codes0_262 ?_
                          refine ww_aload_n hX (pc := 263) dX11_codes0_263 rfl ?_
                          refine ww_getR hX (pc := 264) fX11_71 (by decide) (xs_49 hL) (xr_49_29 hL) dX11_codes0_264 ?_
                          refine ww_iload hX (pc := 267) dX11_codes0_267 rfl ?_
                          refine ww_iald hX (pc := 269) (xs_65 hL) (by decide) (by omega) (by omega) dX11_codes0_269 ?_
                          refine ww_iast hX (pc := 270) (xs_51 hL) (by decide) (by omega) (by omega) dX11_codes0_270 ?_
                          refine ww_nmH (fun I_270 eI_270 => ?_)
                          have kI_270 : Ch [51, 61, 65, 66] [25, 31] Ia I_270 := by rw [eI_270]; exact Ch_r kI247 (by decide) (by decide)
                          have cI_270 : RX I_270 := by rw [eI_270]; exact RX_lo cI247 (by omega)
                          have qI_270 := RX_s cI_270
                          have r304_I_270 : I_270 51 304 = I247 51 304 := by rw [eI_270, up2_n _ _ (Or.inr (by omega))]
                          have r305_I_270 : I_270 51 305 = I247 51 305 := by rw [eI_270, up2_n _ _ (Or.inr (by omega))]
                          have r309_I_270 : I_270 51 309 = I247 51 309 := by rw [eI_270, up2_n _ _ (Or.inr (by omega))]
                          have f31_I_270 : I_270 49 31 = I247 49 31 := by rw [eI_270, up2_off _ _ _ (by decide)]
                          have rf_I_270 : FU (I_270 51 304) = FU (I247 51 304) := by rw [r304_I_270]
                          have o_I_270 : ∀ j : Nat, 256 ≤ j → j ≠ 304 → j ≠ 305 → I_270 51 j = Ia 51 j := fun j h1 h2 h3 => by rw [eI_270, up2_n _ _ (Or.inr (by omega))]; exact o_I247 j h1 h2 h3
                          refine ww_iinc hX (pc := 271) (lv' := [some (kR (some 49)), some (kI a), some (kI b), some (kI c), some (kI v_38), some (kI v_48), some (kI al), some (kI (q + 1)), none, none]) dX11_codes0_271 rfl (by decide) rfl rfl ?_
                          refine ww_goto hX (pc := 274) (tgt := 247) dX11_codes0_274 (by decide) ?_
                          exact ih_247 _ (by have hm9 := Sh0_e hq_247; omega) (q + 1) I_270 J247 rfl ⟨kI_270, cI_270, kJ247, by omega, by omega, by omega, by omega, o_I_270, by omega⟩
                    exact hl_247 _ 0 I_243 J103 rfl ⟨kI_243, cI_243, kJ103, rfl, rfl, rfl, rfl, o_I_243, by omega⟩
                  · simp only [w32_mod] at h_107
                    refine ww_iload hX (pc := 110) dX11_codes0_110 rfl ?_
                    refine ww_istore hX (pc := 112) (lv' := [some (kR (some 49)), some (kI a), some (kI b), some (kI c), some (kI v_38), some (kI v_48), some (kI al), some (kI cc9), some (kI cc9), none]) dX11_codes0_112 (by decide) rfl rfl ?_
                    refine ww_aload_n hX (pc := 114) dX11_codes0_114 rfl ?_
                    refine vI0 hX (pc := 115) sX11_112 (xs_49 hL) (c_X11_states l0 hL cI103 ) (by decide) (Nat.le_refl 0) (Nat.le_refl 0) (Nat.le_of_ble_eq_true rfl) dX11_codes0_115 (fun x_115 I_115 J_115 h_115 => ?_)
                    obtain ⟨rfl, rfl, h_115⟩ := h_115
                    refine ww_iconst hX (pc := 118) (x := 1) dX11_codes0_118 rfl ?_
                    refine ww_isub hX (pc := 119) dX11_codes0_119 ?_
                    refine ww_nmI (fun v_120 hv_120 => ?_)
                    refine ww_istore hX (pc := 120) (lv' := [some (kR (some 49)), some (kI a), some (kI b), some (kI c), some (kI v_38), some (kI v_48), some (kI al), some (kI cc9), some (kI cc9), some (kI v_120)]) dX11_codes0_120 (by decide) rfl rfl ?_
                    have hl_122 : ∀ (n_122 : Nat) (re : Int) (q : Int) (I122 : aI1) (J122 : aI1), (q + 1).toNat = n_122 → (Ch [51, 61, 65, 66] [25, 31] Ia I122 ∧ RX I122 ∧ Kp 49 73 Ja J122 ∧ I122 51 304 = I103 51 304 ∧ I122 51 305 = I103 51 305 ∧ I122 51 309 = I103 51 309 ∧ I122 49 31 = I103 49 31 ∧ (∀ j : Nat, 256 ≤ j → j ≠ 304 → j ≠ 305 → I122 51 j = Ia 51 j) ∧ (-1 ≤ q ∧ q ≤ FU a ∧ 0 ≤ re ∧ re ≤ 65536) ∧ DG b.toNat (FU a + 1).toNat cc9.toNat q re (I122 51)) → WW X 122 [some (kR (some 49)), some (kI a), some (kI b), some (kI c), some (kI v_38), some (kI v_48), some (kI al), some (kI cc9), some (kI re), some (kI q)] [] I122 J122 Ra Sa 0 0 := by
                      intro n_122
                      induction n_122 using Nat.strongRecOn with
                      | ind n_122 ih_122 =>
                        intro re q I122 J122 hm_122 hv_122
                        have hq_122 := Sh0_i hm_122
                        clear hm_122
                        obtain ⟨kI122, cI122, kJ122, r304_I122, r305_I122, r309_I122, f31_I122, o_I122, hw, hdg⟩ := hv_122
                        have qI122 := RX_s cI122
                        have rf_I122 : FU (I122 51 304) = FU (I103 51 304) := by rw [r304_I122]
                        refine ww_iload hX (pc := 122) dX11_codes0_122 rfl ?_
                        refine ww_if_lt hX (pc := 124) (tgt := 152) dX11_codes0_124 (by decide) (fun h_124 => ?_) (fun h_124 => ?_)
                        · simp only [w32_mod] at h_124
                          have hq1 : q = -1 := by omega
                          rw [hq1] at hdg
                          refine ww_aload_n hX (pc := 152) dX11_codes0_152 rfl ?_
                          refine ww_iconst hX (pc := 153) (x := 0) dX11_codes0_153 rfl ?_
                          refine vV1 hX (pc := 154) sX11_285 (xs_49 hL) (c5_X11_lasts0 l0 hL cI122 (fun t ht => by have := DG_r hdg (s := t) (by omega) (by omega) (by omega); omega)) (by decide) (Nat.le_refl 0) (Nat.le_refl 0) (Nat.le_of_ble_eq_true rfl) dX11_codes0_154 (fun I_154 J_154 h_154 => ?_)
                          have kJ_154 : Kp 49 73 Ja J_154 := Kp_tr kJ122 h_154.2.1
                          have kI_154 : Ch [51, 61, 65, 66] [25, 31] Ia I_154 := Ch_tr kI122 (Ch_wd h_154.1 (by decide) (by decide))
                          have cI_154 : RX I_154 := h_154.2.2.1
                          have qI_154 := RX_s cI_154
                          have r304_I_154 : I_154 51 304 = I122 51 304 := by rw [h_154.1.1 51 (by decide) (by decide)]
                          have r305_I_154 : I_154 51 305 = I122 51 305 := by rw [h_154.1.1 51 (by decide) (by decide)]
                          have r309_I_154 : I_154 51 309 = I122 51 309 := by rw [h_154.1.1 51 (by decide) (by decide)]
                          have f31_I_154 : I_154 49 31 = I122 49 31 := h_154.1.2 31 (by decide)
                          have rf_I_154 : FU (I_154 51 304) = FU (I122 51 304) := by rw [r304_I_154]
                          have hlv := h_154.2.2.2.2
                          have hlb0 := h_154.2.2.1.2.2.1 0 (by decide)
                          have hd0 : I_154 61 0 = ((DL b.toNat (dgs b.toNat (FU a + 1).toNat cc9.toNat) : Nat) : Int) := DL_v (N := (FU a + 1).toNat) (q := b.toNat) (dgs_len _ _ _) (by omega) (by omega) (by omega) (by omega) (by rw [show (((FU a + 1).toNat : Nat) : Int) = FU (I122 51 304) + 1 by omega, show ((b.toNat : Nat) : Int) = I122 51 305 by omega]; exact hlv) (fun s hs => DG_e hdg hs)
                          have o_I_154 : ∀ j : Nat, 256 ≤ j → j ≠ 304 → j ≠ 305 → I_154 51 j = Ia 51 j := fun j h1 h2 h3 => by rw [h_154.1.1 51 (by decide) (by decide)]; exact o_I122 j h1 h2 h3
                          refine ww_aload_n hX (pc := 157) dX11_codes0_157 rfl ?_
                          refine ww_getR hX (pc := 158) fX11_55 (by decide) (xs_49 hL) (xr_49_23 hL) dX11_codes0_158 ?_
                          refine ww_iconst hX (pc := 161) (x := 0) dX11_codes0_161 rfl ?_
                          refine ww_iald hX (pc := 162) (xs_61 hL) (by decide) (by omega) (by omega) dX11_codes0_162 ?_
                          refine ww_toI (b := I_154 61 0) rfl ?_
                          refine ww_iload_n hX (pc := 163) dX11_codes0_163 rfl ?_
                          refine ww_icmp_ge hX (pc := 164) (tgt := 170) dX11_codes0_164 (by decide) (fun h_164 => ?_) (fun h_164 => ?_)
                          · simp only [w32_mod] at h_164
                            have hcs : cN b.toNat (FU a + 1).toNat c.toNat (cc9 + 1).toNat = cN b.toNat (FU a + 1).toNat c.toNat cc9.toNat + 1 := by
                              rw [show (cc9 + 1).toNat = cc9.toNat + 1 by omega]
                              show _ + (if _ then _ else _) = _
                              rw [if_pos (by omega)]
                            refine ww_aload_n hX (pc := 170) dX11_codes0_170 rfl ?_
                            refine ww_getI hX (pc := 171) fX11_324 (by decide) (xs_49 hL) dX11_codes0_171 ?_
                            refine ww_if_ne hX (pc := 174) (tgt := 208) dX11_codes0_174 (by decide) (fun h_174 => ?_) (fun h_174 => ?_)
                            · simp only [w32_mod] at h_174
                              refine ww_aload_n hX (pc := 208) dX11_codes0_208 rfl ?_
                              refine ww_dupR hX (pc := 209) dX11_codes0_209 ?_
                              refine ww_getI hX (pc := 210) fX11_324 (by decide) (xs_49 hL) dX11_codes0_210 ?_
                              refine ww_iconst hX (pc := 213) (x := 1) dX11_codes0_213 rfl ?_
                              refine ww_iadd hX (pc := 214) dX11_codes0_214 ?_
                              refine ww_putI hX (pc := 215) (fun h9 => absurd h9 (by decide)) gX11_324 rfl (xs_49 hL) dX11_codes0_215 ?_
                              refine ww_nmH (fun I_215 eI_215 => ?_)
                              have kI_215 : Ch [51, 61, 65, 66] [25, 31] Ia I_215 := by rw [eI_215]; exact Ch_f kI_154 (by decide)
                              have cI_215 : RX I_215 := by rw [eI_215]; exact RX_f cI_154 (by decide)
                              have qI_215 := RX_s cI_215
                              have r304_I_215 : I_215 51 304 = I_154 51 304 := by rw [eI_215, up2_off _ _ _ (by decide)]
                              have r305_I_215 : I_215 51 305 = I_154 51 305 := by rw [eI_215, up2_off _ _ _ (by decide)]
                              have r309_I_215 : I_215 51 309 = I_154 51 309 := by rw [eI_215, up2_off _ _ _ (by decide)]
                              have rf_I_215 : FU (I_215 51 304) = FU (I_154 51 304) := by rw [r304_I_215]
                              have z215 : I_215 49 31 = I_154 49 31 + 1 := by rw [eI_215]; exact up2_s _ _ _ _
                              have o_I_215 : ∀ j : Nat, 256 ≤ j → j ≠ 304 → j ≠ 305 → I_215 51 j = Ia 51 j := fun j h1 h2 h3 => by rw [eI_215, up2_off _ _ _ (by decide)]; exact o_I_154 j h1 h2 h3
                              refine ww_iinc hX (pc := 218) (lv' := [some (kR (some 49)), some (kI a), some (kI b), some (kI c), some (kI v_38), some (kI v_48), some (kI al), some (kI (cc9 + 1)), some (kI re), some (kI q)]) dX11_codes0_218 rfl (by decide) rfl rfl ?_
                              refine ww_goto hX (pc := 221) (tgt := 103) dX11_codes0_221 (by decide) ?_
                              refine ww_sub [some (kR (some 49)), some (kI a), some (kI b), some (kI c), some (kI v_38), some (kI v_48), some (kI al), some (kI (cc9 + 1)), none, none] (aLe_s (aLe_s (aLe_s (aLe_s (aLe_s (aLe_s (aLe_s (aLe_s (aLe_n (aLe_n aLe_0)))))))))) ?_
                              exact ih_103 _ (by have hm9 := Sh0_e hq_103; omega) (cc9 + 1) I_215 J_154 rfl ⟨kI_215, cI_215, kJ_154, by omega, by omega, by omega, o_I_215, ⟨by omega, by omega⟩, (by rw [hcs]; omega)⟩
                            · simp only [w32_mod] at h_174
                              refine ww_iconst hX (pc := 177) (x := 0) dX11_codes0_177 rfl ?_
                              refine ww_istore hX (pc := 178) (lv' := [some (kR (some 49)), some (kI a), some (kI b), some (kI c), some (kI v_38), some (kI v_48), some (kI al), some (kI cc9), some (kI re), some (kI 0)]) dX11_codes0_178 (by decide) rfl rfl ?_
                              have hl_180 : ∀ (n_180 : Nat) (q : Int) (I180 : aI1) (J180 : aI1), (8 - q).toNat = n_180 → (Ch [51, 61, 65, 66] [25, 31] Ia I180 ∧ RX I180 ∧ Kp 49 73 Ja J180 ∧ I180 51 304 = I_154 51 304 ∧ I180 51 305 = I_154 51 305 ∧ I180 51 309 = I_154 51 309 ∧ I180 49 31 = I_154 49 31 ∧ (∀ j : Nat, 256 ≤ j → j ≠ 304 → j ≠ 305 → I180 51 j = Ia 51 j) ∧ (0 ≤ q ∧ q ≤ 8)) → WW X 180 [some (kR (some 49)), some (kI a), some (kI b), some (kI c), some (kI v_38), some (kI v_48), some (kI al), some (kI cc9), some (kI re), some (kI q)] [] I180 J180 Ra Sa 0 0 := by
                                intro n_180
                                induction n_180 using Nat.strongRecOn with
                                | ind n_180 ih_180 =>
                                  intro q I180 J180 hm_180 hv_180
                                  have hq_180 := Sh0_i hm_180
                                  clear hm_180
                                  obtain ⟨kI180, cI180, kJ180, r304_I180, r305_I180, r309_I180, f31_I180, o_I180, hw⟩ := hv_180
                                  have qI180 := RX_s cI180
                                  have rf_I180 : FU (I180 51 304) = FU (I_154 51 304) := by rw [r304_I180]
                                  refine ww_iload hX (pc := 180) dX11_codes0_180 rfl ?_
                                  refine ww_aload_n hX (pc := 182) dX11_codes0_182 rfl ?_
                                  refine vI0 hX (pc := 183) sX11_112 (xs_49 hL) (c_X11_states l0 hL cI180 ) (by decide) (Nat.le_refl 0) (Nat.le_refl 0) (Nat.le_of_ble_eq_true rfl) dX11_codes0_183 (fun x_183 I_183 J_183 h_183 => ?_)
                                  obtain ⟨rfl, rfl, h_183⟩ := h_183
                                  refine ww_icmp_ge hX (pc := 186) (tgt := 208) dX11_codes0_186 (by decide) (fun h_186 => ?_) (fun h_186 => ?_)
                                  · simp only [w32_mod] at h_186
                                    refine ww_aload_n hX (pc := 208) dX11_codes0_208 rfl ?_
                                    refine ww_dupR hX (pc := 209) dX11_codes0_209 ?_
                                    refine ww_getI hX (pc := 210) fX11_324 (by decide) (xs_49 hL) dX11_codes0_210 ?_
                                    refine ww_iconst hX (pc := 213) (x := 1) dX11_codes0_213 rfl ?_
                                    refine ww_iadd hX (pc := 214) dX11_codes0_214 ?_
                                    refine ww_putI hX (pc := 215) (fun h9 => absurd h9 (by decide)) gX11_324 rfl (xs_49 hL) dX11_codes0_215 ?_
                                    refine ww_nmH (fun I_215 eI_215 => ?_)
                                    have kI_215 : Ch [51, 61, 65, 66] [25, 31] Ia I_215 := by rw [eI_215]; exact Ch_f kI180 (by decide)
                                    have cI_215 : RX I_215 := by rw [eI_215]; exact RX_f cI180 (by decide)
                                    have qI_215 := RX_s cI_215
                                    have r304_I_215 : I_215 51 304 = I180 51 304 := by rw [eI_215, up2_off _ _ _ (by decide)]
                                    have r305_I_215 : I_215 51 305 = I180 51 305 := by rw [eI_215, up2_off _ _ _ (by decide)]
                                    have r309_I_215 : I_215 51 309 = I180 51 309 := by rw [eI_215, up2_off _ _ _ (by decide)]
                                    have rf_I_215 : FU (I_215 51 304) = FU (I180 51 304) := by rw [r304_I_215]
                                    have z215 : I_215 49 31 = I180 49 31 + 1 := by rw [eI_215]; exact up2_s _ _ _ _
                                    have o_I_215 : ∀ j : Nat, 256 ≤ j → j ≠ 304 → j ≠ 305 → I_215 51 j = Ia 51 j := fun j h1 h2 h3 => by rw [eI_215, up2_off _ _ _ (by decide)]; exact o_I180 j h1 h2 h3
                                    refine ww_iinc hX (pc := 218) (lv' := [some (kR (some 49)), some (kI a), some (kI b), some (kI c), some (kI v_38), some (kI v_48), some (kI al), some (kI (cc9 + 1)), some (kI re), some (kI q)]) dX11_codes0_218 rfl (by decide) rfl rfl ?_
                                    refine ww_goto hX (pc := 221) (tgt := 103) dX11_codes0_221 (by decide) ?_
                                    refine ww_sub [some (kR (some 49)), some (kI a), some (kI b), some (kI c), some (kI v_38), some (kI v_48), some (kI al), some (kI (cc9 + 1)), none, none] (aLe_s (aLe_s (aLe_s (aLe_s (aLe_s (aLe_s (aLe_s (aLe_s (aLe_n (aLe_n aLe_0)))))))))) ?_
                                    exact ih_103 _ (by have hm9 := Sh0_e hq_103; omega) (cc9 + 1) I_215 J180 rfl ⟨kI_215, cI_215, kJ180, by omega, by omega, by omega, o_I_215, ⟨by omega, by omega⟩, (by rw [hcs]; omega)⟩
                                  · simp only [w32_mod] at h_186
                                    refine ww_aload_n hX (pc := 189) dX11_codes0_189 rfl ?_
                                    refine ww_getR hX (pc := 190) fX11_74 (by decide) (xs_49 hL) (xr_49_30 hL) dX11_codes0_190 ?_
                                    refine ww_iload hX (pc := 193) dX11_codes0_193 rfl ?_
                                    refine ww_aload_n hX (pc := 195) dX11_codes0_195 rfl ?_
                                    refine ww_iload hX (pc := 196) dX11_codes0_196 rfl ?_
                                    refine vI1 hX (pc := 198) sX11_126 (xs_49 hL) (c_X11_readOf l0 hL cI180 (by omega) (by omega)) (by decide) (Nat.le_refl 0) (Nat.le_refl 0) (Nat.le_of_ble_eq_true rfl) dX11_codes0_198 (fun x_198 I_198 J_198 h_198 => ?_)
                                    obtain ⟨rfl, rfl, h_198⟩ := h_198
                                    refine ww_iast hX (pc := 201) (xs_66 hL) (by decide) (by omega) (by omega) dX11_codes0_201 ?_
                                    refine ww_nmH (fun I_201 eI_201 => ?_)
                                    have kI_201 : Ch [51, 61, 65, 66] [25, 31] Ia I_201 := by rw [eI_201]; exact Ch_r kI180 (by decide) (by decide)
                                    have cI_201 : RX I_201 := by rw [eI_201]; exact RX_r cI180 (by decide)
                                    have qI_201 := RX_s cI_201
                                    have r304_I_201 : I_201 51 304 = I180 51 304 := by rw [eI_201, up2_off _ _ _ (by decide)]
                                    have r305_I_201 : I_201 51 305 = I180 51 305 := by rw [eI_201, up2_off _ _ _ (by decide)]
                                    have r309_I_201 : I_201 51 309 = I180 51 309 := by rw [eI_201, up2_off _ _ _ (by decide)]
                                    have f31_I_201 : I_201 49 31 = I180 49 31 := by rw [eI_201, up2_off _ _ _ (by decide)]
                                    have rf_I_201 : FU (I_201 51 304) = FU (I180 51 304) := by rw [r304_I_201]
                                    have o_I_201 : ∀ j : Nat, 256 ≤ j → j ≠ 304 → j ≠ 305 → I_201 51 j = Ia 51 j := fun j h1 h2 h3 => by rw [eI_201, up2_off _ _ _ (by decide)]; exact o_I180 j h1 h2 h3
                                    refine ww_iinc hX (pc := 202) (lv' := [some (kR (some 49)), some (kI a), some (kI b), some (kI c), some (kI v_38), some (kI v_48), some (kI al), some (kI cc9), some (kI re), some (kI (q + 1))]) dX11_codes0_202 rfl (by decide) rfl rfl ?_
                                    refine ww_goto hX (pc := 205) (tgt := 180) dX11_codes0_205 (by decide) ?_
                                    exact ih_180 _ (by have hm9 := Sh0_e hq_180; omega) (q + 1) I_201 J180 rfl ⟨kI_201, cI_201, kJ180, by omega, by omega, by omega, by omega, o_I_201, by omega⟩
                              exact hl_180 _ 0 I_154 J_154 rfl ⟨kI_154, cI_154, kJ_154, rfl, rfl, rfl, rfl, o_I_154, by omega⟩
                          · simp only [w32_mod] at h_164
                            have hcs : cN b.toNat (FU a + 1).toNat c.toNat (cc9 + 1).toNat = cN b.toNat (FU a + 1).toNat c.toNat cc9.toNat := by
                              rw [show (cc9 + 1).toNat = cc9.toNat + 1 by omega]
                              show _ + (if _ then _ else _) = _
                              rw [if_neg (by omega), Nat.add_zero]
                            refine ww_goto hX (pc := 167) (tgt := 218) dX11_codes0_167 (by decide) ?_
                            refine ww_iinc hX (pc := 218) (lv' := [some (kR (some 49)), some (kI a), some (kI b), some (kI c), some (kI v_38), some (kI v_48), some (kI al), some (kI (cc9 + 1)), some (kI re), some (kI q)]) dX11_codes0_218 rfl (by decide) rfl rfl ?_
                            refine ww_goto hX (pc := 221) (tgt := 103) dX11_codes0_221 (by decide) ?_
                            refine ww_sub [some (kR (some 49)), some (kI a), some (kI b), some (kI c), some (kI v_38), some (kI v_48), some (kI al), some (kI (cc9 + 1)), none, none] (aLe_s (aLe_s (aLe_s (aLe_s (aLe_s (aLe_s (aLe_s (aLe_s (aLe_n (aLe_n aLe_0)))))))))) ?_
                            exact ih_103 _ (by have hm9 := Sh0_e hq_103; omega) (cc9 + 1) I_154 J_154 rfl ⟨kI_154, cI_154, kJ_154, by omega, by omega, by omega, o_I_154, ⟨by omega, by omega⟩, (by rw [hcs]; omega)⟩
                        · simp only [w32_mod] at h_124
                          refine ww_aload_n hX (pc := 127) dX11_codes0_127 rfl ?_
                          refine ww_getR hX (pc := 128) fX11_20 (by decide) (xs_49 hL) (xr_49_3 hL) dX11_codes0_128 ?_
                          refine ww_iconst hX (pc := 131) (x := 0) dX11_codes0_131 rfl ?_
                          refine ww_iload hX (pc := 132) dX11_codes0_132 rfl ?_
                          refine ww_iadd hX (pc := 134) dX11_codes0_134 ?_
                          refine ww_iload hX (pc := 135) dX11_codes0_135 rfl ?_
                          refine ww_iload_n hX (pc := 137) dX11_codes0_137 rfl ?_
                          refine ww_irem hX (pc := 138) dX11_codes0_138 (by rw [w32_id (by omega) (by omega)]; omega) ?_
                          refine ww_toI (b := re % b) (i_rem_v (by omega) (by omega) (by omega) (by omega)) ?_
                          refine ww_iast hX (pc := 139) (xs_51 hL) (by decide) (by omega) (by omega) dX11_codes0_139 ?_
                          refine ww_nmH (fun I_139 eI_139 => ?_)
                          have kI_139 : Ch [51, 61, 65, 66] [25, 31] Ia I_139 := by rw [eI_139]; exact Ch_r kI122 (by decide) (by decide)
                          have cI_139 : RX I_139 := by rw [eI_139]; exact RX_lo cI122 (by omega)
                          have qI_139 := RX_s cI_139
                          have r304_I_139 : I_139 51 304 = I122 51 304 := by rw [eI_139, up2_n _ _ (Or.inr (by omega))]
                          have r305_I_139 : I_139 51 305 = I122 51 305 := by rw [eI_139, up2_n _ _ (Or.inr (by omega))]
                          have r309_I_139 : I_139 51 309 = I122 51 309 := by rw [eI_139, up2_n _ _ (Or.inr (by omega))]
                          have f31_I_139 : I_139 49 31 = I122 49 31 := by rw [eI_139, up2_off _ _ _ (by decide)]
                          have rf_I_139 : FU (I_139 51 304) = FU (I122 51 304) := by rw [r304_I_139]
                          have g139 : I_139 51 = up1 (I122 51) q.toNat (re % b) := by rw [eI_139, up2_row]; exact congrArg (fun z => up1 (I122 51) z (re % b)) (by omega)
                          have o_I_139 : ∀ j : Nat, 256 ≤ j → j ≠ 304 → j ≠ 305 → I_139 51 j = Ia 51 j := fun j h1 h2 h3 => by rw [eI_139, up2_n _ _ (Or.inr (by omega))]; exact o_I122 j h1 h2 h3
                          refine ww_iload hX (pc := 140) dX11_codes0_140 rfl ?_
                          refine ww_iload_n hX (pc := 142) dX11_codes0_142 rfl ?_
                          refine ww_idiv hX (pc := 143) dX11_codes0_143 (by rw [w32_id (by omega) (by omega)]; omega) ?_
                          refine ww_nmI (fun v_144 hv_144 => ?_)
                          refine ww_istore hX (pc := 144) (lv' := [some (kR (some 49)), some (kI a), some (kI b), some (kI c), some (kI v_38), some (kI v_48), some (kI al), some (kI cc9), some (kI v_144), some (kI q)]) dX11_codes0_144 (by decide) rfl rfl ?_
                          rw [i_div_v (by omega) (by omega) (by omega) (by omega)] at hv_144
                          have hdv0 := Int.ediv_nonneg (show 0 ≤ re by omega) (show 0 ≤ b by omega)
                          have hdv1 := Int.ediv_le_self b (show 0 ≤ re by omega)
                          refine ww_iinc hX (pc := 146) (lv' := [some (kR (some 49)), some (kI a), some (kI b), some (kI c), some (kI v_38), some (kI v_48), some (kI al), some (kI cc9), some (kI v_144), some (kI (q + (-1)))]) dX11_codes0_146 rfl (by decide) rfl rfl ?_
                          refine ww_goto hX (pc := 149) (tgt := 122) dX11_codes0_149 (by decide) ?_
                          exact ih_122 _ (by have hm9 := Sh0_e hq_122; omega) v_144 (q + (-1)) I_139 J122 rfl ⟨kI_139, cI_139, kJ122, by omega, by omega, by omega, by omega, o_I_139, by omega, (DG_cg (DG_s hdg (by omega) (by omega) (by omega) hv_144 (by omega)) g139)⟩
                    exact hl_122 _ cc9 v_120 I103 J103 rfl ⟨kI103, cI103, kJ103, rfl, rfl, rfl, rfl, o_I103, by omega, DG_0 (by omega) (by omega)⟩
              exact hl_103 _ 0 I_97 J3 rfl ⟨kI_97, cI_97, kJ3, rfl, rfl, rfl, o_I_97, ⟨by omega, by omega⟩, z31⟩
            · simp only [w32_mod] at h_80
              refine ww_iload hX (pc := 83) dX11_codes0_83 rfl ?_
              refine ww_iload_n hX (pc := 85) dX11_codes0_85 rfl ?_
              refine ww_imul hX (pc := 86) dX11_codes0_86 ?_
              refine ww_nmI (fun v_87 hv_87 => ?_)
              refine ww_istore hX (pc := 87) (lv' := [some (kR (some 49)), some (kI a), some (kI b), some (kI c), some (kI v_38), some (kI v_48), some (kI v_87), some (kI i7), none, none]) dX11_codes0_87 (by decide) rfl rfl ?_
              have hpw : v_87 = b ^ (i7 + 1).toNat := by
                rw [hv_87, hal, show (i7 + 1).toNat = i7.toNat + 1 by omega, Int.pow_succ]
              refine ww_iinc hX (pc := 89) (lv' := [some (kR (some 49)), some (kI a), some (kI b), some (kI c), some (kI v_38), some (kI v_48), some (kI v_87), some (kI (i7 + 1)), none, none]) dX11_codes0_89 rfl (by decide) rfl rfl ?_
              refine ww_goto hX (pc := 92) (tgt := 74) dX11_codes0_92 (by decide) ?_
              exact ih_74 _ (by have hm9 := Sh0_e hq_74; omega) v_87 (i7 + 1) rfl ⟨⟨by omega, by omega⟩, hpw⟩
        exact hl_74 _ 1 0 rfl ⟨⟨by omega, by omega⟩, (Int.pow_zero _).symm⟩
      · simp only [w32_mod] at h_8
        refine ww_aload_n hX (pc := 11) dX11_codes0_11 rfl ?_
        refine ww_getR hX (pc := 12) fX11_71 (by decide) (xs_49 hL) (xr_49_29 hL) dX11_codes0_12 ?_
        refine ww_iload hX (pc := 15) dX11_codes0_15 rfl ?_
        refine ww_aload_n hX (pc := 17) dX11_codes0_17 rfl ?_
        refine ww_iload hX (pc := 18) dX11_codes0_18 rfl ?_
        refine vI1 hX (pc := 20) sX11_126 (xs_49 hL) (c_X11_readOf l0 hL cI3 (by omega) (by omega)) (by decide) (Nat.le_refl 0) (Nat.le_refl 0) (Nat.le_of_ble_eq_true rfl) dX11_codes0_20 (fun x_20 I_20 J_20 h_20 => ?_)
        obtain ⟨rfl, rfl, h_20⟩ := h_20
        refine ww_iast hX (pc := 23) (xs_65 hL) (by decide) (by omega) (by omega) dX11_codes0_23 ?_
        refine ww_nmH (fun I_23 eI_23 => ?_)
        have kI_23 : Ch [51, 61, 65, 66] [25, 31] Ia I_23 := by rw [eI_23]; exact Ch_r kI3 (by decide) (by decide)
        have cI_23 : RX I_23 := by rw [eI_23]; exact RX_r cI3 (by decide)
        have qI_23 := RX_s cI_23
        have r304_I_23 : I_23 51 304 = I3 51 304 := by rw [eI_23, up2_off _ _ _ (by decide)]
        have r305_I_23 : I_23 51 305 = I3 51 305 := by rw [eI_23, up2_off _ _ _ (by decide)]
        have r309_I_23 : I_23 51 309 = I3 51 309 := by rw [eI_23, up2_off _ _ _ (by decide)]
        have f31_I_23 : I_23 49 31 = I3 49 31 := by rw [eI_23, up2_off _ _ _ (by decide)]
        have rf_I_23 : FU (I_23 51 304) = FU (I3 51 304) := by rw [r304_I_23]
        have o_I_23 : ∀ j : Nat, 256 ≤ j → j ≠ 304 → j ≠ 305 → I_23 51 j = Ia 51 j := fun j h1 h2 h3 => by rw [eI_23, up2_off _ _ _ (by decide)]; exact o_I3 j h1 h2 h3
        refine ww_iinc hX (pc := 24) (lv' := [some (kR (some 49)), some (kI a), some (kI b), some (kI c), some (kI (i + 1)), none, none, none, none, none]) dX11_codes0_24 rfl (by decide) rfl rfl ?_
        refine ww_goto hX (pc := 27) (tgt := 3) dX11_codes0_27 (by decide) ?_
        exact ih_3 _ (by have hm9 := Sh0_e hq_3; omega) (i + 1) I_23 J3 rfl ⟨kI_23, cI_23, kJ3, by omega, by omega, by omega, by omega, o_I_23, by omega⟩
  exact hl_3 _ 0 Ia Ja rfl ⟨Ch_rf, hQ, (Kp_rf (a := 49) (b := 73)), rfl, rfl, rfl, rfl, (fun _ _ _ _ => rfl), by omega⟩
end
