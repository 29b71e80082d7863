def RA (code : Nat → Int) (g N i : Int) (C : Nat → Int) : Prop := (∀ t : Nat, (t : Int) < N → C t = 0 ∨ C t = 1) ∧ (∀ t : Nat, (t : Int) < N → C t = 1 → RC code g t) ∧ C 0 = 1 ∧ (1 ≤ i → ∀ t : Nat, (t : Int) < N → RC code g t → C t = 1)
def RB (code : Nat → Int) (g N i t : Int) (C : Nat → Int) : Prop := RA code g N i C ∧ (i = 0 → ∀ u : Nat, (u : Int) < N → (u : Int) < t → RC code g u → C u = 1)
theorem RA_0 {code C : Nat → Int} {g N : Int} (h0 : 0 < N) (h : ∀ t : Nat, (t : Int) < N → C t = if t = 0 then 1 else 0) : RA code g N 0 C := by
  refine ⟨fun t ht => ?_, fun t ht h1 => ?_, ?_, fun h9 => absurd h9 (by omega)⟩
  · rw [h t ht]
    split
    · exact Or.inr rfl
    · exact Or.inl rfl
  · rw [h t ht] at h1
    by_cases e : t = 0
    · exact Or.inl e
    · rw [if_neg e] at h1
      omega
  · rw [h 0 (by omega)]
    rfl
theorem RB_0 {code C : Nat → Int} {g N i t : Int} (h : RA code g N i C) (ht : t = i + 1) : RB code g N i t C := ⟨h, fun hi u hu hut hr => by
  rw [show u = 0 by omega]
  exact h.2.2.1⟩
theorem RB_n {code C : Nat → Int} {g N i t : Int} (h : RB code g N i t C) (hi : 0 ≤ i) (ht : i + 1 ≤ t) (htN : t < N) (hN : N ≤ 256) (hn : ¬ (¬ code t.toNat = -1 ∧ canC i t g)) : RB code g N i (t + 1) C := ⟨h.1, fun hi0 u hu hut hr => by
  by_cases e : (u : Int) < t
  · exact h.2 hi0 u hu e hr
  · exfalso
    rcases hr with h2 | ⟨h2, h3⟩
    · omega
    · refine hn ⟨by rw [show t.toNat = u by omega]; exact h2, (canC_iff (by omega) (by omega) (by omega) (by omega)).mpr ⟨?_, ?_⟩⟩
      · rw [hi0]
        exact Nat.zero_and _
      · rw [hi0, ixor_z (by omega) (by omega), show t = u by omega]
        exact h3⟩
theorem RB_s {code C : Nat → Int} {g N i t : Int} (h : RB code g N i t C) (hi : 0 ≤ i) (ht : i + 1 ≤ t) (htN : t < N) (hN : N ≤ 256) (hc : C i.toNat = 1) (h1 : ¬ code t.toNat = -1) (h2 : canC i t g) : RB code g N i (t + 1) (up1 C t.toNat 1) := by
  obtain ⟨⟨a1, a2, a3, a4⟩, a5⟩ := h
  have hrt : RC code g t.toNat := by
    refine Or.inr ⟨h1, ?_⟩
    rw [show ((t.toNat : Nat) : Int) = t by omega]
    have h3 := ((canC_iff (by omega) (by omega) (by omega) (by omega)).mp h2).2
    refine rc_step hi (by omega) (by omega) (by omega) ?_ h3
    rcases a2 i.toNat (by omega) hc with h4 | h4
    · rw [show i = 0 by omega]
      exact zand_i g
    · have h5 := h4.2
      rw [show ((i.toNat : Nat) : Int) = i by omega] at h5
      exact h5
  have hup : ∀ u : Nat, C u = 1 → up1 C t.toNat 1 u = 1 := fun u hu => by
    by_cases e : u = t.toNat
    · rw [e, up1_s]
    · rw [up1_n _ _ e]; exact hu
  refine ⟨⟨fun u hu => ?_, fun u hu h9 => ?_, hup 0 a3, fun h9 u hu hr => hup u (a4 h9 u hu hr)⟩, fun hi0 u hu hut hr => ?_⟩
  · by_cases e : u = t.toNat
    · rw [e, up1_s]; exact Or.inr rfl
    · rw [up1_n _ _ e]; exact a1 u hu
  · by_cases e : u = t.toNat
    · rw [e]; exact hrt
    · rw [up1_n _ _ e] at h9; exact a2 u hu h9
  · by_cases e : u = t.toNat
    · rw [e, up1_s]
    · exact hup u (a5 hi0 u hu (by omega) hr)
theorem RA_e1 {code C : Nat → Int} {g N i t : Int} (h : RB code g N i t C) (hi : 0 ≤ i) (ht : N ≤ t) : RA code g N (i + 1) C := ⟨h.1.1, h.1.2.1, h.1.2.2.1, fun _ u hu hr => by
  by_cases e : i = 0
  · exact h.2 e u hu (by omega) hr
  · exact h.1.2.2.2 (by omega) u hu hr⟩
theorem RA_e2 {code C : Nat → Int} {g N i t : Int} (h : RB code g N i t C) (hi : 0 ≤ i) (hc : C i.toNat = 0) : RA code g N (i + 1) C := ⟨h.1.1, h.1.2.1, h.1.2.2.1, fun _ u hu hr => by
  by_cases e : i = 0
  · have h2 := h.1.2.2.1
    rw [e] at hc
    have h3 : C 0 = 0 := hc
    omega
  · exact h.1.2.2.2 (by omega) u hu hr⟩
theorem RA_e {code C : Nat → Int} {g N i : Int} (h : RA code g N i C) (hi : 1 ≤ i) : ∀ t : Nat, (t : Int) < N → (C t = 0 ∨ C t = 1) ∧ (C t = 1 ↔ RC code g t) := fun t ht => ⟨h.1 t ht, h.2.1 t ht, h.2.2.2 hi t ht⟩
def SGz (code : Nat → Int) (g N i t v : Int) : Prop := v ≤ 9 ∧ (∀ s u : Nat, UN code g N s u → (u : Int) < s → ((s : Int) < i ∨ ((s : Int) = i ∧ (u : Int) < t)) → v ≤ DD s u) ∧ (v = 9 ∨ ∃ s u, UN code g N s u ∧ DD s u ≤ v)
theorem SGz_0 {code : Nat → Int} {g N : Int} : SGz code g N 0 0 9 := ⟨by omega, fun s u _ _ h => by omega, Or.inl rfl⟩
theorem SGz_n {code : Nat → Int} {g N i t v : Int} (h : SGz code g N i t v) (hi : 0 ≤ i) (ht : 0 ≤ t) (hn : ¬ UN code g N i.toNat t.toNat) : SGz code g N i (t + 1) v := ⟨h.1, fun s u hu hl hq => by
  by_cases e : (s : Int) = i ∧ (u : Int) = t
  · exfalso
    rw [show i.toNat = s by omega, show t.toNat = u by omega] at hn
    exact hn hu
  · exact h.2.1 s u hu hl (by omega), h.2.2⟩
theorem SGz_k {code : Nat → Int} {g N i t v : Int} (h : SGz code g N i t v) (hi : 0 ≤ i) (ht : 0 ≤ t) (hn : v ≤ DD i.toNat t.toNat) : SGz code g N i (t + 1) v := ⟨h.1, fun s u hu hl hq => by
  by_cases e : (s : Int) = i ∧ (u : Int) = t
  · rw [show i.toNat = s by omega, show t.toNat = u by omega] at hn
    exact hn
  · exact h.2.1 s u hu hl (by omega), h.2.2⟩
theorem SGz_s {code : Nat → Int} {g N i t v : Int} (h : SGz code g N i t v) (hi : 0 ≤ i) (ht : 0 ≤ t) (hu : UN code g N i.toNat t.toNat) (hn : DD i.toNat t.toNat < v) : SGz code g N i (t + 1) (DD i.toNat t.toNat) := ⟨by have := h.1; omega, fun s u hu hl hq => by
  by_cases e : (s : Int) = i ∧ (u : Int) = t
  · rw [show i.toNat = s by omega, show t.toNat = u by omega]
    exact Int.le_refl _
  · have := h.2.1 s u hu hl (by omega)
    omega, Or.inr ⟨_, _, hu, Int.le_refl _⟩⟩
theorem SGz_r {code : Nat → Int} {g N i t v : Int} (h : SGz code g N i t v) (ht : i ≤ t) : SGz code g N (i + 1) 0 v := ⟨h.1, fun s u hu hl hq => h.2.1 s u hu hl (by omega), h.2.2⟩
theorem SGz_e {code : Nat → Int} {g N v : Int} (h : SGz code g N N 0 v) : SFE code g N (v - 1) := by
  obtain ⟨h1, h2, h3⟩ := h
  refine ⟨by omega, fun s t hu => ?_, h3.elim (fun h9 => Or.inl (by omega)) (fun ⟨s, u, a, b⟩ => Or.inr ⟨s, u, a, by omega⟩)⟩
  have hs := hu.1.1
  have ht := hu.2.1.1
  by_cases e : t < s
  · have := h2 s t hu (by omega) (Or.inl hs)
    omega
  · by_cases e2 : s < t
    · have := h2 t s (UN_c hu) (by omega) (Or.inl ht)
      rw [DD_c s t]
      omega
    · exfalso
      exact hu.2.2 (by rw [show s = t by omega])

set_option maxHeartbeats 4000000 in
set_option maxRecDepth 20000 in
theorem c7_X11_ones (l0 : Launch) {Ia Ja : aI1} {Ra : aR1} {Sa : aS1} {a : Int} (ha0 : 0 ≤ a) (ha1 : a < 256)  : CT l0 0 0 0 mX11_ones [kI a] Ia Ja Ra Sa (cI (fun x I' J' => Ia = I' ∧ Ja = J' ∧ x = pcn a.toNat) Ra Sa) := by
  refine ct_in pn_X11 (Nat.le_of_ble_eq_true rfl) (fun X hX hT hIn => ?_)
  have hX : aK l0 X cX11_ones 3 RX11 (some .int) 0 0 0 := hX
  change WW X 0 [some (kI a), none, none] [] Ia Ja Ra Sa 0 0
  refine ww_iconst hX (pc := 0) (x := 0) dX11_ones_0 rfl ?_
  refine ww_istore_n hX (pc := 1) (lv' := [some (kI a), some (kI 0), none]) dX11_ones_1 (by decide) rfl rfl ?_
  refine ww_iconst hX (pc := 2) (x := 0) dX11_ones_2 rfl ?_
  refine ww_istore_n hX (pc := 3) (lv' := [some (kI a), some (kI 0), some (kI 0)]) dX11_ones_3 (by decide) rfl rfl ?_
  have hl_4 : ∀ (n_4 : Nat) (n : Int) (i : Int), (16 - i).toNat = n_4 → ((0 ≤ i ∧ i ≤ 16) ∧ n = oN a i.toNat) → WW X 4 [some (kI a), some (kI n), some (kI i)] [] Ia Ja Ra Sa 0 0 := by
    intro n_4
    induction n_4 using Nat.strongRecOn with
    | ind n_4 ih_4 =>
      intro n i hm_4 hv_4
      have hq_4 := Sh0_i hm_4
      clear hm_4
      obtain ⟨hv, hn⟩ := hv_4
      refine ww_iload_n hX (pc := 4) dX11_ones_4 rfl ?_
      refine ww_bipush hX (pc := 5) (x := 16) dX11_ones_5 (by decide) ?_
      refine ww_icmp_ge hX (pc := 7) (tgt := 24) dX11_ones_7 (by decide) (fun h_7 => ?_) (fun h_7 => ?_)
      · simp only [w32_mod] at h_7
        refine ww_iload_n hX (pc := 24) dX11_ones_24 rfl ?_
        refine rI hX (pc := 25) hT (Nat.le_refl 0) (Nat.le_refl 0) dX11_ones_25 ?_
        exact ⟨rfl, rfl, (by rw [hn, show i = 16 by omega]; exact oN_pcn ha0 ha1)⟩
      · simp only [w32_mod] at h_7
        refine ww_iload_n hX (pc := 10) dX11_ones_10 rfl ?_
        refine ww_iload_n hX (pc := 11) dX11_ones_11 rfl ?_
        refine ww_iload_n hX (pc := 12) dX11_ones_12 rfl ?_
        refine ww_ishr hX (pc := 13) dX11_ones_13 ?_
        refine ww_iconst hX (pc := 14) (x := 1) dX11_ones_14 rfl ?_
        refine ww_iand hX (pc := 15) dX11_ones_15 ?_
        refine ww_iadd hX (pc := 16) dX11_ones_16 ?_
        refine ww_nmI (fun v_17 hv_17 => ?_)
        refine ww_istore_n hX (pc := 17) (lv' := [some (kI a), some (kI v_17), some (kI i)]) dX11_ones_17 (by decide) rfl rfl ?_
        refine ww_iinc hX (pc := 18) (lv' := [some (kI a), some (kI v_17), some (kI (i + 1))]) dX11_ones_18 rfl (by decide) rfl rfl ?_
        refine ww_goto hX (pc := 21) (tgt := 4) dX11_ones_21 (by decide) ?_
        exact ih_4 _ (by have hm9 := Sh0_e hq_4; omega) v_17 (i + 1) rfl ⟨⟨by omega, by omega⟩, (by rw [oN_s _ (by omega), ← hn]; exact hv_17)⟩
  exact hl_4 _ 0 0 rfl ⟨⟨by omega, by omega⟩, rfl⟩
set_option maxHeartbeats 4000000 in
set_option maxRecDepth 20000 in
theorem c7_X11_of (l0 : Launch) {Ia Ja : aI1} {Ra : aR1} {Sa : aS1} (hL : LY Ra Sa) (hQ : RX Ia) {a : Int} (ha0 : -2147483648 ≤ a) (ha1 : a < 2147483648)  : CT l0 2 0 0 mX11_of [kR (some 49), kI a] Ia Ja Ra Sa (cI (fun x I' J' => Ia = I' ∧ Ja = J' ∧ ((0 ≤ a ∧ a ≤ FU (Ia 51 304)) → x = Ia 51 a.toNat) ∧ (¬ (0 ≤ a ∧ a ≤ FU (Ia 51 304)) → x = -1)) Ra Sa) := by
  refine ct_in pn_X11 (Nat.le_of_ble_eq_true rfl) (fun X hX hT hIn => ?_)
  have hX : aK l0 X cX11_of 2 RX11 (some .int) 2 0 0 := hX
  change WW X 0 [some (kR (some 49)), some (kI a)] [] Ia Ja Ra Sa 0 0
  have qIa := RX_o hQ
  refine ww_aload_n hX (pc := 0) dX11_of_0 rfl ?_
  refine ww_iload_n hX (pc := 1) dX11_of_1 rfl ?_
  refine vI1 hX (pc := 2) sX11_120 (xs_49 hL) (c_X11_isState l0 hL hQ (by omega) (by omega)) (by decide) (Nat.le_refl 0) (Nat.le_refl 0) (Nat.le_of_ble_eq_true rfl) dX11_of_2 (fun x_2 I_2 J_2 h_2 => ?_)
  obtain ⟨rfl, rfl, h_2⟩ := h_2
  refine ww_if_eq hX (pc := 5) (tgt := 16) dX11_of_5 (by decide) (fun h_5 => ?_) (fun h_5 => ?_)
  · simp only [w32_mod] at h_5
    refine ww_iconst hX (pc := 16) (x := (-1)) dX11_of_16 rfl ?_
    refine rI hX (pc := 17) hT (Nat.le_refl 0) (Nat.le_refl 0) dX11_of_17 ?_
    exact ⟨rfl, rfl, by omega, by omega⟩
  · simp only [w32_mod] at h_5
    have k_2 := h_2.2.mp (by omega)
    clear h_2
    refine ww_aload_n hX (pc := 8) dX11_of_8 rfl ?_
    refine ww_iload_n hX (pc := 9) dX11_of_9 rfl ?_
    refine vI1 hX (pc := 10) sX11_126 (xs_49 hL) (c_X11_readOf l0 hL hQ (by omega) (by omega)) (by decide) (Nat.le_refl 0) (Nat.le_refl 0) (Nat.le_of_ble_eq_true rfl) dX11_of_10 (fun x_10 I_10 J_10 h_10 => ?_)
    obtain ⟨rfl, rfl, h_10⟩ := h_10
    refine ww_goto hX (pc := 13) (tgt := 17) dX11_of_13 (by decide) ?_
    refine rI hX (pc := 17) hT (Nat.le_refl 0) (Nat.le_refl 0) dX11_of_17 ?_
    exact ⟨rfl, rfl, by omega, by omega⟩
set_option maxHeartbeats 4000000 in
set_option maxRecDepth 20000 in
theorem c7_X11_ways (l0 : Launch) {Ia Ja : aI1} {Ra : aR1} {Sa : aS1} (hL : LY Ra Sa) (hQ : RX Ia) {a b : Int} (ha0 : -2147483648 ≤ a) (ha1 : a < 2147483648) (hb0 : -2147483648 ≤ b) (hb1 : b < 2147483648) (hcr : ∀ t : Nat, (t : Int) ≤ FU (Ia 51 304) → -1 ≤ Ia 51 t ∧ Ia 51 t ≤ 7)  : CT l0 2 0 0 mX11_ways [kR (some 49), kI a, kI b] Ia Ja Ra Sa (cI (fun x I' J' => Ia = I' ∧ Ja = J' ∧ ((0 ≤ a ∧ a ≤ FU (Ia 51 304) ∧ 0 ≤ b ∧ b < Ia 51 305) → x = fW (wyF (Ia 51) (Ia 51 306) a (FU (Ia 51 304) + 1) b) 0 (FU (Ia 51 304) + 1).toNat) ∧ (¬ (0 ≤ a ∧ a ≤ FU (Ia 51 304) ∧ 0 ≤ b ∧ b < Ia 51 305) → x = -1)) Ra Sa) := by
  refine ct_in pn_X11 (Nat.le_of_ble_eq_true rfl) (fun X hX hT hIn => ?_)
  have hX : aK l0 X cX11_ways 5 RX11 (some .int) 2 0 0 := hX
  change WW X 0 [some (kR (some 49)), some (kI a), some (kI b), none, none] [] Ia Ja Ra Sa 0 0
  have qIa := RX_o hQ
  refine ww_aload_n hX (pc := 0) dX11_ways_0 rfl ?_
  refine ww_iload_n hX (pc := 1) dX11_ways_1 rfl ?_
  refine vI1 hX (pc := 2) sX11_120 (xs_49 hL) (c_X11_isState l0 hL hQ (by omega) (by omega)) (by decide) (Nat.le_refl 0) (Nat.le_refl 0) (Nat.le_of_ble_eq_true rfl) dX11_ways_2 (fun x_2 I_2 J_2 h_2 => ?_)
  obtain ⟨rfl, rfl, h_2⟩ := h_2
  refine ww_if_eq hX (pc := 5) (tgt := 16) dX11_ways_5 (by decide) (fun h_5 => ?_) (fun h_5 => ?_)
  · simp only [w32_mod] at h_5
    refine ww_iconst hX (pc := 16) (x := (-1)) dX11_ways_16 rfl ?_
    refine rI hX (pc := 17) hT (Nat.le_refl 0) (Nat.le_refl 0) dX11_ways_17 ?_
    exact ⟨rfl, rfl, (fun h9 => absurd h9 (by omega)), (fun _ => rfl)⟩
  · simp only [w32_mod] at h_5
    have k_2 := h_2.2.mp (by omega)
    clear h_2
    refine ww_aload_n hX (pc := 8) dX11_ways_8 rfl ?_
    refine ww_iload_n hX (pc := 9) dX11_ways_9 rfl ?_
    refine vI1 hX (pc := 10) sX11_123 (xs_49 hL) (c_X11_isNews l0 hL hQ (by omega) (by omega)) (by decide) (Nat.le_refl 0) (Nat.le_refl 0) (Nat.le_of_ble_eq_true rfl) dX11_ways_10 (fun x_10 I_10 J_10 h_10 => ?_)
    obtain ⟨rfl, rfl, h_10⟩ := h_10
    refine ww_if_ne hX (pc := 13) (tgt := 18) dX11_ways_13 (by decide) (fun h_13 => ?_) (fun h_13 => ?_)
    · simp only [w32_mod] at h_13
      have k_10 := h_10.2.mp (by omega)
      clear h_10
      refine ww_iconst hX (pc := 18) (x := 0) dX11_ways_18 rfl ?_
      refine ww_istore_n hX (pc := 19) (lv' := [some (kR (some 49)), some (kI a), some (kI b), some (kI 0), none]) dX11_ways_19 (by decide) rfl rfl ?_
      refine ww_iload_n hX (pc := 20) dX11_ways_20 rfl ?_
      refine ww_istore hX (pc := 21) (lv' := [some (kR (some 49)), some (kI a), some (kI b), some (kI 0), some (kI a)]) dX11_ways_21 (by decide) rfl rfl ?_
      have hl_23 : ∀ (n_23 : Nat) (n : Int) (t : Int), (256 - t).toNat = n_23 → ((a ≤ t ∧ t ≤ (FU (Ia 51 304) + 1)) ∧ n = fW (wyF (Ia 51) (Ia 51 306) a (FU (Ia 51 304) + 1) b) 0 t.toNat) → WW X 23 [some (kR (some 49)), some (kI a), some (kI b), some (kI n), some (kI t)] [] Ia Ja Ra Sa 0 0 := by
        intro n_23
        induction n_23 using Nat.strongRecOn with
        | ind n_23 ih_23 =>
          intro n t hm_23 hv_23
          have hq_23 := Sh0_i hm_23
          clear hm_23
          obtain ⟨hv, hn⟩ := hv_23
          refine ww_iload hX (pc := 23) dX11_ways_23 rfl ?_
          refine ww_aload_n hX (pc := 25) dX11_ways_25 rfl ?_
          refine vI0 hX (pc := 26) sX11_112 (xs_49 hL) (c_X11_states l0 hL hQ ) (by decide) (Nat.le_refl 0) (Nat.le_refl 0) (Nat.le_of_ble_eq_true rfl) dX11_ways_26 (fun x_26 I_26 J_26 h_26 => ?_)
          obtain ⟨rfl, rfl, h_26⟩ := h_26
          refine ww_icmp_ge hX (pc := 29) (tgt := 74) dX11_ways_29 (by decide) (fun h_29 => ?_) (fun h_29 => ?_)
          · simp only [w32_mod] at h_29
            refine ww_iload_n hX (pc := 74) dX11_ways_74 rfl ?_
            refine rI hX (pc := 75) hT (Nat.le_refl 0) (Nat.le_refl 0) dX11_ways_75 ?_
            exact ⟨rfl, rfl, (fun _ => by rw [hn, show t = FU (Ia 51 304) + 1 by omega]), (fun h9 => absurd (by omega) h9)⟩
          · simp only [w32_mod] at h_29
            have hcd := hcr t.toNat (by omega)
            have hct : ((t.toNat : Nat) : Int) = t := by omega
            refine ww_iload_n hX (pc := 32) dX11_ways_32 rfl ?_
            refine ww_aload_n hX (pc := 33) dX11_ways_33 rfl ?_
            refine ww_iload hX (pc := 34) dX11_ways_34 rfl ?_
            refine vI1 hX (pc := 36) sX11_126 (xs_49 hL) (c_X11_readOf l0 hL hQ (by omega) (by omega)) (by decide) (Nat.le_refl 0) (Nat.le_refl 0) (Nat.le_of_ble_eq_true rfl) dX11_ways_36 (fun x_36 I_36 J_36 h_36 => ?_)
            obtain ⟨rfl, rfl, h_36⟩ := h_36
            refine ww_iload_n hX (pc := 39) dX11_ways_39 rfl ?_
            refine ww_icmp_ne hX (pc := 40) (tgt := 65) dX11_ways_40 (by decide) (fun h_40 => ?_) (fun h_40 => ?_)
            · simp only [w32_mod] at h_40
              have hst : wyF (Ia 51) (Ia 51 306) a (FU (Ia 51 304) + 1) b n t.toNat = n + 0 := by
                rw [wyF_x (by omega) (fun h9 => by have := h9.2; omega), Int.add_zero]
              refine ww_iconst hX (pc := 65) (x := 0) dX11_ways_65 rfl ?_
              refine ww_iadd hX (pc := 66) dX11_ways_66 ?_
              refine ww_nmI (fun v_67 hv_67 => ?_)
              refine ww_istore_n hX (pc := 67) (lv' := [some (kR (some 49)), some (kI a), some (kI b), some (kI v_67), some (kI t)]) dX11_ways_67 (by decide) rfl rfl ?_
              refine ww_iinc hX (pc := 68) (lv' := [some (kR (some 49)), some (kI a), some (kI b), some (kI v_67), some (kI (t + 1))]) dX11_ways_68 rfl (by decide) rfl rfl ?_
              refine ww_goto hX (pc := 71) (tgt := 23) dX11_ways_71 (by decide) ?_
              exact ih_23 _ (by have hm9 := Sh0_e hq_23; omega) v_67 (t + 1) rfl ⟨⟨by omega, by omega⟩, (by rw [fW_s _ _ (by omega), ← hn, hst]; omega)⟩
            · simp only [w32_mod] at h_40
              refine ww_aload_n hX (pc := 43) dX11_ways_43 rfl ?_
              refine ww_iload_n hX (pc := 44) dX11_ways_44 rfl ?_
              refine ww_iload hX (pc := 45) dX11_ways_45 rfl ?_
              refine ww_aload_n hX (pc := 47) dX11_ways_47 rfl ?_
              refine ww_getR hX (pc := 48) fX11_20 (by decide) (xs_49 hL) (xr_49_3 hL) dX11_ways_48 ?_
              refine ww_sipush hX (pc := 51) (x := 306) dX11_ways_51 (by decide) ?_
              refine ww_iald hX (pc := 54) (xs_51 hL) (by decide) (by omega) (by omega) dX11_ways_54 ?_
              refine ww_toI (b := Ia 51 306) rfl ?_
              refine vI3 hX (pc := 55) sX11_271 (xs_49 hL) (c_X11_canCome l0 hL hQ ) (by decide) (Nat.le_refl 0) (Nat.le_refl 0) (Nat.le_of_ble_eq_true rfl) dX11_ways_55 (fun x_55 I_55 J_55 h_55 => ?_)
              obtain ⟨rfl, rfl, h_55⟩ := h_55
              refine ww_if_eq hX (pc := 58) (tgt := 65) dX11_ways_58 (by decide) (fun h_58 => ?_) (fun h_58 => ?_)
              · simp only [w32_mod] at h_58
                have hst : wyF (Ia 51) (Ia 51 306) a (FU (Ia 51 304) + 1) b n t.toNat = n + 0 := by
                  refine (if_neg (fun h9 => ?_)).trans (Int.add_zero _).symm
                  have h7 := h9.2.2.1
                  rw [hct] at h7
                  have h8 := h_55.2.mpr ((canC_iff (by omega) (by omega) (by omega) (by omega)).mpr ⟨h9.2.1, h7⟩)
                  omega
                refine ww_iconst hX (pc := 65) (x := 0) dX11_ways_65 rfl ?_
                refine ww_iadd hX (pc := 66) dX11_ways_66 ?_
                refine ww_nmI (fun v_67 hv_67 => ?_)
                refine ww_istore_n hX (pc := 67) (lv' := [some (kR (some 49)), some (kI a), some (kI b), some (kI v_67), some (kI t)]) dX11_ways_67 (by decide) rfl rfl ?_
                refine ww_iinc hX (pc := 68) (lv' := [some (kR (some 49)), some (kI a), some (kI b), some (kI v_67), some (kI (t + 1))]) dX11_ways_68 rfl (by decide) rfl rfl ?_
                refine ww_goto hX (pc := 71) (tgt := 23) dX11_ways_71 (by decide) ?_
                exact ih_23 _ (by have hm9 := Sh0_e hq_23; omega) v_67 (t + 1) rfl ⟨⟨by omega, by omega⟩, (by rw [fW_s _ _ (by omega), ← hn, hst]; omega)⟩
              · simp only [w32_mod] at h_58
                have hcc := (canC_iff (by omega) (by omega) (by omega) (by omega)).mp (h_55.2.mp (by omega))
                have hst : wyF (Ia 51) (Ia 51 306) a (FU (Ia 51 304) + 1) b n t.toNat = n + 1 := wyF_y (by omega) (by omega) hcc.1 hcc.2 (by omega)
                refine ww_iconst hX (pc := 61) (x := 1) dX11_ways_61 rfl ?_
                refine ww_goto hX (pc := 62) (tgt := 66) dX11_ways_62 (by decide) ?_
                refine ww_iadd hX (pc := 66) dX11_ways_66 ?_
                refine ww_nmI (fun v_67 hv_67 => ?_)
                refine ww_istore_n hX (pc := 67) (lv' := [some (kR (some 49)), some (kI a), some (kI b), some (kI v_67), some (kI t)]) dX11_ways_67 (by decide) rfl rfl ?_
                refine ww_iinc hX (pc := 68) (lv' := [some (kR (some 49)), some (kI a), some (kI b), some (kI v_67), some (kI (t + 1))]) dX11_ways_68 rfl (by decide) rfl rfl ?_
                refine ww_goto hX (pc := 71) (tgt := 23) dX11_ways_71 (by decide) ?_
                exact ih_23 _ (by have hm9 := Sh0_e hq_23; omega) v_67 (t + 1) rfl ⟨⟨by omega, by omega⟩, (by rw [fW_s _ _ (by omega), ← hn, hst]; omega)⟩
      exact hl_23 _ 0 a rfl ⟨⟨by omega, by omega⟩, (fW_e wyF_n).symm⟩
    · simp only [w32_mod] at h_13
      refine ww_iconst hX (pc := 16) (x := (-1)) dX11_ways_16 rfl ?_
      refine rI hX (pc := 17) hT (Nat.le_refl 0) (Nat.le_refl 0) dX11_ways_17 ?_
      exact ⟨rfl, rfl, (fun h9 => absurd h9 (by omega)), (fun _ => rfl)⟩
