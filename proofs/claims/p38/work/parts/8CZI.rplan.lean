/-! the reference: what is WANTED -/
def wtR (k : Nat → Int) (j : Nat) : Int := w32 (k (288 + j))
def oiR (k : Nat → Int) (s : Nat) : Int := oilS (fun l => k (256 + l)) s (k 304).toNat
noncomputable def NCr (k : Nat → Int) (i s : Nat) (v : Int) : Int := NC k (gN (k 306)) (wtR k) (oiR k) (FU (k 304) + 1).toNat (k 309).toNat ((k 309).toNat - i) s v
/-- the cells of the least and of how many -/
def LSx (k A B : Nat → Int) (i s : Nat) : Prop := BW (NCr k i s) (oiR k s) (A (256 * i + s)) (B (256 * i + s))
/-- while the STATES below t are looked at -/
noncomputable def NCp (k : Nat → Int) (i s t : Nat) (v : Int) : Int := Sm (fun u => mE k (gN (k 306)) (wtR k i) s u * NCr k (i + 1) u v) t
def PBx (k : Nat → Int) (i s t : Nat) (b w : Int) : Prop := BW (NCp k i s t) (oiR k s) b w
theorem NCp_N {k : Nat → Int} {i s : Nat} {v : Int} (hi : i < (k 309).toNat) : NCp k i s (FU (k 304) + 1).toNat v = NCr k i s v := by
  unfold NCr NCp
  rw [show (k 309).toNat - i = ((k 309).toNat - (i + 1)) + 1 by omega]
  show _ = Sm (fun u => mE k (gN (k 306)) (wtR k ((k 309).toNat - ((k 309).toNat - (i + 1) + 1))) s u * NC k (gN (k 306)) (wtR k) (oiR k) (FU (k 304) + 1).toNat (k 309).toNat ((k 309).toNat - (i + 1)) u v) _
  rw [show (k 309).toNat - ((k 309).toNat - (i + 1) + 1) = i by omega]
  rfl
theorem NCr_nn (k : Nat → Int) (i s : Nat) (v : Int) : 0 ≤ NCr k i s v := NC_nn _ _ _
theorem NCp_nn (k : Nat → Int) (i s t : Nat) (v : Int) : 0 ≤ NCp k i s t v := Sm_nn (fun u _ => Int.mul_nonneg (iz_nn _) (NCr_nn k (i + 1) u v))
theorem oiR_r {k : Nat → Int} (hO : ∀ l, l < 8 → 0 ≤ k (256 + l) ∧ k (256 + l) ≤ 99) (h0 : 1 ≤ k 304) (h1 : k 304 ≤ 8) (s : Nat) : 0 ≤ oiR k s ∧ oiR k s ≤ 800 := by
  have := oilS_r (o := fun l => k (256 + l)) (s := s) hO (k 304).toNat (by omega)
  unfold oiR
  omega
/-- no cell holds more than the OIL of all LAMPS, or it holds 'far' -/
theorem LS_r {k A B : Nat → Int} {i s : Nat} (h : LSx k A B i s) (hO : ∀ l, l < 8 → 0 ≤ k (256 + l) ∧ k (256 + l) ≤ 99) (h0 : 1 ≤ k 304) (h1 : k 304 ≤ 8) (hs : s < (FU (k 304) + 1).toNat) : (0 ≤ A (256 * i + s) ∧ (A (256 * i + s) = 1000000000 ∨ A (256 * i + s) ≤ 800)) ∧ (0 ≤ B (256 * i + s) ∧ B (256 * i + s) ≤ 1000000000) := by
  have hw := BW_w h (NCr_nn k i s)
  have hb := BW_b h
  refine ⟨⟨hb.1, ?_⟩, hw⟩
  rcases h with ⟨h2, -⟩ | ⟨-, h3, -⟩
  · exact Or.inl h2
  · obtain ⟨t, -, -, ht⟩ := NC_v _ _ _ hs h3
    have h4 := oiR_r hO h0 h1 t
    have h5 := oiR_r hO h0 h1 s
    have ht : oiR k t = A (256 * i + s) + oiR k s := ht
    omega
theorem LS_0 {k A B : Nat → Int} {i s : Nat} (hi : i = (k 309).toNat) (hA : A (256 * i + s) = 0) (hB : B (256 * i + s) = 1) : LSx k A B i s := by
  unfold LSx
  rw [hA, hB]
  have e : ∀ v, NCr k i s v = if oiR k s = v then 1 else 0 := fun v => by
    unfold NCr
    rw [hi, Nat.sub_self]
    rfl
  refine Or.inr ⟨⟨by decide, by decide⟩, ?_, fun v hv => ?_, ?_⟩
  · rw [e, if_pos (by omega)]; decide
  · rw [e, if_neg (by omega)]
  · rw [e, if_pos (by omega)]; decide
theorem LS_up {k A B : Nat → Int} {i s p : Nat} {x y : Int} (h : LSx k A B i s) (hp : ¬ 256 * i + s = p) : LSx k (up1 A p x) (up1 B p y) i s := by
  unfold LSx at h ⊢
  rw [up1_n _ _ hp, up1_n _ _ hp]
  exact h
theorem LS_new {k A B : Nat → Int} {i s p : Nat} {x y : Int} (h : PBx k i s (FU (k 304) + 1).toNat x y) (hi : i < (k 309).toNat) (hp : p = 256 * i + s) : LSx k (up1 A p x) (up1 B p y) i s := by
  unfold LSx
  rw [hp, up1_s, up1_s]
  exact BW_cg h (fun v => NCp_N hi)
theorem PB_0 {k : Nat → Int} {i s : Nat} : PBx k i s s 1000000000 0 := BW_cg BW_0 (fun v => (Sm_z (fun u hu => by
  unfold mE
  rw [iz_n (fun h => by have := CZ_le h.1; omega), Int.zero_mul])).symm)
theorem PB_no {k : Nat → Int} {i s t : Nat} {b w : Int} (h : PBx k i s t b w) (hn : ¬ (CZ 8 (gN (k 306)) s t ∧ k t = wtR k i)) : PBx k i s (t + 1) b w := BW_cg h (fun v => by
  show NCp k i s t v = NCp k i s t v + mE k (gN (k 306)) (wtR k i) s t * NCr k (i + 1) t v
  unfold mE
  rw [iz_n hn, Int.zero_mul, Int.add_zero])
theorem PB_y {k : Nat → Int} {i s t : Nat} {b w : Int} (h : BW (fun v => NCp k i s t v + NCr k (i + 1) t v) (oiR k s) b w) (hy : CZ 8 (gN (k 306)) s t ∧ k t = wtR k i) : PBx k i s (t + 1) b w := BW_cg h (fun v => by
  show _ = NCp k i s t v + mE k (gN (k 306)) (wtR k i) s t * NCr k (i + 1) t v
  unfold mE
  rw [iz_y hy, Int.one_mul])
theorem PB_far {k A B : Nat → Int} {i s t : Nat} {b w : Int} (h : PBx k i s t b w) (hy : CZ 8 (gN (k 306)) s t ∧ k t = wtR k i) (hl : LSx k A B (i + 1) t) (hA : A (256 * (i + 1) + t) = 1000000000) : PBx k i s (t + 1) b w := by
  refine PB_y (BW_far h ?_) hy
  unfold LSx at hl
  rw [hA] at hl
  exact BW_fz hl
theorem PB_gt {k A B : Nat → Int} {i s t : Nat} {b w d : Int} (h : PBx k i s t b w) (hy : CZ 8 (gN (k 306)) s t ∧ k t = wtR k i) (hl : LSx k A B (i + 1) t) (hA : ¬ A (256 * (i + 1) + t) = 1000000000) (hd : d = oiR k t - oiR k s) (h2 : b < A (256 * (i + 1) + t) + d) (h3 : A (256 * (i + 1) + t) + d < 1000000000) : PBx k i s (t + 1) b w := by
  subst hd
  exact PB_y (BW_gt h hl hA h2 h3) hy
theorem PB_lt {k A B : Nat → Int} {i s t : Nat} {b w d : Int} (h : PBx k i s t b w) (hy : CZ 8 (gN (k 306)) s t ∧ k t = wtR k i) (hl : LSx k A B (i + 1) t) (hA : ¬ A (256 * (i + 1) + t) = 1000000000) (hd : d = oiR k t - oiR k s) (h0 : 0 ≤ d) (h2 : A (256 * (i + 1) + t) + d < b) (h3 : A (256 * (i + 1) + t) + d < 1000000000) : PBx k i s (t + 1) (A (256 * (i + 1) + t) + d) (B (256 * (i + 1) + t)) := by
  have hb := BW_b hl
  subst hd
  exact PB_y (BW_lt h hl hA h2 (by omega) h3) hy
theorem PB_eq {k A B : Nat → Int} {i s t : Nat} {b w d : Int} (h : PBx k i s t b w) (hy : CZ 8 (gN (k 306)) s t ∧ k t = wtR k i) (hl : LSx k A B (i + 1) t) (hA : ¬ A (256 * (i + 1) + t) = 1000000000) (hd : d = oiR k t - oiR k s) (h2 : A (256 * (i + 1) + t) + d = b) (h3 : b < 1000000000) : PBx k i s (t + 1) b (min 1000000000 (w + B (256 * (i + 1) + t))) := by
  subst hd
  exact PB_y (BW_eq h hl hA h2 h3 (NCp_nn k i s t) (NCr_nn k (i + 1) t)) hy
theorem PB_w {k : Nat → Int} {i s t : Nat} {b w : Int} (h : PBx k i s t b w) : (0 ≤ b ∧ b ≤ 1000000000) ∧ (0 ≤ w ∧ w ≤ 1000000000) := ⟨BW_b h, BW_w h (NCp_nn k i s t)⟩
/-- the OIL of what is lit anew -/
theorem oiR_d {k : Nat → Int} {s t : Int} (hs : 0 ≤ s) (hs1 : s < 256) (ht : 0 ≤ t) (ht1 : t < 256) (h0 : 1 ≤ k 304) (h1 : k 304 ≤ 8) (h : CZ 8 (gN (k 306)) s.toNat t.toNat) : oilF k (i_and t (i_xor s (-1))) (k 304).toNat = oiR k t.toNat - oiR k s.toNat := by
  have hd : df t.toNat s.toNat < 256 := df_lt (by omega)
  rw [anx_N ht ht1 hs hs1, oilF_S hd _ (by omega)]
  have h2 := oilS_df (o := fun l => k (256 + l)) (CZ_sub h) (k 304).toNat
  unfold oiR
  omega
theorem canC_CZ {s t g : Int} (hs : 0 ≤ s) (hs1 : s < 256) (ht : 0 ≤ t) (ht1 : t < 256) : canC s t g ↔ CZ 8 (gN g) s.toNat t.toNat := by
  rw [canC_iff hs hs1 ht ht1, CZ_iff (by omega) (by omega), show ((t.toNat : Nat) : Int) = t by omega, show ((s.toNat : Nat) : Int) = s by omega]
/-- what is told of all -/
def BWr (k : Nat → Int) (b m : Int) : Prop := BW (NCr k 0 0) (oiR k 0) b m
theorem oiR_0 (k : Nat → Int) : oiR k 0 = 0 := by
  unfold oiR
  have key : ∀ n : Nat, oilS (fun l => k (256 + l)) 0 n = 0 := fun n => by
    induction n with
    | zero => rfl
    | succ n ih => rw [oilS_s, Nat.zero_testBit, if_neg (by decide), ih]
  exact key _
def FCr (k : Nat → Int) (L : Int) (F : Nat → Int) (n : Nat) : Prop := FC k (gN (k 306)) (wtR k) (oiR k) (FU (k 304) + 1).toNat (k 309).toNat L F n
def GOr (k : Nat → Int) (L : Int) (i s t : Nat) : Prop := GO k (gN (k 306)) (wtR k) (oiR k) (FU (k 304) + 1).toNat (k 309).toNat L i s t
/-- from s on, L is the least -/
def MNr (k : Nat → Int) (L : Int) (i s : Nat) : Prop := 0 < NCr k i s L ∧ ∀ v, 0 < NCr k i s v → L ≤ v
theorem MN_0 {k : Nat → Int} {b m : Int} (h : BWr k b m) (hb : ¬ b = 1000000000) : MNr k b 0 0 := by
  rcases h with ⟨h1, -⟩ | ⟨-, h2, h3, -⟩
  · exact absurd h1 hb
  · rw [oiR_0, Int.add_zero] at h2 h3
    refine ⟨h2, fun v hv => ?_⟩
    by_cases e : v < b
    · rw [h3 v e] at hv; exact absurd hv (by decide)
    · omega
theorem MN_L {k A B : Nat → Int} {i s : Nat} {L : Int} (h : LSx k A B i s) (hm : MNr k L i s) : ¬ A (256 * i + s) = 1000000000 ∧ A (256 * i + s) + oiR k s = L := by
  rcases h with ⟨-, -, h3⟩ | ⟨h1, h2, h3, -⟩
  · have := hm.1
    rw [h3] at this
    exact absurd this (by decide)
  · refine ⟨by omega, ?_⟩
    have h4 := hm.2 _ h2
    by_cases e : L < A (256 * i + s) + oiR k s
    · have := hm.1
      rw [h3 L e] at this
      exact absurd this (by decide)
    · omega
theorem MN_in {k : Nat → Int} {i s t : Nat} {L : Int} (hm : MNr k L i s) (hi : i < (k 309).toNat) (ht : t < (FU (k 304) + 1).toNat) (hy : CZ 8 (gN (k 306)) s t ∧ k t = wtR k i) : ∀ v, 0 < NCr k (i + 1) t v → L ≤ v := fun v hv => by
  refine hm.2 v ?_
  unfold NCr at hv ⊢
  rw [show (k 309).toNat - i = ((k 309).toNat - (i + 1)) + 1 by omega]
  exact NC_in ht hy.1 (by rw [show (k 309).toNat - ((k 309).toNat - (i + 1) + 1) = i by omega]; exact hy.2) hv
/-- t goes on where its own least meets L -/
theorem GO_y {k A B : Nat → Int} {i s t : Nat} {L : Int} (ht : t < (FU (k 304) + 1).toNat) (hy : CZ 8 (gN (k 306)) s t ∧ k t = wtR k i) (hl : LSx k A B (i + 1) t) (hA : ¬ A (256 * (i + 1) + t) = 1000000000) (hL : A (256 * (i + 1) + t) + oiR k t = L) : GOr k L i s t := by
  refine ⟨⟨ht, hy.1, hy.2⟩, ?_⟩
  rcases hl with ⟨h1, -⟩ | ⟨-, h2, -⟩
  · exact absurd h1 hA
  · rw [hL] at h2; exact h2
theorem GO_n {k A B : Nat → Int} {i s t : Nat} {L : Int} (hm : MNr k L i s) (hi : i < (k 309).toNat) (hl : LSx k A B (i + 1) t) (hn : A (256 * (i + 1) + t) = 1000000000 ∨ ¬ A (256 * (i + 1) + t) + oiR k t = L) : ¬ GOr k L i s t := fun ⟨⟨h1, h2, h3⟩, h4⟩ => by
  have h6 : 0 < NCr k (i + 1) t L := h4
  have h5 := MN_L hl ⟨h6, MN_in hm hi h1 ⟨h2, h3⟩⟩
  omega
theorem GO_m {k : Nat → Int} {i s t : Nat} {L : Int} (hm : MNr k L i s) (hi : i < (k 309).toNat) (h : GOr k L i s t) : MNr k L (i + 1) t := ⟨h.2, MN_in hm hi h.1.1 ⟨h.1.2.1, h.1.2.2⟩⟩
theorem GO_x {k : Nat → Int} {i s : Nat} {L : Int} (hm : MNr k L i s) (hi : i < (k 309).toNat) : ∃ t, GOr k L i s t := GO_ex hi hm.1
theorem GO_le {k : Nat → Int} {i s t : Nat} {L : Int} (h : GOr k L i s t) : s ≤ t := CZ_le h.1.2.1
/-- the first so far -/
def FE (k : Nat → Int) (L : Int) (n : Nat) (s : Int) : Prop := ∃ F, FCr k L F n ∧ s.toNat = (if n = 0 then 0 else (F (n - 1)).toNat)
theorem FE_0 {k : Nat → Int} {L : Int} : FE k L 0 0 := ⟨fun _ => 0, fun i hi => absurd hi (Nat.not_lt_zero _), rfl⟩
theorem FE_s {k : Nat → Int} {L : Int} {n : Nat} {s t : Int} (h : FE k L n s) (ht : 0 ≤ t) (hg : GOr k L n s.toNat t.toNat) (hn : ∀ u, u < t.toNat → ¬ GOr k L n s.toNat u) : FE k L (n + 1) t := by
  obtain ⟨F, h1, h2⟩ := h
  refine ⟨up1 F n t, FC_s h1 ht (by rw [← h2]; exact ⟨hg, hn⟩), ?_⟩
  rw [if_neg (by omega), show n + 1 - 1 = n by omega, up1_s]
theorem FE_e {k : Nat → Int} {L : Int} {n : Nat} {s : Int} (h : FE k L (n + 1) s) (h0 : 0 ≤ s) : ∃ F, FCr k L F (n + 1) ∧ s = F n := by
  obtain ⟨F, h1, h2⟩ := h
  refine ⟨F, h1, ?_⟩
  rw [if_neg (by omega), show n + 1 - 1 = n by omega] at h2
  have := (h1 n (by omega)).1
  omega

set_option maxHeartbeats 4000000 in
set_option maxRecDepth 20000 in
theorem d9_X11_plans (l0 : Launch) {Ia Ja : aI1} {Ra : aR1} {Sa : aS1} (hL : LY Ra Sa) (hQ : RX Ia) (hO : ∀ l, l < 8 → 0 ≤ Ia 51 (256 + l) ∧ Ia 51 (256 + l) ≤ 99) (hcr : ∀ t : Nat, (t : Int) ≤ FU (Ia 51 304) → -1 ≤ Ia 51 t ∧ Ia 51 t ≤ 7)  : CT l0 2 0 0 mX11_plans [kR (some 49)] Ia Ja Ra Sa (cV (fun I' J' => (Ch [70, 71] [] Ia I' ∧ Kp 49 73 Ja J' ∧ RX I' ∧ (∀ i9 s9 : Nat, (i9 : Int) ≤ Ia 51 309 → (s9 : Int) ≤ FU (Ia 51 304) → LSx (Ia 51) (I' 70) (I' 71) i9 s9)) ∧ QK9 Ia I' Ja J') Ra Sa) := by
  refine ct_in pn_X11 (Nat.le_of_ble_eq_true rfl) (fun X hX hT hIn => ?_)
  have hX : aK l0 X cX11_plans 9 RX11 none 2 0 0 := hX
  change WW X 0 [some (kR (some 49)), none, none, none, none, none, none, none, none] [] Ia Ja Ra Sa 0 0
  have qIa := RX_p hQ
  refine ww_aload_n hX (pc := 0) dX11_plans_0 rfl ?_
  refine ww_getR hX (pc := 1) fX11_20 (by decide) (xs_49 hL) (xr_49_3 hL) dX11_plans_1 ?_
  refine ww_sipush hX (pc := 4) (x := 309) dX11_plans_4 (by decide) ?_
  refine ww_iald hX (pc := 7) (xs_51 hL) (by decide) (by omega) (by omega) dX11_plans_7 ?_
  refine ww_toI (b := Ia 51 309) rfl ?_
  refine ww_nmI (fun v_8 hv_8 => ?_)
  refine ww_istore_n hX (pc := 8) (lv' := [some (kR (some 49)), some (kI v_8), none, none, none, none, none, none, none]) dX11_plans_8 (by decide) rfl rfl ?_
  refine ww_iconst hX (pc := 9) (x := 0) dX11_plans_9 rfl ?_
  refine ww_istore_n hX (pc := 10) (lv' := [some (kR (some 49)), some (kI v_8), some (kI 0), none, none, none, none, none, none]) dX11_plans_10 (by decide) rfl rfl ?_
  have hl_11 : ∀ (n_11 : Nat) (q : Int) (I11 : aI1) (J11 : aI1), (256 - q).toNat = n_11 → (BK9 Ia I11 ∧ TK9 Ia I11 Ja J11 ∧ (Ch [70, 71] [] Ia I11 ∧ RX I11 ∧ Kp 49 73 Ja J11 ∧ I11 51 304 = Ia 51 304 ∧ I11 51 305 = Ia 51 305 ∧ (0 ≤ q ∧ q ≤ FU (Ia 51 304) + 1) ∧ (∀ s9 : Nat, (s9 : Int) < q → LSx (Ia 51) (I11 70) (I11 71) (Ia 51 309).toNat s9))) → WW X 11 [some (kR (some 49)), some (kI v_8), some (kI q), none, none, none, none, none, none] [] I11 J11 Ra Sa 0 0 := by
    intro n_11
    induction n_11 using Nat.strongRecOn with
    | ind n_11 ih_11 =>
      intro q I11 J11 hm_11 hv_11
      have hq_11 := Sh0_i hm_11
      clear hm_11
      obtain ⟨bkl11, tkl11, hv_11⟩ := hv_11
      obtain ⟨kI11, cI11, kJ11, r304_I11, r305_I11, hq, hl11⟩ := hv_11
      have qI11 := RX_p cI11
      have rf_I11 : FU (I11 51 304) = FU (Ia 51 304) := by rw [r304_I11]
      refine ww_iload_n hX (pc := 11) dX11_plans_11 rfl ?_
      refine ww_aload_n hX (pc := 12) dX11_plans_12 rfl ?_
      refine vI0 hX (pc := 13) sX11_112 (xs_49 hL) (c_X11_states l0 hL cI11 ) (by decide) (Nat.le_refl 0) (Nat.le_refl 0) (Nat.le_of_ble_eq_true rfl) dX11_plans_13 (fun x_13 I_13 J_13 h_13 => ?_)
      obtain ⟨rfl, rfl, h_13⟩ := h_13
      refine ww_icmp_ge hX (pc := 16) (tgt := 51) dX11_plans_16 (by decide) (fun h_16 => ?_) (fun h_16 => ?_)
      · simp only [w32_mod] at h_16
        refine ww_iload_n hX (pc := 51) dX11_plans_51 rfl ?_
        refine ww_iconst hX (pc := 52) (x := 1) dX11_plans_52 rfl ?_
        refine ww_isub hX (pc := 53) dX11_plans_53 ?_
        refine ww_nmI (fun v_54 hv_54 => ?_)
        refine ww_istore_n hX (pc := 54) (lv' := [some (kR (some 49)), some (kI v_8), some (kI v_54), none, none, none, none, none, none]) dX11_plans_54 (by decide) rfl rfl ?_
        have hl_55 : ∀ (n_55 : Nat) (i : Int) (I55 : aI1) (J55 : aI1), (i + 1).toNat = n_55 → (BK9 Ia I55 ∧ TK9 Ia I55 Ja J55 ∧ (Ch [70, 71] [] Ia I55 ∧ RX I55 ∧ Kp 49 73 Ja J55 ∧ I55 51 304 = I11 51 304 ∧ I55 51 305 = I11 51 305 ∧ (-1 ≤ i ∧ i < Ia 51 309) ∧ (∀ i9 s9 : Nat, i < (i9 : Int) → (i9 : Int) ≤ Ia 51 309 → (s9 : Int) ≤ FU (Ia 51 304) → LSx (Ia 51) (I55 70) (I55 71) i9 s9))) → WW X 55 [some (kR (some 49)), some (kI v_8), some (kI i), none, none, none, none, none, none] [] I55 J55 Ra Sa 0 0 := by
          intro n_55
          induction n_55 using Nat.strongRecOn with
          | ind n_55 ih_55 =>
            intro i I55 J55 hm_55 hv_55
            have hq_55 := Sh0_i hm_55
            clear hm_55
            obtain ⟨bkl55, tkl55, hv_55⟩ := hv_55
            obtain ⟨kI55, cI55, kJ55, r304_I55, r305_I55, hv, hl55⟩ := hv_55
            have qI55 := RX_p cI55
            have rf_I55 : FU (I55 51 304) = FU (I11 51 304) := by rw [r304_I55]
            refine ww_iload_n hX (pc := 55) dX11_plans_55 rfl ?_
            refine ww_if_lt hX (pc := 56) (tgt := 288) dX11_plans_56 (by decide) (fun h_56 => ?_) (fun h_56 => ?_)
            · simp only [w32_mod] at h_56
              refine rV hX (pc := 288) hT (Nat.le_refl 0) (Nat.le_refl 0) dX11_plans_288 ?_
              exact ⟨⟨kI55, kJ55, cI55, fun i9 s9 g1 g2 => hl55 i9 s9 (by omega) g1 g2⟩, bkl55, tkl55⟩
            · simp only [w32_mod] at h_56
              refine ww_iconst hX (pc := 59) (x := 0) dX11_plans_59 rfl ?_
              refine ww_istore_n hX (pc := 60) (lv' := [some (kR (some 49)), some (kI v_8), some (kI i), some (kI 0), none, none, none, none, none]) dX11_plans_60 (by decide) rfl rfl ?_
              have hl_61 : ∀ (n_61 : Nat) (sa : Int) (I61 : aI1) (J61 : aI1), (256 - sa).toNat = n_61 → (BK9 Ia I61 ∧ TK9 Ia I61 Ja J61 ∧ (Ch [70, 71] [] Ia I61 ∧ RX I61 ∧ Kp 49 73 Ja J61 ∧ I61 51 304 = I55 51 304 ∧ I61 51 305 = I55 51 305 ∧ (0 ≤ sa ∧ sa ≤ FU (Ia 51 304) + 1) ∧ (∀ i9 s9 : Nat, (i < (i9 : Int) ∨ ((i9 : Int) = i ∧ (s9 : Int) < sa)) → (i9 : Int) ≤ Ia 51 309 → (s9 : Int) ≤ FU (Ia 51 304) → LSx (Ia 51) (I61 70) (I61 71) i9 s9))) → WW X 61 [some (kR (some 49)), some (kI v_8), some (kI i), some (kI sa), none, none, none, none, none] [] I61 J61 Ra Sa 0 0 := by
                intro n_61
                induction n_61 using Nat.strongRecOn with
                | ind n_61 ih_61 =>
                  intro sa I61 J61 hm_61 hv_61
                  have hq_61 := Sh0_i hm_61
                  clear hm_61
                  obtain ⟨bkl61, tkl61, hv_61⟩ := hv_61
                  obtain ⟨kI61, cI61, kJ61, r304_I61, r305_I61, hu, hl61⟩ := hv_61
                  have qI61 := RX_p cI61
                  have rf_I61 : FU (I61 51 304) = FU (I55 51 304) := by rw [r304_I61]
                  have hk61 : I61 51 = Ia 51 := kI61.1 51 (by decide) (by decide)
                  refine ww_iload_n hX (pc := 61) dX11_plans_61 rfl ?_
                  refine ww_aload_n hX (pc := 62) dX11_plans_62 rfl ?_
                  refine vI0 hX (pc := 63) sX11_112 (xs_49 hL) (c_X11_states l0 hL cI61 ) (by decide) (Nat.le_refl 0) (Nat.le_refl 0) (Nat.le_of_ble_eq_true rfl) dX11_plans_63 (fun x_63 I_63 J_63 h_63 => ?_)
                  obtain ⟨rfl, rfl, h_63⟩ := h_63
                  refine ww_icmp_ge hX (pc := 66) (tgt := 282) dX11_plans_66 (by decide) (fun h_66 => ?_) (fun h_66 => ?_)
                  · simp only [w32_mod] at h_66
                    refine ww_iinc hX (pc := 282) (lv' := [some (kR (some 49)), some (kI v_8), some (kI (i + (-1))), some (kI sa), none, none, none, none, none]) dX11_plans_282 rfl (by decide) rfl rfl ?_
                    refine ww_goto hX (pc := 285) (tgt := 55) dX11_plans_285 (by decide) ?_
                    refine ww_sub [some (kR (some 49)), some (kI v_8), some (kI (i + (-1))), none, none, none, none, none, none] (aLe_s (aLe_s (aLe_s (aLe_n (aLe_n (aLe_n (aLe_n (aLe_n (aLe_n aLe_0))))))))) ?_
                    exact ih_55 _ (by have hm9 := Sh0_e hq_55; omega) (i + (-1)) I61 J61 rfl ⟨bkl61, tkl61, ⟨kI61, cI61, kJ61, by omega, by omega, ⟨by omega, by omega⟩, fun i9 s9 g1 g2 g3 => hl61 i9 s9 (by omega) g2 g3⟩⟩
                  · simp only [w32_mod] at h_66
                    refine ww_ldcw hX (pc := 69) (x := 1000000000) dX11_plans_69 tb_1457 ?_
                    refine ww_istore hX (pc := 72) (lv' := [some (kR (some 49)), some (kI v_8), some (kI i), some (kI sa), some (kI 1000000000), none, none, none, none]) dX11_plans_72 (by decide) rfl rfl ?_
                    refine ww_iconst hX (pc := 74) (x := 0) dX11_plans_74 rfl ?_
                    refine ww_istore hX (pc := 75) (lv' := [some (kR (some 49)), some (kI v_8), some (kI i), some (kI sa), some (kI 1000000000), some (kI 0), none, none, none]) dX11_plans_75 (by decide) rfl rfl ?_
                    refine ww_iload_n hX (pc := 77) dX11_plans_77 rfl ?_
                    refine ww_istore hX (pc := 78) (lv' := [some (kR (some 49)), some (kI v_8), some (kI i), some (kI sa), some (kI 1000000000), some (kI 0), some (kI sa), none, none]) dX11_plans_78 (by decide) rfl rfl ?_
                    have hl_80 : ∀ (n_80 : Nat) (bs : Int) (wy : Int) (t : Int), (256 - t).toNat = n_80 → ((sa ≤ t ∧ t ≤ FU (Ia 51 304) + 1) ∧ PBx (Ia 51) i.toNat sa.toNat t.toNat bs wy) → WW X 80 [some (kR (some 49)), some (kI v_8), some (kI i), some (kI sa), some (kI bs), some (kI wy), some (kI t), none, none] [] I61 J61 Ra Sa 0 0 := by
                      intro n_80
                      induction n_80 using Nat.strongRecOn with
                      | ind n_80 ih_80 =>
                        intro bs wy t hm_80 hv_80
                        have hq_80 := Sh0_i hm_80
                        clear hm_80
                        obtain ⟨hw, hb⟩ := hv_80
                        refine ww_iload hX (pc := 80) dX11_plans_80 rfl ?_
                        refine ww_aload_n hX (pc := 82) dX11_plans_82 rfl ?_
                        refine vI0 hX (pc := 83) sX11_112 (xs_49 hL) (c_X11_states l0 hL cI61 ) (by decide) (Nat.le_refl 0) (Nat.le_refl 0) (Nat.le_of_ble_eq_true rfl) dX11_plans_83 (fun x_83 I_83 J_83 h_83 => ?_)
                        obtain ⟨rfl, rfl, h_83⟩ := h_83
                        refine ww_icmp_ge hX (pc := 86) (tgt := 248) dX11_plans_86 (by decide) (fun h_86 => ?_) (fun h_86 => ?_)
                        · simp only [w32_mod] at h_86
                          refine ww_aload_n hX (pc := 248) dX11_plans_248 rfl ?_
                          refine ww_getR hX (pc := 249) fX11_86 (by decide) (xs_49 hL) (xr_49_36 hL) dX11_plans_249 ?_
                          refine ww_sipush hX (pc := 252) (x := 256) dX11_plans_252 (by decide) ?_
                          refine ww_iload_n hX (pc := 255) dX11_plans_255 rfl ?_
                          refine ww_imul hX (pc := 256) dX11_plans_256 ?_
                          refine ww_iload_n hX (pc := 257) dX11_plans_257 rfl ?_
                          refine ww_iadd hX (pc := 258) dX11_plans_258 ?_
                          refine ww_iload hX (pc := 259) dX11_plans_259 rfl ?_
                          refine ww_iast hX (pc := 261) (xs_70 hL) (by decide) (by omega) (by omega) dX11_plans_261 ?_
                          refine ww_nmH (fun I_261 eI_261 => ?_)
                          have kI_261 : Ch [70, 71] [] Ia I_261 := by rw [eI_261]; exact Ch_r kI61 (by decide) (by decide)
                          have cI_261 : RX I_261 := by rw [eI_261]; exact RX_r cI61 (by decide)
                          have qI_261 := RX_p cI_261
                          have r304_I_261 : I_261 51 304 = I61 51 304 := by rw [eI_261, up2_off _ _ _ (by decide)]
                          have r305_I_261 : I_261 51 305 = I61 51 305 := by rw [eI_261, up2_off _ _ _ (by decide)]
                          have rf_I_261 : FU (I_261 51 304) = FU (I61 51 304) := by rw [r304_I_261]
                          have bkI_261 : BK9 Ia I_261 := by rw [eI_261]; exact BK9_up bkl61 (by decide)
                          have tkI_261 : TK9 Ia I_261 Ja J61 := by rw [eI_261]; exact TK9_up tkl61 (by decide)
                          refine ww_aload_n hX (pc := 262) dX11_plans_262 rfl ?_
                          refine ww_getR hX (pc := 263) fX11_89 (by decide) (xs_49 hL) (xr_49_37 hL) dX11_plans_263 ?_
                          refine ww_sipush hX (pc := 266) (x := 256) dX11_plans_266 (by decide) ?_
                          refine ww_iload_n hX (pc := 269) dX11_plans_269 rfl ?_
                          refine ww_imul hX (pc := 270) dX11_plans_270 ?_
                          refine ww_iload_n hX (pc := 271) dX11_plans_271 rfl ?_
                          refine ww_iadd hX (pc := 272) dX11_plans_272 ?_
                          refine ww_iload hX (pc := 273) dX11_plans_273 rfl ?_
                          refine ww_iast hX (pc := 275) (xs_71 hL) (by decide) (by omega) (by omega) dX11_plans_275 ?_
                          refine ww_nmH (fun I_275 eI_275 => ?_)
                          have kI_275 : Ch [70, 71] [] Ia I_275 := by rw [eI_275]; exact Ch_r kI_261 (by decide) (by decide)
                          have cI_275 : RX I_275 := by rw [eI_275]; exact RX_r cI_261 (by decide)
                          have qI_275 := RX_p cI_275
                          have r304_I_275 : I_275 51 304 = I_261 51 304 := by rw [eI_275, up2_off _ _ _ (by decide)]
                          have r305_I_275 : I_275 51 305 = I_261 51 305 := by rw [eI_275, up2_off _ _ _ (by decide)]
                          have rf_I_275 : FU (I_275 51 304) = FU (I_261 51 304) := by rw [r304_I_275]
                          have bkI_275 : BK9 Ia I_275 := by rw [eI_275]; exact BK9_up bkI_261 (by decide)
                          have tkI_275 : TK9 Ia I_275 Ja J61 := by rw [eI_275]; exact TK9_up tkI_261 (by decide)
                          have e70 : I_275 70 = up1 (I61 70) (256 * i + sa).toNat bs := by rw [eI_275, up2_off _ _ _ (by decide), eI_261, up2_row]
                          have e71 : I_275 71 = up1 (I61 71) (256 * i + sa).toNat wy := by rw [eI_275, up2_row, eI_261, up2_off _ _ _ (by decide)]
                          refine ww_iinc hX (pc := 276) (lv' := [some (kR (some 49)), some (kI v_8), some (kI i), some (kI (sa + 1)), some (kI bs), some (kI wy), some (kI t), none, none]) dX11_plans_276 rfl (by decide) rfl rfl ?_
                          refine ww_goto hX (pc := 279) (tgt := 61) dX11_plans_279 (by decide) ?_
                          refine ww_sub [some (kR (some 49)), some (kI v_8), some (kI i), some (kI (sa + 1)), none, none, none, none, none] (aLe_s (aLe_s (aLe_s (aLe_s (aLe_n (aLe_n (aLe_n (aLe_n (aLe_n aLe_0))))))))) ?_
                          exact ih_61 _ (by have hm9 := Sh0_e hq_61; omega) (sa + 1) I_275 J61 rfl ⟨bkI_275, tkI_275, ⟨kI_275, cI_275, kJ61, by omega, by omega, ⟨by omega, by omega⟩, fun i9 s9 g1 g2 g3 => by
    rw [e70, e71]
    by_cases e9 : (i9 : Int) = i ∧ (s9 : Int) = sa
    · rw [show i9 = i.toNat by omega, show s9 = sa.toNat by omega]
      rw [show t.toNat = (FU (Ia 51 304) + 1).toNat by omega] at hb
      exact LS_new hb (by omega) (by omega)
    · exact LS_up (hl61 i9 s9 (by omega) g2 g3) (by omega)⟩⟩
                        · simp only [w32_mod] at h_86
                          refine ww_sipush hX (pc := 89) (x := 256) dX11_plans_89 (by decide) ?_
                          refine ww_iload_n hX (pc := 92) dX11_plans_92 rfl ?_
                          refine ww_iconst hX (pc := 93) (x := 1) dX11_plans_93 rfl ?_
                          refine ww_iadd hX (pc := 94) dX11_plans_94 ?_
                          refine ww_imul hX (pc := 95) dX11_plans_95 ?_
                          refine ww_iload hX (pc := 96) dX11_plans_96 rfl ?_
                          refine ww_iadd hX (pc := 98) dX11_plans_98 ?_
                          refine ww_nmI (fun v_99 hv_99 => ?_)
                          refine ww_istore hX (pc := 99) (lv' := [some (kR (some 49)), some (kI v_8), some (kI i), some (kI sa), some (kI bs), some (kI wy), some (kI t), some (kI v_99), none]) dX11_plans_99 (by decide) rfl rfl ?_
                          refine ww_aload_n hX (pc := 101) dX11_plans_101 rfl ?_
                          refine ww_iload hX (pc := 102) dX11_plans_102 rfl ?_
                          refine vI1 hX (pc := 104) sX11_126 (xs_49 hL) (c_X11_readOf l0 hL cI61 (by omega) (by omega)) (by decide) (Nat.le_refl 0) (Nat.le_refl 0) (Nat.le_of_ble_eq_true rfl) dX11_plans_104 (fun x_104 I_104 J_104 h_104 => ?_)
                          obtain ⟨rfl, rfl, h_104⟩ := h_104
                          refine ww_aload_n hX (pc := 107) dX11_plans_107 rfl ?_
                          refine ww_getR hX (pc := 108) fX11_20 (by decide) (xs_49 hL) (xr_49_3 hL) dX11_plans_108 ?_
                          refine ww_sipush hX (pc := 111) (x := 288) dX11_plans_111 (by decide) ?_
                          refine ww_iload_n hX (pc := 114) dX11_plans_114 rfl ?_
                          refine ww_iadd hX (pc := 115) dX11_plans_115 ?_
                          refine ww_iald hX (pc := 116) (xs_51 hL) (by decide) (by omega) (by omega) dX11_plans_116 ?_
                          have e288 : I61 51 (288 + i).toNat = Ia 51 (288 + i.toNat) := by rw [hk61, show (288 + i).toNat = 288 + i.toNat by omega]
                          have ecd : I61 51 t.toNat = Ia 51 t.toNat := by rw [hk61]
                          have hcd := hcr t.toNat (by omega)
                          refine ww_icmp_ne hX (pc := 117) (tgt := 242) dX11_plans_117 (by decide) (fun h_117 => ?_) (fun h_117 => ?_)
                          · simp only [w32_mod] at h_117
                            have mn80 : PBx (Ia 51) i.toNat sa.toNat (t.toNat + 1) bs wy := PB_no hb (fun h9 => by
                              have h8 : Ia 51 t.toNat = w32 (Ia 51 (288 + i.toNat)) := h9.2
                              rw [w32_mod] at h8
                              omega)
                            skip
                            refine ww_iinc hX (pc := 242) (lv' := [some (kR (some 49)), some (kI v_8), some (kI i), some (kI sa), some (kI bs), some (kI wy), some (kI (t + 1)), some (kI v_99), none]) dX11_plans_242 rfl (by decide) rfl rfl ?_
                            refine ww_goto hX (pc := 245) (tgt := 80) dX11_plans_245 (by decide) ?_
                            refine ww_sub [some (kR (some 49)), some (kI v_8), some (kI i), some (kI sa), some (kI bs), some (kI wy), some (kI (t + 1)), none, none] (aLe_s (aLe_s (aLe_s (aLe_s (aLe_s (aLe_s (aLe_s (aLe_n (aLe_n aLe_0))))))))) ?_
                            exact ih_80 _ (by have hm9 := Sh0_e hq_80; omega) bs wy (t + 1) rfl ⟨⟨by omega, by omega⟩, by rw [show (t + 1).toNat = t.toNat + 1 by omega]; exact mn80⟩
                          · simp only [w32_mod] at h_117
                            have hc1 : Ia 51 t.toNat = wtR (Ia 51) i.toNat := by
                              show _ = w32 (Ia 51 (288 + i.toNat))
                              rw [w32_mod]
                              omega
                            refine ww_aload_n hX (pc := 120) dX11_plans_120 rfl ?_
                            refine ww_iload_n hX (pc := 121) dX11_plans_121 rfl ?_
                            refine ww_iload hX (pc := 122) dX11_plans_122 rfl ?_
                            refine ww_aload_n hX (pc := 124) dX11_plans_124 rfl ?_
                            refine ww_getR hX (pc := 125) fX11_20 (by decide) (xs_49 hL) (xr_49_3 hL) dX11_plans_125 ?_
                            refine ww_sipush hX (pc := 128) (x := 306) dX11_plans_128 (by decide) ?_
                            refine ww_iald hX (pc := 131) (xs_51 hL) (by decide) (by omega) (by omega) dX11_plans_131 ?_
                            refine ww_toI (b := I61 51 306) rfl ?_
                            refine vI3 hX (pc := 132) sX11_271 (xs_49 hL) (c_X11_canCome l0 hL cI61 ) (by decide) (Nat.le_refl 0) (Nat.le_refl 0) (Nat.le_of_ble_eq_true rfl) dX11_plans_132 (fun x_132 I_132 J_132 h_132 => ?_)
                            obtain ⟨rfl, rfl, h_132⟩ := h_132
                            refine ww_if_eq hX (pc := 135) (tgt := 242) dX11_plans_135 (by decide) (fun h_135 => ?_) (fun h_135 => ?_)
                            · simp only [w32_mod] at h_135
                              have mn80 : PBx (Ia 51) i.toNat sa.toNat (t.toNat + 1) bs wy := PB_no hb (fun h9 => absurd (h_132.2.mpr (by rw [hk61]; exact (canC_CZ (by omega) (by omega) (by omega) (by omega)).mpr h9.1)) (by omega))
                              skip
                              refine ww_iinc hX (pc := 242) (lv' := [some (kR (some 49)), some (kI v_8), some (kI i), some (kI sa), some (kI bs), some (kI wy), some (kI (t + 1)), some (kI v_99), none]) dX11_plans_242 rfl (by decide) rfl rfl ?_
                              refine ww_goto hX (pc := 245) (tgt := 80) dX11_plans_245 (by decide) ?_
                              refine ww_sub [some (kR (some 49)), some (kI v_8), some (kI i), some (kI sa), some (kI bs), some (kI wy), some (kI (t + 1)), none, none] (aLe_s (aLe_s (aLe_s (aLe_s (aLe_s (aLe_s (aLe_s (aLe_n (aLe_n aLe_0))))))))) ?_
                              exact ih_80 _ (by have hm9 := Sh0_e hq_80; omega) bs wy (t + 1) rfl ⟨⟨by omega, by omega⟩, by rw [show (t + 1).toNat = t.toNat + 1 by omega]; exact mn80⟩
                            · simp only [w32_mod] at h_135
                              have hcz : CZ 8 (gN (Ia 51 306)) sa.toNat t.toNat := (canC_CZ (by omega) (by omega) (by omega) (by omega)).mp (by rw [← hk61]; exact h_132.2.mp (by omega))
                              have hlt := hl61 (i.toNat + 1) t.toNat (Or.inl (by omega)) (by omega) (by omega)
                              have e99 : v_99.toNat = 256 * (i.toNat + 1) + t.toNat := by omega
                              have hlr := LS_r hlt hO (by omega) (by omega) (by omega)
                              rw [← e99] at hlr
                              have hpw := PB_w hb
                              refine ww_aload_n hX (pc := 138) dX11_plans_138 rfl ?_
                              refine ww_getR hX (pc := 139) fX11_86 (by decide) (xs_49 hL) (xr_49_36 hL) dX11_plans_139 ?_
                              refine ww_iload hX (pc := 142) dX11_plans_142 rfl ?_
                              refine ww_iald hX (pc := 144) (xs_70 hL) (by decide) (by omega) (by omega) dX11_plans_144 ?_
                              refine ww_ldcw hX (pc := 145) (x := 1000000000) dX11_plans_145 tb_1457 ?_
                              refine ww_icmp_ne hX (pc := 148) (tgt := 154) dX11_plans_148 (by decide) (fun h_148 => ?_) (fun h_148 => ?_)
                              · simp only [w32_mod] at h_148
                                refine ww_aload_n hX (pc := 154) dX11_plans_154 rfl ?_
                                refine ww_iload hX (pc := 155) dX11_plans_155 rfl ?_
                                refine ww_iload_n hX (pc := 157) dX11_plans_157 rfl ?_
                                refine ww_iconst hX (pc := 158) (x := (-1)) dX11_plans_158 rfl ?_
                                refine ww_ixor hX (pc := 159) dX11_plans_159 ?_
                                refine ww_iand hX (pc := 160) dX11_plans_160 ?_
                                refine vI1 hX (pc := 161) sX11_301 (xs_49 hL) (c_X11_oilOf l0 hL cI61 ) (by decide) (Nat.le_refl 0) (Nat.le_refl 0) (Nat.le_of_ble_eq_true rfl) dX11_plans_161 (fun x_161 I_161 J_161 h_161 => ?_)
                                obtain ⟨rfl, rfl, h_161⟩ := h_161
                                have hx9 : x_161 = oilF (Ia 51) (i_and t (i_xor sa (-1))) (Ia 51 304).toNat := by rw [h_161, hk61]
                                have hd9 : x_161 = oiR (Ia 51) t.toNat - oiR (Ia 51) sa.toNat := by rw [hx9]; exact oiR_d (by omega) (by omega) (by omega) (by omega) (by omega) (by omega) hcz
                                have hd0 := oilF_r (k := Ia 51) (a := i_and t (i_xor sa (-1))) hO (Ia 51 304).toNat (by omega)
                                have hne9 : ¬ I61 70 (256 * (i.toNat + 1) + t.toNat) = 1000000000 := by rw [← e99]; omega
                                refine ww_aload_n hX (pc := 164) dX11_plans_164 rfl ?_
                                refine ww_getR hX (pc := 165) fX11_86 (by decide) (xs_49 hL) (xr_49_36 hL) dX11_plans_165 ?_
                                refine ww_iload hX (pc := 168) dX11_plans_168 rfl ?_
                                refine ww_iald hX (pc := 170) (xs_70 hL) (by decide) (by omega) (by omega) dX11_plans_170 ?_
                                refine ww_iadd hX (pc := 171) dX11_plans_171 ?_
                                refine ww_nmI (fun v_172 hv_172 => ?_)
                                refine ww_istore hX (pc := 172) (lv' := [some (kR (some 49)), some (kI v_8), some (kI i), some (kI sa), some (kI bs), some (kI wy), some (kI t), some (kI v_99), some (kI v_172)]) dX11_plans_172 (by decide) rfl rfl ?_
                                refine ww_iload hX (pc := 174) dX11_plans_174 rfl ?_
                                refine ww_iload hX (pc := 176) dX11_plans_176 rfl ?_
                                refine ww_icmp_le hX (pc := 178) (tgt := 184) dX11_plans_178 (by decide) (fun h_178 => ?_) (fun h_178 => ?_)
                                · simp only [w32_mod] at h_178
                                  refine ww_iload hX (pc := 184) dX11_plans_184 rfl ?_
                                  refine ww_iload hX (pc := 186) dX11_plans_186 rfl ?_
                                  refine ww_icmp_ge hX (pc := 188) (tgt := 201) dX11_plans_188 (by decide) (fun h_188 => ?_) (fun h_188 => ?_)
                                  · simp only [w32_mod] at h_188
                                    refine ww_iload hX (pc := 201) dX11_plans_201 rfl ?_
                                    refine ww_i2l hX (pc := 203) dX11_plans_203 ?_
                                    refine ww_aload_n hX (pc := 204) dX11_plans_204 rfl ?_
                                    refine ww_getR hX (pc := 205) fX11_89 (by decide) (xs_49 hL) (xr_49_37 hL) dX11_plans_205 ?_
                                    refine ww_iload hX (pc := 208) dX11_plans_208 rfl ?_
                                    refine ww_iald hX (pc := 210) (xs_71 hL) (by decide) (by omega) (by omega) dX11_plans_210 ?_
                                    refine ww_i2l hX (pc := 211) dX11_plans_211 ?_
                                    refine ww_ladd hX (pc := 212) dX11_plans_212 ?_
                                    refine ww_ldc2 hX (pc := 213) (x := 1000000000) dX11_plans_213 tb_1423 ?_
                                    refine ww_lcmp hX (pc := 216) dX11_plans_216 ?_
                                    refine ww_if_le hX (pc := 217) (tgt := 226) dX11_plans_217 (by decide) (fun h_217 => ?_) (fun h_217 => ?_)
                                    · simp only [w32_mod] at h_217
                                      have ew9 : (wy + 2147483648) % 4294967296 - 2147483648 = wy := by omega
                                      have eB9 : (I61 71 v_99.toNat + 2147483648) % 4294967296 - 2147483648 = I61 71 v_99.toNat := by omega
                                      rw [ew9, eB9] at h_217
                                      have hlc := l_cmp_v (wy + I61 71 v_99.toNat) 1000000000
                                      rw [w64_id (x := wy + I61 71 v_99.toNat) (by omega) (by omega), show w64 1000000000 = 1000000000 from w64_id (by decide) (by decide)] at hlc
                                      refine ww_iload hX (pc := 226) dX11_plans_226 rfl ?_
                                      refine ww_aload_n hX (pc := 228) dX11_plans_228 rfl ?_
                                      refine ww_getR hX (pc := 229) fX11_89 (by decide) (xs_49 hL) (xr_49_37 hL) dX11_plans_229 ?_
                                      refine ww_iload hX (pc := 232) dX11_plans_232 rfl ?_
                                      refine ww_iald hX (pc := 234) (xs_71 hL) (by decide) (by omega) (by omega) dX11_plans_234 ?_
                                      refine ww_iadd hX (pc := 235) dX11_plans_235 ?_
                                      refine ww_nmI (fun v_236 hv_236 => ?_)
                                      refine ww_istore hX (pc := 236) (lv' := [some (kR (some 49)), some (kI v_8), some (kI i), some (kI sa), some (kI bs), some (kI v_236), some (kI t), some (kI v_99), some (kI v_172)]) dX11_plans_236 (by decide) rfl rfl ?_
                                      refine ww_iload hX (pc := 238) dX11_plans_238 rfl ?_
                                      refine ww_istore hX (pc := 240) (lv' := [some (kR (some 49)), some (kI v_8), some (kI i), some (kI sa), some (kI v_172), some (kI v_236), some (kI t), some (kI v_99), some (kI v_172)]) dX11_plans_240 (by decide) rfl rfl ?_
                                      have mn80 : PBx (Ia 51) i.toNat sa.toNat (t.toNat + 1) v_172 v_236 := by
                                        have h9 := PB_eq hb ⟨hcz, hc1⟩ hlt hne9 hd9 (by rw [← e99]; omega) (by omega)
                                        rw [← e99] at h9
                                        rw [show v_172 = bs by omega, show v_236 = min 1000000000 (wy + I61 71 v_99.toNat) by omega]
                                        exact h9
                                      refine ww_iinc hX (pc := 242) (lv' := [some (kR (some 49)), some (kI v_8), some (kI i), some (kI sa), some (kI v_172), some (kI v_236), some (kI (t + 1)), some (kI v_99), some (kI v_172)]) dX11_plans_242 rfl (by decide) rfl rfl ?_
                                      refine ww_goto hX (pc := 245) (tgt := 80) dX11_plans_245 (by decide) ?_
                                      refine ww_sub [some (kR (some 49)), some (kI v_8), some (kI i), some (kI sa), some (kI v_172), some (kI v_236), some (kI (t + 1)), none, none] (aLe_s (aLe_s (aLe_s (aLe_s (aLe_s (aLe_s (aLe_s (aLe_n (aLe_n aLe_0))))))))) ?_
                                      exact ih_80 _ (by have hm9 := Sh0_e hq_80; omega) v_172 v_236 (t + 1) rfl ⟨⟨by omega, by omega⟩, by rw [show (t + 1).toNat = t.toNat + 1 by omega]; exact mn80⟩
                                    · simp only [w32_mod] at h_217
                                      have ew9 : (wy + 2147483648) % 4294967296 - 2147483648 = wy := by omega
                                      have eB9 : (I61 71 v_99.toNat + 2147483648) % 4294967296 - 2147483648 = I61 71 v_99.toNat := by omega
                                      rw [ew9, eB9] at h_217
                                      have hlc := l_cmp_v (wy + I61 71 v_99.toNat) 1000000000
                                      rw [w64_id (x := wy + I61 71 v_99.toNat) (by omega) (by omega), show w64 1000000000 = 1000000000 from w64_id (by decide) (by decide)] at hlc
                                      refine ww_ldcw hX (pc := 220) (x := 1000000000) dX11_plans_220 tb_1457 ?_
                                      refine ww_goto hX (pc := 223) (tgt := 236) dX11_plans_223 (by decide) ?_
                                      refine ww_istore hX (pc := 236) (lv' := [some (kR (some 49)), some (kI v_8), some (kI i), some (kI sa), some (kI bs), some (kI 1000000000), some (kI t), some (kI v_99), some (kI v_172)]) dX11_plans_236 (by decide) rfl rfl ?_
                                      refine ww_iload hX (pc := 238) dX11_plans_238 rfl ?_
                                      refine ww_istore hX (pc := 240) (lv' := [some (kR (some 49)), some (kI v_8), some (kI i), some (kI sa), some (kI v_172), some (kI 1000000000), some (kI t), some (kI v_99), some (kI v_172)]) dX11_plans_240 (by decide) rfl rfl ?_
                                      have mn80 : PBx (Ia 51) i.toNat sa.toNat (t.toNat + 1) v_172 1000000000 := by
                                        have h9 := PB_eq hb ⟨hcz, hc1⟩ hlt hne9 hd9 (by rw [← e99]; omega) (by omega)
                                        rw [← e99] at h9
                                        rw [show v_172 = bs by omega, show (1000000000 : Int) = min 1000000000 (wy + I61 71 v_99.toNat) by omega]
                                        exact h9
                                      refine ww_iinc hX (pc := 242) (lv' := [some (kR (some 49)), some (kI v_8), some (kI i), some (kI sa), some (kI v_172), some (kI 1000000000), some (kI (t + 1)), some (kI v_99), some (kI v_172)]) dX11_plans_242 rfl (by decide) rfl rfl ?_
                                      refine ww_goto hX (pc := 245) (tgt := 80) dX11_plans_245 (by decide) ?_
                                      refine ww_sub [some (kR (some 49)), some (kI v_8), some (kI i), some (kI sa), some (kI v_172), some (kI 1000000000), some (kI (t + 1)), none, none] (aLe_s (aLe_s (aLe_s (aLe_s (aLe_s (aLe_s (aLe_s (aLe_n (aLe_n aLe_0))))))))) ?_
                                      exact ih_80 _ (by have hm9 := Sh0_e hq_80; omega) v_172 1000000000 (t + 1) rfl ⟨⟨by omega, by omega⟩, by rw [show (t + 1).toNat = t.toNat + 1 by omega]; exact mn80⟩
                                  · simp only [w32_mod] at h_188
                                    refine ww_aload_n hX (pc := 191) dX11_plans_191 rfl ?_
                                    refine ww_getR hX (pc := 192) fX11_89 (by decide) (xs_49 hL) (xr_49_37 hL) dX11_plans_192 ?_
                                    refine ww_iload hX (pc := 195) dX11_plans_195 rfl ?_
                                    refine ww_iald hX (pc := 197) (xs_71 hL) (by decide) (by omega) (by omega) dX11_plans_197 ?_
                                    refine ww_goto hX (pc := 198) (tgt := 236) dX11_plans_198 (by decide) ?_
                                    refine ww_nmI (fun v_236 hv_236 => ?_)
                                    refine ww_istore hX (pc := 236) (lv' := [some (kR (some 49)), some (kI v_8), some (kI i), some (kI sa), some (kI bs), some (kI v_236), some (kI t), some (kI v_99), some (kI v_172)]) dX11_plans_236 (by decide) rfl rfl ?_
                                    refine ww_iload hX (pc := 238) dX11_plans_238 rfl ?_
                                    refine ww_istore hX (pc := 240) (lv' := [some (kR (some 49)), some (kI v_8), some (kI i), some (kI sa), some (kI v_172), some (kI v_236), some (kI t), some (kI v_99), some (kI v_172)]) dX11_plans_240 (by decide) rfl rfl ?_
                                    have mn80 : PBx (Ia 51) i.toNat sa.toNat (t.toNat + 1) v_172 v_236 := by
                                      have h9 := PB_lt hb ⟨hcz, hc1⟩ hlt hne9 hd9 (by omega) (by rw [← e99]; omega) (by rw [← e99]; omega)
                                      rw [← e99] at h9
                                      rw [hv_236, show v_172 = I61 70 v_99.toNat + x_161 by omega]
                                      exact h9
                                    refine ww_iinc hX (pc := 242) (lv' := [some (kR (some 49)), some (kI v_8), some (kI i), some (kI sa), some (kI v_172), some (kI v_236), some (kI (t + 1)), some (kI v_99), some (kI v_172)]) dX11_plans_242 rfl (by decide) rfl rfl ?_
                                    refine ww_goto hX (pc := 245) (tgt := 80) dX11_plans_245 (by decide) ?_
                                    refine ww_sub [some (kR (some 49)), some (kI v_8), some (kI i), some (kI sa), some (kI v_172), some (kI v_236), some (kI (t + 1)), none, none] (aLe_s (aLe_s (aLe_s (aLe_s (aLe_s (aLe_s (aLe_s (aLe_n (aLe_n aLe_0))))))))) ?_
                                    exact ih_80 _ (by have hm9 := Sh0_e hq_80; omega) v_172 v_236 (t + 1) rfl ⟨⟨by omega, by omega⟩, by rw [show (t + 1).toNat = t.toNat + 1 by omega]; exact mn80⟩
                                · simp only [w32_mod] at h_178
                                  have mn80 : PBx (Ia 51) i.toNat sa.toNat (t.toNat + 1) bs wy := PB_gt hb ⟨hcz, hc1⟩ hlt hne9 hd9 (by rw [← e99]; omega) (by rw [← e99]; omega)
                                  refine ww_goto hX (pc := 181) (tgt := 242) dX11_plans_181 (by decide) ?_
                                  skip
                                  refine ww_iinc hX (pc := 242) (lv' := [some (kR (some 49)), some (kI v_8), some (kI i), some (kI sa), some (kI bs), some (kI wy), some (kI (t + 1)), some (kI v_99), some (kI v_172)]) dX11_plans_242 rfl (by decide) rfl rfl ?_
                                  refine ww_goto hX (pc := 245) (tgt := 80) dX11_plans_245 (by decide) ?_
                                  refine ww_sub [some (kR (some 49)), some (kI v_8), some (kI i), some (kI sa), some (kI bs), some (kI wy), some (kI (t + 1)), none, none] (aLe_s (aLe_s (aLe_s (aLe_s (aLe_s (aLe_s (aLe_s (aLe_n (aLe_n aLe_0))))))))) ?_
                                  exact ih_80 _ (by have hm9 := Sh0_e hq_80; omega) bs wy (t + 1) rfl ⟨⟨by omega, by omega⟩, by rw [show (t + 1).toNat = t.toNat + 1 by omega]; exact mn80⟩
                              · simp only [w32_mod] at h_148
                                have mn80 : PBx (Ia 51) i.toNat sa.toNat (t.toNat + 1) bs wy := PB_far hb ⟨hcz, hc1⟩ hlt (by rw [← e99]; omega)
                                refine ww_goto hX (pc := 151) (tgt := 242) dX11_plans_151 (by decide) ?_
                                skip
                                refine ww_iinc hX (pc := 242) (lv' := [some (kR (some 49)), some (kI v_8), some (kI i), some (kI sa), some (kI bs), some (kI wy), some (kI (t + 1)), some (kI v_99), none]) dX11_plans_242 rfl (by decide) rfl rfl ?_
                                refine ww_goto hX (pc := 245) (tgt := 80) dX11_plans_245 (by decide) ?_
                                refine ww_sub [some (kR (some 49)), some (kI v_8), some (kI i), some (kI sa), some (kI bs), some (kI wy), some (kI (t + 1)), none, none] (aLe_s (aLe_s (aLe_s (aLe_s (aLe_s (aLe_s (aLe_s (aLe_n (aLe_n aLe_0))))))))) ?_
                                exact ih_80 _ (by have hm9 := Sh0_e hq_80; omega) bs wy (t + 1) rfl ⟨⟨by omega, by omega⟩, by rw [show (t + 1).toNat = t.toNat + 1 by omega]; exact mn80⟩
                    exact hl_80 _ 1000000000 0 sa rfl ⟨⟨by omega, by omega⟩, PB_0⟩
              exact hl_61 _ 0 I55 J55 rfl ⟨bkl55, tkl55, ⟨kI55, cI55, kJ55, rfl, rfl, ⟨by omega, by omega⟩, fun i9 s9 g1 g2 g3 => hl55 i9 s9 (by omega) g2 g3⟩⟩
        exact hl_55 _ v_54 I11 J11 rfl ⟨bkl11, tkl11, ⟨kI11, cI11, kJ11, rfl, rfl, ⟨by omega, by omega⟩, fun i9 s9 g1 g2 g3 => by
    rw [show i9 = (Ia 51 309).toNat by omega]
    exact hl11 s9 (by omega)⟩⟩
      · simp only [w32_mod] at h_16
        refine ww_aload_n hX (pc := 19) dX11_plans_19 rfl ?_
        refine ww_getR hX (pc := 20) fX11_86 (by decide) (xs_49 hL) (xr_49_36 hL) dX11_plans_20 ?_
        refine ww_sipush hX (pc := 23) (x := 256) dX11_plans_23 (by decide) ?_
        refine ww_iload_n hX (pc := 26) dX11_plans_26 rfl ?_
        refine ww_imul hX (pc := 27) dX11_plans_27 ?_
        refine ww_iload_n hX (pc := 28) dX11_plans_28 rfl ?_
        refine ww_iadd hX (pc := 29) dX11_plans_29 ?_
        refine ww_iconst hX (pc := 30) (x := 0) dX11_plans_30 rfl ?_
        refine ww_iast hX (pc := 31) (xs_70 hL) (by decide) (by omega) (by omega) dX11_plans_31 ?_
        refine ww_nmH (fun I_31 eI_31 => ?_)
        have kI_31 : Ch [70, 71] [] Ia I_31 := by rw [eI_31]; exact Ch_r kI11 (by decide) (by decide)
        have cI_31 : RX I_31 := by rw [eI_31]; exact RX_r cI11 (by decide)
        have qI_31 := RX_p cI_31
        have r304_I_31 : I_31 51 304 = I11 51 304 := by rw [eI_31, up2_off _ _ _ (by decide)]
        have r305_I_31 : I_31 51 305 = I11 51 305 := by rw [eI_31, up2_off _ _ _ (by decide)]
        have rf_I_31 : FU (I_31 51 304) = FU (I11 51 304) := by rw [r304_I_31]
        have bkI_31 : BK9 Ia I_31 := by rw [eI_31]; exact BK9_up bkl11 (by decide)
        have tkI_31 : TK9 Ia I_31 Ja J11 := by rw [eI_31]; exact TK9_up tkl11 (by decide)
        refine ww_aload_n hX (pc := 32) dX11_plans_32 rfl ?_
        refine ww_getR hX (pc := 33) fX11_89 (by decide) (xs_49 hL) (xr_49_37 hL) dX11_plans_33 ?_
        refine ww_sipush hX (pc := 36) (x := 256) dX11_plans_36 (by decide) ?_
        refine ww_iload_n hX (pc := 39) dX11_plans_39 rfl ?_
        refine ww_imul hX (pc := 40) dX11_plans_40 ?_
        refine ww_iload_n hX (pc := 41) dX11_plans_41 rfl ?_
        refine ww_iadd hX (pc := 42) dX11_plans_42 ?_
        refine ww_iconst hX (pc := 43) (x := 1) dX11_plans_43 rfl ?_
        refine ww_iast hX (pc := 44) (xs_71 hL) (by decide) (by omega) (by omega) dX11_plans_44 ?_
        refine ww_nmH (fun I_44 eI_44 => ?_)
        have kI_44 : Ch [70, 71] [] Ia I_44 := by rw [eI_44]; exact Ch_r kI_31 (by decide) (by decide)
        have cI_44 : RX I_44 := by rw [eI_44]; exact RX_r cI_31 (by decide)
        have qI_44 := RX_p cI_44
        have r304_I_44 : I_44 51 304 = I_31 51 304 := by rw [eI_44, up2_off _ _ _ (by decide)]
        have r305_I_44 : I_44 51 305 = I_31 51 305 := by rw [eI_44, up2_off _ _ _ (by decide)]
        have rf_I_44 : FU (I_44 51 304) = FU (I_31 51 304) := by rw [r304_I_44]
        have bkI_44 : BK9 Ia I_44 := by rw [eI_44]; exact BK9_up bkI_31 (by decide)
        have tkI_44 : TK9 Ia I_44 Ja J11 := by rw [eI_44]; exact TK9_up tkI_31 (by decide)
        have e70 : I_44 70 = up1 (I11 70) (256 * v_8 + q).toNat 0 := by rw [eI_44, up2_off _ _ _ (by decide), eI_31, up2_row]
        have e71 : I_44 71 = up1 (I11 71) (256 * v_8 + q).toNat 1 := by rw [eI_44, up2_row, eI_31, up2_off _ _ _ (by decide)]
        have hv8 : v_8 = Ia 51 309 := hv_8
        refine ww_iinc hX (pc := 45) (lv' := [some (kR (some 49)), some (kI v_8), some (kI (q + 1)), none, none, none, none, none, none]) dX11_plans_45 rfl (by decide) rfl rfl ?_
        refine ww_goto hX (pc := 48) (tgt := 11) dX11_plans_48 (by decide) ?_
        exact ih_11 _ (by have hm9 := Sh0_e hq_11; omega) (q + 1) I_44 J11 rfl ⟨bkI_44, tkI_44, ⟨kI_44, cI_44, kJ11, by omega, by omega, by omega, fun s9 hs => by
    rw [e70, e71]
    by_cases e9 : (s9 : Int) = q
    · exact LS_0 rfl (by rw [show 256 * (Ia 51 309).toNat + s9 = (256 * v_8 + q).toNat by omega]; exact up1_s _ _ _) (by rw [show 256 * (Ia 51 309).toNat + s9 = (256 * v_8 + q).toNat by omega]; exact up1_s _ _ _)
    · exact LS_up (hl11 s9 (by omega)) (by omega)⟩⟩
  exact hl_11 _ 0 Ia Ja rfl ⟨BK9_rf, TK9_rf, ⟨Ch_rf, hQ, (Kp_rf (a := 49) (b := 73)), rfl, rfl, by omega, fun s9 hs => absurd hs (by omega)⟩⟩
set_option maxHeartbeats 4000000 in
set_option maxRecDepth 20000 in
theorem d9_X11_cheap (l0 : Launch) {Ia Ja : aI1} {Ra : aR1} {Sa : aS1} (hL : LY Ra Sa) (hQ : RX Ia) {a : Int} (ha0 : -2147483648 ≤ a) (ha1 : a < 2147483648) (hO : ∀ l, l < 8 → 0 ≤ Ia 51 (256 + l) ∧ Ia 51 (256 + l) ≤ 99) (hcr : ∀ t : Nat, (t : Int) ≤ FU (Ia 51 304) → -1 ≤ Ia 51 t ∧ Ia 51 t ≤ 7)  : CT l0 3 0 0 mX11_cheap [kR (some 49), kI a] Ia Ja Ra Sa (cI (fun x I' J' => (Ch [70, 71] [] Ia I' ∧ Kp 49 73 Ja J' ∧ RX I' ∧ ((a = 0 ∨ a = 1) → ∃ b9 m9, BWr (Ia 51) b9 m9 ∧ x = if a = 1 then m9 else if b9 = 1000000000 then -1 else b9) ∧ (¬ (a = 0 ∨ a = 1) → x = -1)) ∧ QK9 Ia I' Ja J') Ra Sa) := by
  refine ct_in pn_X11 (Nat.le_of_ble_eq_true rfl) (fun X hX hT hIn => ?_)
  have hX : aK l0 X cX11_cheap 2 RX11 (some .int) 3 0 0 := hX
  change WW X 0 [some (kR (some 49)), some (kI a)] [] Ia Ja Ra Sa 0 0
  have qIa := RX_o hQ
  refine ww_iload_n hX (pc := 0) dX11_cheap_0 rfl ?_
  refine ww_iconst hX (pc := 1) (x := 0) dX11_cheap_1 rfl ?_
  refine ww_iconst hX (pc := 2) (x := 1) dX11_cheap_2 rfl ?_
  refine sI3 hX (pc := 3) sX11_101 (c_X11_lies l0 (by omega) (by omega) (by omega) (by omega) (by omega) (by omega)) (by decide) (Nat.le_refl 0) (Nat.le_refl 0) (Nat.le_of_ble_eq_true rfl) dX11_cheap_3 (fun x_3 I_3 J_3 h_3 => ?_)
  obtain ⟨rfl, rfl, h_3⟩ := h_3
  refine ww_if_ne hX (pc := 6) (tgt := 11) dX11_cheap_6 (by decide) (fun h_6 => ?_) (fun h_6 => ?_)
  · simp only [w32_mod] at h_6
    have k_3 := h_3.2.mp (by omega)
    clear h_3
    refine ww_aload_n hX (pc := 11) dX11_cheap_11 rfl ?_
    refine vV0 hX (pc := 12) sX11_341 (xs_49 hL) (d9_X11_plans l0 hL hQ hO hcr) (by decide) (Nat.le_refl 0) (Nat.le_refl 0) (Nat.le_of_ble_eq_true rfl) dX11_cheap_12 (fun I_12 J_12 h_12 => ?_)
    obtain ⟨h_12, qxI_12⟩ := h_12
    have kJ_12 : Kp 49 73 Ja J_12 := Kp_tr (Kp_rf (a := 49) (b := 73)) h_12.2.1
    have kI_12 : Ch [70, 71] [] Ia I_12 := Ch_tr Ch_rf (Ch_wd h_12.1 (by decide) (by decide))
    have cI_12 : RX I_12 := h_12.2.2.1
    have qI_12 := RX_o cI_12
    have r304_I_12 : I_12 51 304 = Ia 51 304 := by rw [h_12.1.1 51 (by decide) (by decide)]
    have r305_I_12 : I_12 51 305 = Ia 51 305 := by rw [h_12.1.1 51 (by decide) (by decide)]
    have rf_I_12 : FU (I_12 51 304) = FU (Ia 51 304) := by rw [r304_I_12]
    have hbw : BWr (Ia 51) (I_12 70 0) (I_12 71 0) := h_12.2.2.2 0 0 (by omega) (by omega)
    have hbr := BW_b hbw
    have bkI_12 : BK9 Ia I_12 := BK9_tr BK9_rf qxI_12.1
    have tkI_12 : TK9 Ia I_12 Ja J_12 := TK9_tr TK9_rf qxI_12.2
    refine ww_iload_n hX (pc := 15) dX11_cheap_15 rfl ?_
    refine ww_iconst hX (pc := 16) (x := 1) dX11_cheap_16 rfl ?_
    refine ww_icmp_ne hX (pc := 17) (tgt := 29) dX11_cheap_17 (by decide) (fun h_17 => ?_) (fun h_17 => ?_)
    · simp only [w32_mod] at h_17
      refine ww_aload_n hX (pc := 29) dX11_cheap_29 rfl ?_
      refine ww_getR hX (pc := 30) fX11_86 (by decide) (xs_49 hL) (xr_49_36 hL) dX11_cheap_30 ?_
      refine ww_iconst hX (pc := 33) (x := 0) dX11_cheap_33 rfl ?_
      refine ww_iald hX (pc := 34) (xs_70 hL) (by decide) (by omega) (by omega) dX11_cheap_34 ?_
      refine ww_toI (b := I_12 70 0) rfl ?_
      refine ww_ldcw hX (pc := 35) (x := 1000000000) dX11_cheap_35 tb_1457 ?_
      refine ww_icmp_ne hX (pc := 38) (tgt := 45) dX11_cheap_38 (by decide) (fun h_38 => ?_) (fun h_38 => ?_)
      · simp only [w32_mod] at h_38
        refine ww_aload_n hX (pc := 45) dX11_cheap_45 rfl ?_
        refine ww_getR hX (pc := 46) fX11_86 (by decide) (xs_49 hL) (xr_49_36 hL) dX11_cheap_46 ?_
        refine ww_iconst hX (pc := 49) (x := 0) dX11_cheap_49 rfl ?_
        refine ww_iald hX (pc := 50) (xs_70 hL) (by decide) (by omega) (by omega) dX11_cheap_50 ?_
        refine ww_toI (b := I_12 70 0) rfl ?_
        refine rI hX (pc := 51) hT (Nat.le_refl 0) (Nat.le_refl 0) dX11_cheap_51 ?_
        exact ⟨⟨kI_12, kJ_12, cI_12, (fun _ => ⟨_, _, hbw, by
              first
              | (rw [if_pos (by omega)] <;> rfl)
              | (rw [if_neg (by omega), if_pos (by omega)] <;> rfl)
              | (rw [if_neg (by omega), if_neg (by omega)] <;> rfl)⟩), (fun h9 => absurd (by omega) h9)⟩, bkI_12, tkI_12⟩
      · simp only [w32_mod] at h_38
        refine ww_iconst hX (pc := 41) (x := (-1)) dX11_cheap_41 rfl ?_
        refine ww_goto hX (pc := 42) (tgt := 51) dX11_cheap_42 (by decide) ?_
        refine rI hX (pc := 51) hT (Nat.le_refl 0) (Nat.le_refl 0) dX11_cheap_51 ?_
        exact ⟨⟨kI_12, kJ_12, cI_12, (fun _ => ⟨_, _, hbw, by
              first
              | (rw [if_pos (by omega)] <;> rfl)
              | (rw [if_neg (by omega), if_pos (by omega)] <;> rfl)
              | (rw [if_neg (by omega), if_neg (by omega)] <;> rfl)⟩), (fun h9 => absurd (by omega) h9)⟩, bkI_12, tkI_12⟩
    · simp only [w32_mod] at h_17
      refine ww_aload_n hX (pc := 20) dX11_cheap_20 rfl ?_
      refine ww_getR hX (pc := 21) fX11_89 (by decide) (xs_49 hL) (xr_49_37 hL) dX11_cheap_21 ?_
      refine ww_iconst hX (pc := 24) (x := 0) dX11_cheap_24 rfl ?_
      refine ww_iald hX (pc := 25) (xs_71 hL) (by decide) (by omega) (by omega) dX11_cheap_25 ?_
      refine ww_toI (b := I_12 71 0) rfl ?_
      refine ww_goto hX (pc := 26) (tgt := 51) dX11_cheap_26 (by decide) ?_
      refine rI hX (pc := 51) hT (Nat.le_refl 0) (Nat.le_refl 0) dX11_cheap_51 ?_
      exact ⟨⟨kI_12, kJ_12, cI_12, (fun _ => ⟨_, _, hbw, by
            first
            | (rw [if_pos (by omega)] <;> rfl)
            | (rw [if_neg (by omega), if_pos (by omega)] <;> rfl)
            | (rw [if_neg (by omega), if_neg (by omega)] <;> rfl)⟩), (fun h9 => absurd (by omega) h9)⟩, bkI_12, tkI_12⟩
  · simp only [w32_mod] at h_6
    refine ww_iconst hX (pc := 9) (x := (-1)) dX11_cheap_9 rfl ?_
    refine rI hX (pc := 10) hT (Nat.le_refl 0) (Nat.le_refl 0) dX11_cheap_10 ?_
    exact ⟨⟨Ch_rf, (Kp_rf (a := 49) (b := 73)), hQ, (fun h9 => absurd h9 (by omega)), (fun _ => rfl)⟩, BK9_rf, TK9_rf⟩
set_option maxHeartbeats 4000000 in
set_option maxRecDepth 20000 in
theorem d9_X11_plan (l0 : Launch) {Ia Ja : aI1} {Ra : aR1} {Sa : aS1} (hL : LY Ra Sa) (hQ : RX Ia) {a : Int} (ha0 : -2147483648 ≤ a) (ha1 : a < 2147483648) (hO : ∀ l, l < 8 → 0 ≤ Ia 51 (256 + l) ∧ Ia 51 (256 + l) ≤ 99) (hcr : ∀ t : Nat, (t : Int) ≤ FU (Ia 51 304) → -1 ≤ Ia 51 t ∧ Ia 51 t ≤ 7)  : CT l0 3 0 0 mX11_plan [kR (some 49), kI a] Ia Ja Ra Sa (cI (fun x I' J' => (Ch [70, 71] [] Ia I' ∧ Kp 49 73 Ja J' ∧ RX I' ∧ ((0 ≤ a ∧ a < Ia 51 309) → ∃ b9 m9, BWr (Ia 51) b9 m9 ∧ (b9 = 1000000000 → x = -1) ∧ (¬ b9 = 1000000000 → ∃ F, FCr (Ia 51) b9 F (a.toNat + 1) ∧ x = F a.toNat)) ∧ (¬ (0 ≤ a ∧ a < Ia 51 309) → x = -1)) ∧ QK9 Ia I' Ja J') Ra Sa) := by
  refine ct_in pn_X11 (Nat.le_of_ble_eq_true rfl) (fun X hX hT hIn => ?_)
  have hX : aK l0 X cX11_plan 5 RX11 (some .int) 3 0 0 := hX
  change WW X 0 [some (kR (some 49)), some (kI a), none, none, none] [] Ia Ja Ra Sa 0 0
  have qIa := RX_p hQ
  refine ww_iload_n hX (pc := 0) dX11_plan_0 rfl ?_
  refine ww_iconst hX (pc := 1) (x := 0) dX11_plan_1 rfl ?_
  refine ww_aload_n hX (pc := 2) dX11_plan_2 rfl ?_
  refine ww_getR hX (pc := 3) fX11_20 (by decide) (xs_49 hL) (xr_49_3 hL) dX11_plan_3 ?_
  refine ww_sipush hX (pc := 6) (x := 309) dX11_plan_6 (by decide) ?_
  refine ww_iald hX (pc := 9) (xs_51 hL) (by decide) (by omega) (by omega) dX11_plan_9 ?_
  refine ww_toI (b := Ia 51 309) rfl ?_
  refine ww_iconst hX (pc := 10) (x := 1) dX11_plan_10 rfl ?_
  refine ww_isub hX (pc := 11) dX11_plan_11 ?_
  refine sI3 hX (pc := 12) sX11_101 (c_X11_lies l0 (by omega) (by omega) (by omega) (by omega) (by omega) (by omega)) (by decide) (Nat.le_refl 0) (Nat.le_refl 0) (Nat.le_of_ble_eq_true rfl) dX11_plan_12 (fun x_12 I_12 J_12 h_12 => ?_)
  obtain ⟨rfl, rfl, h_12⟩ := h_12
  refine ww_if_ne hX (pc := 15) (tgt := 20) dX11_plan_15 (by decide) (fun h_15 => ?_) (fun h_15 => ?_)
  · simp only [w32_mod] at h_15
    have k_12 := h_12.2.mp (by omega)
    clear h_12
    refine ww_aload_n hX (pc := 20) dX11_plan_20 rfl ?_
    refine vV0 hX (pc := 21) sX11_341 (xs_49 hL) (d9_X11_plans l0 hL hQ hO hcr) (by decide) (Nat.le_refl 0) (Nat.le_refl 0) (Nat.le_of_ble_eq_true rfl) dX11_plan_21 (fun I_21 J_21 h_21 => ?_)
    obtain ⟨h_21, qxI_21⟩ := h_21
    have kJ_21 : Kp 49 73 Ja J_21 := Kp_tr (Kp_rf (a := 49) (b := 73)) h_21.2.1
    have kI_21 : Ch [70, 71] [] Ia I_21 := Ch_tr Ch_rf (Ch_wd h_21.1 (by decide) (by decide))
    have cI_21 : RX I_21 := h_21.2.2.1
    have qI_21 := RX_p cI_21
    have r304_I_21 : I_21 51 304 = Ia 51 304 := by rw [h_21.1.1 51 (by decide) (by decide)]
    have r305_I_21 : I_21 51 305 = Ia 51 305 := by rw [h_21.1.1 51 (by decide) (by decide)]
    have r309_I_21 : I_21 51 309 = Ia 51 309 := by rw [h_21.1.1 51 (by decide) (by decide)]
    have rf_I_21 : FU (I_21 51 304) = FU (Ia 51 304) := by rw [r304_I_21]
    have hk21 : I_21 51 = Ia 51 := h_21.1.1 51 (by decide) (by decide)
    have hls := h_21.2.2.2
    have hbw : BWr (Ia 51) (I_21 70 0) (I_21 71 0) := h_21.2.2.2 0 0 (by omega) (by omega)
    have hbr := BW_b hbw
    have bkI_21 : BK9 Ia I_21 := BK9_tr BK9_rf qxI_21.1
    have tkI_21 : TK9 Ia I_21 Ja J_21 := TK9_tr TK9_rf qxI_21.2
    refine ww_aload_n hX (pc := 24) dX11_plan_24 rfl ?_
    refine ww_getR hX (pc := 25) fX11_86 (by decide) (xs_49 hL) (xr_49_36 hL) dX11_plan_25 ?_
    refine ww_iconst hX (pc := 28) (x := 0) dX11_plan_28 rfl ?_
    refine ww_iald hX (pc := 29) (xs_70 hL) (by decide) (by omega) (by omega) dX11_plan_29 ?_
    refine ww_toI (b := I_21 70 0) rfl ?_
    refine ww_ldcw hX (pc := 30) (x := 1000000000) dX11_plan_30 tb_1457 ?_
    refine ww_icmp_ne hX (pc := 33) (tgt := 38) dX11_plan_33 (by decide) (fun h_33 => ?_) (fun h_33 => ?_)
    · simp only [w32_mod] at h_33
      refine ww_iconst hX (pc := 38) (x := 0) dX11_plan_38 rfl ?_
      refine ww_istore_n hX (pc := 39) (lv' := [some (kR (some 49)), some (kI a), some (kI 0), none, none]) dX11_plan_39 (by decide) rfl rfl ?_
      refine ww_iconst hX (pc := 40) (x := 0) dX11_plan_40 rfl ?_
      refine ww_istore_n hX (pc := 41) (lv' := [some (kR (some 49)), some (kI a), some (kI 0), some (kI 0), none]) dX11_plan_41 (by decide) rfl rfl ?_
      have hl_42 : ∀ (n_42 : Nat) (sa : Int) (k : Int), (a + 1 - k).toNat = n_42 → ((0 ≤ k ∧ k ≤ a + 1) ∧ (0 ≤ sa ∧ sa ≤ FU (Ia 51 304)) ∧ FE (Ia 51) (I_21 70 0) k.toNat sa ∧ MNr (Ia 51) (I_21 70 0) k.toNat sa.toNat) → WW X 42 [some (kR (some 49)), some (kI a), some (kI sa), some (kI k), none] [] I_21 J_21 Ra Sa 0 0 := by
        intro n_42
        induction n_42 using Nat.strongRecOn with
        | ind n_42 ih_42 =>
          intro sa k hm_42 hv_42
          have hq_42 := Sh0_i hm_42
          clear hm_42
          obtain ⟨hv, hv1, hfe, hmn⟩ := hv_42
          refine ww_iload_n hX (pc := 42) dX11_plan_42 rfl ?_
          refine ww_iload_n hX (pc := 43) dX11_plan_43 rfl ?_
          refine ww_icmp_gt hX (pc := 44) (tgt := 164) dX11_plan_44 (by decide) (fun h_44 => ?_) (fun h_44 => ?_)
          · simp only [w32_mod] at h_44
            refine ww_iload_n hX (pc := 164) dX11_plan_164 rfl ?_
            refine rI hX (pc := 165) hT (Nat.le_refl 0) (Nat.le_refl 0) dX11_plan_165 ?_
            exact ⟨⟨kI_21, kJ_21, cI_21, (fun _ => ⟨_, _, hbw, (fun h9 => absurd h9 (by omega)), (fun _ => FE_e (by rw [show a.toNat + 1 = k.toNat by omega]; exact hfe) (by omega))⟩), (fun h9 => absurd (by omega) h9)⟩, bkI_21, tkI_21⟩
          · simp only [w32_mod] at h_44
            refine ww_iload_n hX (pc := 47) dX11_plan_47 rfl ?_
            refine ww_istore hX (pc := 48) (lv' := [some (kR (some 49)), some (kI a), some (kI sa), some (kI k), some (kI sa)]) dX11_plan_48 (by decide) rfl rfl ?_
            obtain ⟨tw, htw⟩ := GO_x hmn (by omega)
            have htl := GO_le htw
            have htN := htw.1.1
            have hl_50 : ∀ (n_50 : Nat) (t : Int), ((tw : Int) - t).toNat = n_50 → ((sa ≤ t ∧ t ≤ (tw : Int)) ∧ (∀ u, u < t.toNat → ¬ GOr (Ia 51) (I_21 70 0) k.toNat sa.toNat u)) → WW X 50 [some (kR (some 49)), some (kI a), some (kI sa), some (kI k), some (kI t)] [] I_21 J_21 Ra Sa 0 0 := by
              intro n_50
              induction n_50 using Nat.strongRecOn with
              | ind n_50 ih_50 =>
                intro t hm_50 hv_50
                have hq_50 := Sh0_i hm_50
                clear hm_50
                obtain ⟨hu, hno⟩ := hv_50
                refine ww_aload_n hX (pc := 50) dX11_plan_50 rfl ?_
                refine ww_iload hX (pc := 51) dX11_plan_51 rfl ?_
                refine vI1 hX (pc := 53) sX11_126 (xs_49 hL) (c_X11_readOf l0 hL cI_21 (by omega) (by omega)) (by decide) (Nat.le_refl 0) (Nat.le_refl 0) (Nat.le_of_ble_eq_true rfl) dX11_plan_53 (fun x_53 I_53 J_53 h_53 => ?_)
                obtain ⟨rfl, rfl, h_53⟩ := h_53
                refine ww_aload_n hX (pc := 56) dX11_plan_56 rfl ?_
                refine ww_getR hX (pc := 57) fX11_20 (by decide) (xs_49 hL) (xr_49_3 hL) dX11_plan_57 ?_
                refine ww_sipush hX (pc := 60) (x := 288) dX11_plan_60 (by decide) ?_
                refine ww_iload_n hX (pc := 63) dX11_plan_63 rfl ?_
                refine ww_iadd hX (pc := 64) dX11_plan_64 ?_
                refine ww_iald hX (pc := 65) (xs_51 hL) (by decide) (by omega) (by omega) dX11_plan_65 ?_
                have e288 : I_21 51 (288 + k).toNat = Ia 51 (288 + k.toNat) := by rw [hk21, show (288 + k).toNat = 288 + k.toNat by omega]
                have ecd : I_21 51 t.toNat = Ia 51 t.toNat := by rw [hk21]
                have hcd := hcr t.toNat (by omega)
                refine ww_icmp_ne hX (pc := 66) (tgt := 149) dX11_plan_66 (by decide) (fun h_66 => ?_) (fun h_66 => ?_)
                · simp only [w32_mod] at h_66
                  have mng : ¬ GOr (Ia 51) (I_21 70 0) k.toNat sa.toNat t.toNat := (fun h9 => by
                    have h8 : Ia 51 t.toNat = w32 (Ia 51 (288 + k.toNat)) := h9.1.2.2
                    rw [w32_mod] at h8
                    omega)
                  have mno : ∀ u, u < (t + 1).toNat → ¬ GOr (Ia 51) (I_21 70 0) k.toNat sa.toNat u := fun u hu h9 => by
                    by_cases e9 : u = t.toNat
                    · rw [e9] at h9; exact mng h9
                    · exact hno u (by omega) h9
                  have hne : ¬ t = (tw : Int) := fun e9 => mng (by rw [show t.toNat = tw by omega]; exact htw)
                  refine ww_iinc hX (pc := 149) (lv' := [some (kR (some 49)), some (kI a), some (kI sa), some (kI k), some (kI (t + 1))]) dX11_plan_149 rfl (by decide) rfl rfl ?_
                  refine ww_goto hX (pc := 152) (tgt := 50) dX11_plan_152 (by decide) ?_
                  exact ih_50 _ (by have hm9 := Sh0_e hq_50; omega) (t + 1) rfl ⟨by omega, mno⟩
                · simp only [w32_mod] at h_66
                  have hc1 : Ia 51 t.toNat = wtR (Ia 51) k.toNat := by
                    show _ = w32 (Ia 51 (288 + k.toNat))
                    rw [w32_mod]
                    omega
                  refine ww_aload_n hX (pc := 69) dX11_plan_69 rfl ?_
                  refine ww_iload_n hX (pc := 70) dX11_plan_70 rfl ?_
                  refine ww_iload hX (pc := 71) dX11_plan_71 rfl ?_
                  refine ww_aload_n hX (pc := 73) dX11_plan_73 rfl ?_
                  refine ww_getR hX (pc := 74) fX11_20 (by decide) (xs_49 hL) (xr_49_3 hL) dX11_plan_74 ?_
                  refine ww_sipush hX (pc := 77) (x := 306) dX11_plan_77 (by decide) ?_
                  refine ww_iald hX (pc := 80) (xs_51 hL) (by decide) (by omega) (by omega) dX11_plan_80 ?_
                  refine ww_toI (b := I_21 51 306) rfl ?_
                  refine vI3 hX (pc := 81) sX11_271 (xs_49 hL) (c_X11_canCome l0 hL cI_21 ) (by decide) (Nat.le_refl 0) (Nat.le_refl 0) (Nat.le_of_ble_eq_true rfl) dX11_plan_81 (fun x_81 I_81 J_81 h_81 => ?_)
                  obtain ⟨rfl, rfl, h_81⟩ := h_81
                  refine ww_if_eq hX (pc := 84) (tgt := 149) dX11_plan_84 (by decide) (fun h_84 => ?_) (fun h_84 => ?_)
                  · simp only [w32_mod] at h_84
                    have mng : ¬ GOr (Ia 51) (I_21 70 0) k.toNat sa.toNat t.toNat := (fun h9 => absurd (h_81.2.mpr (by rw [hk21]; exact (canC_CZ (by omega) (by omega) (by omega) (by omega)).mpr h9.1.2.1)) (by omega))
                    have mno : ∀ u, u < (t + 1).toNat → ¬ GOr (Ia 51) (I_21 70 0) k.toNat sa.toNat u := fun u hu h9 => by
                      by_cases e9 : u = t.toNat
                      · rw [e9] at h9; exact mng h9
                      · exact hno u (by omega) h9
                    have hne : ¬ t = (tw : Int) := fun e9 => mng (by rw [show t.toNat = tw by omega]; exact htw)
                    refine ww_iinc hX (pc := 149) (lv' := [some (kR (some 49)), some (kI a), some (kI sa), some (kI k), some (kI (t + 1))]) dX11_plan_149 rfl (by decide) rfl rfl ?_
                    refine ww_goto hX (pc := 152) (tgt := 50) dX11_plan_152 (by decide) ?_
                    exact ih_50 _ (by have hm9 := Sh0_e hq_50; omega) (t + 1) rfl ⟨by omega, mno⟩
                  · simp only [w32_mod] at h_84
                    have hcz : CZ 8 (gN (Ia 51 306)) sa.toNat t.toNat := (canC_CZ (by omega) (by omega) (by omega) (by omega)).mp (by rw [← hk21]; exact h_81.2.mp (by omega))
                    have hlt := hls (k.toNat + 1) t.toNat (by omega) (by omega)
                    have e99 : (256 * (k + 1) + t).toNat = 256 * (k.toNat + 1) + t.toNat := by omega
                    have hlr := LS_r hlt hO (by omega) (by omega) (by omega)
                    rw [← e99] at hlr
                    have hml := MN_L (hls k.toNat sa.toNat (by omega) (by omega)) hmn
                    have hsr := LS_r (hls k.toNat sa.toNat (by omega) (by omega)) hO (by omega) (by omega) (by omega)
                    rw [show 256 * k.toNat + sa.toNat = (256 * k + sa).toNat by omega] at hml hsr
                    refine ww_aload_n hX (pc := 87) dX11_plan_87 rfl ?_
                    refine ww_getR hX (pc := 88) fX11_86 (by decide) (xs_49 hL) (xr_49_36 hL) dX11_plan_88 ?_
                    refine ww_sipush hX (pc := 91) (x := 256) dX11_plan_91 (by decide) ?_
                    refine ww_iload_n hX (pc := 94) dX11_plan_94 rfl ?_
                    refine ww_iconst hX (pc := 95) (x := 1) dX11_plan_95 rfl ?_
                    refine ww_iadd hX (pc := 96) dX11_plan_96 ?_
                    refine ww_imul hX (pc := 97) dX11_plan_97 ?_
                    refine ww_iload hX (pc := 98) dX11_plan_98 rfl ?_
                    refine ww_iadd hX (pc := 100) dX11_plan_100 ?_
                    refine ww_iald hX (pc := 101) (xs_70 hL) (by decide) (by omega) (by omega) dX11_plan_101 ?_
                    refine ww_ldcw hX (pc := 102) (x := 1000000000) dX11_plan_102 tb_1457 ?_
                    refine ww_icmp_eq hX (pc := 105) (tgt := 149) dX11_plan_105 (by decide) (fun h_105 => ?_) (fun h_105 => ?_)
                    · simp only [w32_mod] at h_105
                      have mng : ¬ GOr (Ia 51) (I_21 70 0) k.toNat sa.toNat t.toNat := GO_n hmn (by omega) hlt (Or.inl (by rw [← e99]; omega))
                      have mno : ∀ u, u < (t + 1).toNat → ¬ GOr (Ia 51) (I_21 70 0) k.toNat sa.toNat u := fun u hu h9 => by
                        by_cases e9 : u = t.toNat
                        · rw [e9] at h9; exact mng h9
                        · exact hno u (by omega) h9
                      have hne : ¬ t = (tw : Int) := fun e9 => mng (by rw [show t.toNat = tw by omega]; exact htw)
                      refine ww_iinc hX (pc := 149) (lv' := [some (kR (some 49)), some (kI a), some (kI sa), some (kI k), some (kI (t + 1))]) dX11_plan_149 rfl (by decide) rfl rfl ?_
                      refine ww_goto hX (pc := 152) (tgt := 50) dX11_plan_152 (by decide) ?_
                      exact ih_50 _ (by have hm9 := Sh0_e hq_50; omega) (t + 1) rfl ⟨by omega, mno⟩
                    · simp only [w32_mod] at h_105
                      refine ww_aload_n hX (pc := 108) dX11_plan_108 rfl ?_
                      refine ww_iload hX (pc := 109) dX11_plan_109 rfl ?_
                      refine ww_iload_n hX (pc := 111) dX11_plan_111 rfl ?_
                      refine ww_iconst hX (pc := 112) (x := (-1)) dX11_plan_112 rfl ?_
                      refine ww_ixor hX (pc := 113) dX11_plan_113 ?_
                      refine ww_iand hX (pc := 114) dX11_plan_114 ?_
                      refine vI1 hX (pc := 115) sX11_301 (xs_49 hL) (c_X11_oilOf l0 hL cI_21 ) (by decide) (Nat.le_refl 0) (Nat.le_refl 0) (Nat.le_of_ble_eq_true rfl) dX11_plan_115 (fun x_115 I_115 J_115 h_115 => ?_)
                      obtain ⟨rfl, rfl, h_115⟩ := h_115
                      have hx9 : x_115 = oilF (Ia 51) (i_and t (i_xor sa (-1))) (Ia 51 304).toNat := by rw [h_115, hk21]
                      have hd9 : x_115 = oiR (Ia 51) t.toNat - oiR (Ia 51) sa.toNat := by rw [hx9]; exact oiR_d (by omega) (by omega) (by omega) (by omega) (by omega) (by omega) hcz
                      have hd0 := oilF_r (k := Ia 51) (a := i_and t (i_xor sa (-1))) hO (Ia 51 304).toNat (by omega)
                      refine ww_aload_n hX (pc := 118) dX11_plan_118 rfl ?_
                      refine ww_getR hX (pc := 119) fX11_86 (by decide) (xs_49 hL) (xr_49_36 hL) dX11_plan_119 ?_
                      refine ww_sipush hX (pc := 122) (x := 256) dX11_plan_122 (by decide) ?_
                      refine ww_iload_n hX (pc := 125) dX11_plan_125 rfl ?_
                      refine ww_iconst hX (pc := 126) (x := 1) dX11_plan_126 rfl ?_
                      refine ww_iadd hX (pc := 127) dX11_plan_127 ?_
                      refine ww_imul hX (pc := 128) dX11_plan_128 ?_
                      refine ww_iload hX (pc := 129) dX11_plan_129 rfl ?_
                      refine ww_iadd hX (pc := 131) dX11_plan_131 ?_
                      refine ww_iald hX (pc := 132) (xs_70 hL) (by decide) (by omega) (by omega) dX11_plan_132 ?_
                      refine ww_iadd hX (pc := 133) dX11_plan_133 ?_
                      refine ww_aload_n hX (pc := 134) dX11_plan_134 rfl ?_
                      refine ww_getR hX (pc := 135) fX11_86 (by decide) (xs_49 hL) (xr_49_36 hL) dX11_plan_135 ?_
                      refine ww_sipush hX (pc := 138) (x := 256) dX11_plan_138 (by decide) ?_
                      refine ww_iload_n hX (pc := 141) dX11_plan_141 rfl ?_
                      refine ww_imul hX (pc := 142) dX11_plan_142 ?_
                      refine ww_iload_n hX (pc := 143) dX11_plan_143 rfl ?_
                      refine ww_iadd hX (pc := 144) dX11_plan_144 ?_
                      refine ww_iald hX (pc := 145) (xs_70 hL) (by decide) (by omega) (by omega) dX11_plan_145 ?_
                      refine ww_icmp_eq hX (pc := 146) (tgt := 155) dX11_plan_146 (by decide) (fun h_146 => ?_) (fun h_146 => ?_)
                      · simp only [w32_mod] at h_146
                        have hgo : GOr (Ia 51) (I_21 70 0) k.toNat sa.toNat t.toNat := GO_y (by omega) ⟨hcz, hc1⟩ hlt (by rw [← e99]; omega) (by rw [← e99]; omega)
                        have mfe : FE (Ia 51) (I_21 70 0) (k.toNat + 1) t := FE_s hfe (by omega) hgo hno
                        have mmn := GO_m hmn (by omega) hgo
                        refine ww_iload hX (pc := 155) dX11_plan_155 rfl ?_
                        refine ww_istore_n hX (pc := 157) (lv' := [some (kR (some 49)), some (kI a), some (kI t), some (kI k), some (kI t)]) dX11_plan_157 (by decide) rfl rfl ?_
                        refine ww_iinc hX (pc := 158) (lv' := [some (kR (some 49)), some (kI a), some (kI t), some (kI (k + 1)), some (kI t)]) dX11_plan_158 rfl (by decide) rfl rfl ?_
                        refine ww_goto hX (pc := 161) (tgt := 42) dX11_plan_161 (by decide) ?_
                        refine ww_sub [some (kR (some 49)), some (kI a), some (kI t), some (kI (k + 1)), none] (aLe_s (aLe_s (aLe_s (aLe_s (aLe_n aLe_0))))) ?_
                        exact ih_42 _ (by have hm9 := Sh0_e hq_42; omega) t (k + 1) rfl ⟨⟨by omega, by omega⟩, ⟨by omega, by omega⟩, by rw [show (k + 1).toNat = k.toNat + 1 by omega]; exact mfe, by rw [show (k + 1).toNat = k.toNat + 1 by omega]; exact mmn⟩
                      · simp only [w32_mod] at h_146
                        have mng : ¬ GOr (Ia 51) (I_21 70 0) k.toNat sa.toNat t.toNat := GO_n hmn (by omega) hlt (Or.inr (by rw [← e99]; omega))
                        have mno : ∀ u, u < (t + 1).toNat → ¬ GOr (Ia 51) (I_21 70 0) k.toNat sa.toNat u := fun u hu h9 => by
                          by_cases e9 : u = t.toNat
                          · rw [e9] at h9; exact mng h9
                          · exact hno u (by omega) h9
                        have hne : ¬ t = (tw : Int) := fun e9 => mng (by rw [show t.toNat = tw by omega]; exact htw)
                        refine ww_iinc hX (pc := 149) (lv' := [some (kR (some 49)), some (kI a), some (kI sa), some (kI k), some (kI (t + 1))]) dX11_plan_149 rfl (by decide) rfl rfl ?_
                        refine ww_goto hX (pc := 152) (tgt := 50) dX11_plan_152 (by decide) ?_
                        exact ih_50 _ (by have hm9 := Sh0_e hq_50; omega) (t + 1) rfl ⟨by omega, mno⟩
            exact hl_50 _ sa rfl ⟨by omega, fun u hu h9 => by have := GO_le h9; omega⟩
      exact hl_42 _ 0 0 rfl ⟨⟨by omega, by omega⟩, ⟨by omega, by omega⟩, FE_0, MN_0 hbw (by omega)⟩
    · simp only [w32_mod] at h_33
      refine ww_iconst hX (pc := 36) (x := (-1)) dX11_plan_36 rfl ?_
      refine rI hX (pc := 37) hT (Nat.le_refl 0) (Nat.le_refl 0) dX11_plan_37 ?_
      exact ⟨⟨kI_21, kJ_21, cI_21, (fun _ => ⟨_, _, hbw, (fun _ => rfl), (fun h9 => absurd (by omega) h9)⟩), (fun h9 => absurd (by omega) h9)⟩, bkI_21, tkI_21⟩
  · simp only [w32_mod] at h_15
    refine ww_iconst hX (pc := 18) (x := (-1)) dX11_plan_18 rfl ?_
    refine rI hX (pc := 19) hT (Nat.le_refl 0) (Nat.le_refl 0) dX11_plan_19 ?_
    exact ⟨⟨Ch_rf, (Kp_rf (a := 49) (b := 73)), hQ, (fun h9 => absurd h9 (by omega)), (fun _ => rfl)⟩, BK9_rf, TK9_rf⟩
