/-- what status and the refusals speak of is kept, and the version -/
def FK9 (I I' : aI1) : Prop := I' 49 25 = -1 ∨ I' 49 25 = I 49 25
def BK9 (I I' : aI1) : Prop := I' 50 = I 50 ∧ I' 49 0 = I 49 0 ∧ I' 49 1 = I 49 1 ∧ FK9 I I'
/-- the tables are of no version, or as they were -/
def TK9 (I I' J J' : aI1) : Prop := I' 49 25 = -1 ∨ (I' 49 25 = I 49 25 ∧ I' 61 = I 61 ∧ J' 62 = J 62)
def QK9 (I I' J J' : aI1) : Prop := BK9 I I' ∧ TK9 I I' J J'
/-- refused by k -/
def RQ9 (k : Int) (I I' J J' : aI1) : Prop := I' 49 0 = k ∧ I' 50 = up1 (I 50) (-k).toNat (I 50 (-k).toNat + 1) ∧ I' 49 1 = I 49 1 ∧ TK9 I I' J J'
/-- accepted -/
def GQ9 (I I' : aI1) : Prop := I' 49 0 = 0 ∧ I' 50 = I 50 ∧ I' 49 1 = I 49 1 + 1 ∧ FK9 I I'
def RGQ9 (x : Int) (I I' J J' : aI1) : Prop := (x < 0 → RQ9 x I I' J J') ∧ (0 ≤ x → GQ9 I I')
def VQ9 (I I' : aI1) : Prop := I' 50 = I 50 ∧ I' 49 0 = I 49 0 ∧ I' 49 1 = I 49 1 + 1 ∧ FK9 I I'
theorem FK9_tr {I I1 I' : aI1} (h : FK9 I I1) (k : FK9 I1 I') : FK9 I I' := by
  rcases k with k | k
  · exact Or.inl k
  · rcases h with h | h
    · exact Or.inl (k.trans h)
    · exact Or.inr (k.trans h)
theorem BK9_rf {I : aI1} : BK9 I I := ⟨rfl, rfl, rfl, Or.inr rfl⟩
theorem TK9_rf {I J : aI1} : TK9 I I J J := Or.inr ⟨rfl, rfl, rfl⟩
theorem BK9_tr {I I1 I' : aI1} (h : BK9 I I1) (k : BK9 I1 I') : BK9 I I' := ⟨k.1.trans h.1, k.2.1.trans h.2.1, k.2.2.1.trans h.2.2.1, FK9_tr h.2.2.2 k.2.2.2⟩
theorem TK9_tr {I I1 I' J J1 J' : aI1} (h : TK9 I I1 J J1) (k : TK9 I1 I' J1 J') : TK9 I I' J J' := by
  rcases k with k | ⟨k1, k2, k3⟩
  · exact Or.inl k
  · rcases h with h | ⟨h1, h2, h3⟩
    · exact Or.inl (k1.trans h)
    · exact Or.inr ⟨k1.trans h1, k2.trans h2, k3.trans h3⟩
theorem BK9_up {I I' : aI1} {k j : Nat} {v : Int} (h : BK9 I I') (hk : k ≠ 49 ∧ k ≠ 50) : BK9 I (up2 I' k j v) := by
  have e : ∀ a, a ≠ k → up2 I' k j v a = I' a := fun a ha => up2_off _ _ _ ha
  unfold BK9 FK9
  rw [e 50 (by omega), e 49 (by omega)]
  exact h
theorem BK9_f {I I' : aI1} {j : Nat} {v : Int} (h : BK9 I I') (hj : j ≠ 0 ∧ j ≠ 1 ∧ j ≠ 25) : BK9 I (up2 I' 49 j v) := by
  have e : ∀ a, a ≠ 49 → up2 I' 49 j v a = I' a := fun a ha => up2_off _ _ _ ha
  have f : ∀ b, b ≠ j → up2 I' 49 j v 49 b = I' 49 b := fun b hb => up2_n _ _ (Or.inr hb)
  unfold BK9 FK9
  rw [e 50 (by decide), f 0 (by omega), f 1 (by omega), f 25 (by omega)]
  exact h
theorem BK9_m {I I' : aI1} (h : BK9 I I') : BK9 I (up2 I' 49 25 (-1)) := by
  have e : ∀ a, a ≠ 49 → up2 I' 49 25 (-1) a = I' a := fun a ha => up2_off _ _ _ ha
  have f : ∀ b, b ≠ 25 → up2 I' 49 25 (-1) 49 b = I' 49 b := fun b hb => up2_n _ _ (Or.inr hb)
  unfold BK9
  rw [e 50 (by decide), f 0 (by omega), f 1 (by omega)]
  exact ⟨h.1, h.2.1, h.2.2.1, Or.inl (up2_s _ _ _ _)⟩
theorem BK9_ch {I I1 I2 : aI1} {rs fs : List Nat} (h : BK9 I I1) (c : Ch rs fs I1 I2) (h1 : 50 ∉ rs) (h2 : 0 ∉ fs ∧ 1 ∉ fs ∧ 25 ∉ fs) : BK9 I I2 :=
  BK9_tr h ⟨c.1 50 (by decide) h1, c.2 0 h2.1, c.2 1 h2.2.1, Or.inr (c.2 25 h2.2.2)⟩
theorem TK9_jc {I I1 I2 J J1 J2 : aI1} {rs fs : List Nat} (h : TK9 I I1 J J1) (c : Ch rs fs I1 I2) (h1 : 61 ∉ rs) (h2 : 25 ∉ fs) (e : J2 = J1) : TK9 I I2 J J2 :=
  TK9_tr h (Or.inr ⟨c.2 25 h2, c.1 61 (by decide) h1, by rw [e]⟩)
theorem TK9_up {I I' J J' : aI1} {k j : Nat} {v : Int} (h : TK9 I I' J J') (hk : k ≠ 49 ∧ k ≠ 61) : TK9 I (up2 I' k j v) J J' := by
  have e : ∀ a, a ≠ k → up2 I' k j v a = I' a := fun a ha => up2_off _ _ _ ha
  unfold TK9
  rw [e 61 (by omega), e 49 (by omega)]
  exact h
theorem TK9_f {I I' J J' : aI1} {j : Nat} {v : Int} (h : TK9 I I' J J') (hj : j ≠ 25) : TK9 I (up2 I' 49 j v) J J' := by
  have e : ∀ a, a ≠ 49 → up2 I' 49 j v a = I' a := fun a ha => up2_off _ _ _ ha
  unfold TK9
  rw [e 61 (by decide), show up2 I' 49 j v 49 25 = I' 49 25 from up2_n _ _ (Or.inr (by omega))]
  exact h
theorem VQ9_of {I I1 I2 : aI1} (b : BK9 I I1) (e : I2 = up2 I1 49 1 (I1 49 1 + 1)) : VQ9 I I2 := by
  refine ⟨by rw [e, up2_off _ _ _ (by decide)]; exact b.1, by rw [e, up2_n _ _ (Or.inr (by decide))]; exact b.2.1, by rw [e, up2_s, b.2.2.1], ?_⟩
  unfold FK9
  rw [e, up2_n _ _ (Or.inr (by decide))]
  exact b.2.2.2
theorem RQ9_of {I I' J J' : aI1} {a x : Int} (h : Ch [50] [0] I I' ∧ Kp 49 73 J J' ∧ RX I' ∧ x = a ∧ I' 49 0 = a ∧ I' 50 = up1 (I 50) (-a).toNat (I 50 (-a).toNat + 1) ∧ J' = J) : RQ9 x I I' J J' := by
  obtain ⟨h1, -, -, rfl, h5, h6, rfl⟩ := h
  exact ⟨h5, h6, h1.2 1 (by decide), Or.inr ⟨h1.2 25 (by decide), h1.1 61 (by decide) (by decide), rfl⟩⟩
theorem GQ9_of {I I' J J' : aI1} {a x : Int} (h : Ch [] [0, 1] I I' ∧ Kp 49 73 J J' ∧ RX I' ∧ x = a ∧ I' 49 0 = 0 ∧ I' 49 1 = I 49 1 + 1 ∧ J' = J) : GQ9 I I' := by
  obtain ⟨h1, -, -, -, h5, h6, rfl⟩ := h
  exact ⟨h5, h1.1 50 (by decide) (by decide), h6, Or.inr (h1.2 25 (by decide))⟩
theorem RQ9_tr {I I1 I' J J1 J' : aI1} {x : Int} (b : BK9 I I1) (t : TK9 I I1 J J1) (r : RQ9 x I1 I' J1 J') : RQ9 x I I' J J' :=
  ⟨r.1, by rw [r.2.1, b.1], r.2.2.1.trans b.2.2.1, TK9_tr t r.2.2.2⟩
theorem GQ9_tr {I I1 I' : aI1} (b : BK9 I I1) (r : GQ9 I1 I') : GQ9 I I' :=
  ⟨r.1, r.2.1.trans b.1, by rw [r.2.2.1, b.2.2.1], FK9_tr b.2.2.2 r.2.2.2⟩
theorem n9_X11_refuses (l0 : Launch) {Ia Ja : aI1} {Ra : aR1} {Sa : aS1} (hL : LY Ra Sa) (hQ : RX Ia) {a : Int} (ha0 : -6 ≤ a) (ha1 : a ≤ -1) : CT l0 0 0 0 mX11_refuses [kR (some 49), kI a] Ia Ja Ra Sa (cI (fun x I' J' => (Ch [50] [0] Ia I' ∧ Kp 49 73 Ja J' ∧ RX I' ∧ x = a) ∧ RQ9 x Ia I' Ja J') Ra Sa) :=
  CT_wI (c8_X11_refuses l0 hL hQ ha0 ha1) (fun x I' J' h => ⟨⟨h.1, h.2.1, h.2.2.1, h.2.2.2.1⟩, RQ9_of h⟩)
theorem n9_X11_good (l0 : Launch) {Ia Ja : aI1} {Ra : aR1} {Sa : aS1} (hL : LY Ra Sa) (hQ : RX Ia) {a : Int} : CT l0 0 0 0 mX11_good [kR (some 49), kI a] Ia Ja Ra Sa (cI (fun x I' J' => (Ch [] [0, 1] Ia I' ∧ Kp 49 73 Ja J' ∧ RX I' ∧ x = a) ∧ GQ9 Ia I') Ra Sa) :=
  CT_wI (c8_X11_good l0 hL hQ) (fun x I' J' h => ⟨⟨h.1, h.2.1, h.2.2.1, h.2.2.2.1⟩, GQ9_of h⟩)
/-- QF after a call -/
theorem QF_tk {I I' J J' : aI1} {v w : Int} (h : QF I J v) (b : I' 49 1 = I 49 1) (t : TK9 I I' J J') (e51 : I' 51 = I 51) (hv : v ≤ w) : QF I' J' w := by
  have h1 := h.1
  rcases t with t | ⟨t1, t2, t3⟩
  · exact ⟨by omega, by omega, fun h9 => absurd h9 (by omega)⟩
  · exact QF_kp h b t1 e51 t2 t3 hv
theorem QF_tu {I I' J J' : aI1} {v w : Int} (h : QF I J v) (b : I' 49 1 = I 49 1 + 1) (t : FK9 I I') (hv : v + 1 ≤ w) : QF I' J' w := by
  have h1 := h.1
  rcases t with t | t1
  · exact ⟨by omega, by omega, fun h9 => absurd h9 (by omega)⟩
  · exact QF_up h b t1 hv

set_option maxHeartbeats 4000000 in
set_option maxRecDepth 20000 in
theorem c9_X11_feed (l0 : Launch) {Ia Ja : aI1} {Ra : aR1} {Sa : aS1} (hL : LY Ra Sa) (hQ : RX Ia) {a b c e g : Int}  : CT l0 0 0 0 mX11_feed [kR (some 49), kI a, kI b, kI c, kI e, kI g] Ia Ja Ra Sa (cI (fun x I' J' => (Ch [55, 56] [10] Ia I' ∧ Kp 49 73 Ja J' ∧ RX I' ∧ (Ia 49 10 ≤ 380 → x = Ia 49 10 + 20 ∧ I' 49 10 = Ia 49 10 + 20 ∧ FDr (Ia 55) (I' 55) (Ia 49 10) a b c e g) ∧ (¬ Ia 49 10 ≤ 380 → x = -1 ∧ I' 49 10 = Ia 49 10 ∧ I' 55 = Ia 55)) ∧ QK9 Ia I' Ja J') Ra Sa) := by
  refine ct_in pn_X11 (Nat.le_of_ble_eq_true rfl) (fun X hX hT hIn => ?_)
  have hX : aK l0 X cX11_feed 7 RX11 (some .int) 0 0 0 := hX
  change WW X 0 [some (kR (some 49)), some (kI a), some (kI b), some (kI c), some (kI e), some (kI g), none] [] Ia Ja Ra Sa 0 0
  have qIa := RX_o hQ
  refine ww_aload_n hX (pc := 0) dX11_feed_0 rfl ?_
  refine ww_getI hX (pc := 1) fX11_129 (by decide) (xs_49 hL) dX11_feed_1 ?_
  refine ww_bipush hX (pc := 4) (x := 20) dX11_feed_4 (by decide) ?_
  refine ww_iadd hX (pc := 6) dX11_feed_6 ?_
  refine ww_sipush hX (pc := 7) (x := 400) dX11_feed_7 (by decide) ?_
  refine ww_icmp_le hX (pc := 10) (tgt := 15) dX11_feed_10 (by decide) (fun h_10 => ?_) (fun h_10 => ?_)
  · simp only [w32_mod] at h_10
    refine ww_aload_n hX (pc := 15) dX11_feed_15 rfl ?_
    refine ww_getR hX (pc := 16) fX11_37 (by decide) (xs_49 hL) (xr_49_9 hL) dX11_feed_16 ?_
    refine ww_iconst hX (pc := 19) (x := 0) dX11_feed_19 rfl ?_
    refine ww_iload_n hX (pc := 20) dX11_feed_20 rfl ?_
    refine ww_iast hX (pc := 21) (xs_56 hL) (by decide) (by omega) (by omega) dX11_feed_21 ?_
    refine ww_nmH (fun I_21 eI_21 => ?_)
    have kI_21 : Ch [55, 56] [10] Ia I_21 := by rw [eI_21]; exact Ch_r Ch_rf (by decide) (by decide)
    have cI_21 : RX I_21 := by rw [eI_21]; exact RX_r hQ (by decide)
    have qI_21 := RX_o cI_21
    have f10_I_21 : I_21 49 10 = Ia 49 10 := by rw [eI_21, up2_off _ _ _ (by decide)]
    have g21 : I_21 56 = up1 (Ia 56) 0 a := by rw [eI_21, up2_row]; rfl
    have h21 : I_21 55 = Ia 55 := by rw [eI_21, up2_off _ _ _ (by decide)]
    have bkI_21 : BK9 Ia I_21 := by rw [eI_21]; exact BK9_up BK9_rf (by decide)
    have tkI_21 : TK9 Ia I_21 Ja Ja := by rw [eI_21]; exact TK9_up TK9_rf (by decide)
    refine ww_aload_n hX (pc := 22) dX11_feed_22 rfl ?_
    refine ww_getR hX (pc := 23) fX11_37 (by decide) (xs_49 hL) (xr_49_9 hL) dX11_feed_23 ?_
    refine ww_iconst hX (pc := 26) (x := 1) dX11_feed_26 rfl ?_
    refine ww_iload_n hX (pc := 27) dX11_feed_27 rfl ?_
    refine ww_iast hX (pc := 28) (xs_56 hL) (by decide) (by omega) (by omega) dX11_feed_28 ?_
    refine ww_nmH (fun I_28 eI_28 => ?_)
    have kI_28 : Ch [55, 56] [10] Ia I_28 := by rw [eI_28]; exact Ch_r kI_21 (by decide) (by decide)
    have cI_28 : RX I_28 := by rw [eI_28]; exact RX_r cI_21 (by decide)
    have qI_28 := RX_o cI_28
    have f10_I_28 : I_28 49 10 = I_21 49 10 := by rw [eI_28, up2_off _ _ _ (by decide)]
    have g28 : I_28 56 = up1 (up1 (Ia 56) 0 a) 1 b := by rw [eI_28, up2_row, g21]; rfl
    have h28 : I_28 55 = Ia 55 := by rw [eI_28, up2_off _ _ _ (by decide)]; exact h21
    have bkI_28 : BK9 Ia I_28 := by rw [eI_28]; exact BK9_up bkI_21 (by decide)
    have tkI_28 : TK9 Ia I_28 Ja Ja := by rw [eI_28]; exact TK9_up tkI_21 (by decide)
    refine ww_aload_n hX (pc := 29) dX11_feed_29 rfl ?_
    refine ww_getR hX (pc := 30) fX11_37 (by decide) (xs_49 hL) (xr_49_9 hL) dX11_feed_30 ?_
    refine ww_iconst hX (pc := 33) (x := 2) dX11_feed_33 rfl ?_
    refine ww_iload_n hX (pc := 34) dX11_feed_34 rfl ?_
    refine ww_iast hX (pc := 35) (xs_56 hL) (by decide) (by omega) (by omega) dX11_feed_35 ?_
    refine ww_nmH (fun I_35 eI_35 => ?_)
    have kI_35 : Ch [55, 56] [10] Ia I_35 := by rw [eI_35]; exact Ch_r kI_28 (by decide) (by decide)
    have cI_35 : RX I_35 := by rw [eI_35]; exact RX_r cI_28 (by decide)
    have qI_35 := RX_o cI_35
    have f10_I_35 : I_35 49 10 = I_28 49 10 := by rw [eI_35, up2_off _ _ _ (by decide)]
    have g35 : I_35 56 = up1 (up1 (up1 (Ia 56) 0 a) 1 b) 2 c := by rw [eI_35, up2_row, g28]; rfl
    have h35 : I_35 55 = Ia 55 := by rw [eI_35, up2_off _ _ _ (by decide)]; exact h28
    have bkI_35 : BK9 Ia I_35 := by rw [eI_35]; exact BK9_up bkI_28 (by decide)
    have tkI_35 : TK9 Ia I_35 Ja Ja := by rw [eI_35]; exact TK9_up tkI_28 (by decide)
    refine ww_aload_n hX (pc := 36) dX11_feed_36 rfl ?_
    refine ww_getR hX (pc := 37) fX11_37 (by decide) (xs_49 hL) (xr_49_9 hL) dX11_feed_37 ?_
    refine ww_iconst hX (pc := 40) (x := 3) dX11_feed_40 rfl ?_
    refine ww_iload hX (pc := 41) dX11_feed_41 rfl ?_
    refine ww_iast hX (pc := 43) (xs_56 hL) (by decide) (by omega) (by omega) dX11_feed_43 ?_
    refine ww_nmH (fun I_43 eI_43 => ?_)
    have kI_43 : Ch [55, 56] [10] Ia I_43 := by rw [eI_43]; exact Ch_r kI_35 (by decide) (by decide)
    have cI_43 : RX I_43 := by rw [eI_43]; exact RX_r cI_35 (by decide)
    have qI_43 := RX_o cI_43
    have f10_I_43 : I_43 49 10 = I_35 49 10 := by rw [eI_43, up2_off _ _ _ (by decide)]
    have g43 : I_43 56 = up1 (up1 (up1 (up1 (Ia 56) 0 a) 1 b) 2 c) 3 e := by rw [eI_43, up2_row, g35]; rfl
    have h43 : I_43 55 = Ia 55 := by rw [eI_43, up2_off _ _ _ (by decide)]; exact h35
    have bkI_43 : BK9 Ia I_43 := by rw [eI_43]; exact BK9_up bkI_35 (by decide)
    have tkI_43 : TK9 Ia I_43 Ja Ja := by rw [eI_43]; exact TK9_up tkI_35 (by decide)
    refine ww_aload_n hX (pc := 44) dX11_feed_44 rfl ?_
    refine ww_getR hX (pc := 45) fX11_37 (by decide) (xs_49 hL) (xr_49_9 hL) dX11_feed_45 ?_
    refine ww_iconst hX (pc := 48) (x := 4) dX11_feed_48 rfl ?_
    refine ww_iload hX (pc := 49) dX11_feed_49 rfl ?_
    refine ww_iast hX (pc := 51) (xs_56 hL) (by decide) (by omega) (by omega) dX11_feed_51 ?_
    refine ww_nmH (fun I_51 eI_51 => ?_)
    have kI_51 : Ch [55, 56] [10] Ia I_51 := by rw [eI_51]; exact Ch_r kI_43 (by decide) (by decide)
    have cI_51 : RX I_51 := by rw [eI_51]; exact RX_r cI_43 (by decide)
    have qI_51 := RX_o cI_51
    have f10_I_51 : I_51 49 10 = I_43 49 10 := by rw [eI_51, up2_off _ _ _ (by decide)]
    have g51 : I_51 56 = up1 (up1 (up1 (up1 (up1 (Ia 56) 0 a) 1 b) 2 c) 3 e) 4 g := by rw [eI_51, up2_row, g43]; rfl
    have h51 : I_51 55 = Ia 55 := by rw [eI_51, up2_off _ _ _ (by decide)]; exact h43
    have bkI_51 : BK9 Ia I_51 := by rw [eI_51]; exact BK9_up bkI_43 (by decide)
    have tkI_51 : TK9 Ia I_51 Ja Ja := by rw [eI_51]; exact TK9_up tkI_43 (by decide)
    refine ww_iconst hX (pc := 52) (x := 0) dX11_feed_52 rfl ?_
    refine ww_istore hX (pc := 53) (lv' := [some (kR (some 49)), some (kI a), some (kI b), some (kI c), some (kI e), some (kI g), some (kI 0)]) dX11_feed_53 (by decide) rfl rfl ?_
    have hl_55 : ∀ (n_55 : Nat) (i : Int) (I55 : aI1) (J55 : aI1), (20 - i).toNat = n_55 → (BK9 Ia I55 ∧ TK9 Ia I55 Ja J55 ∧ (Ch [55, 56] [10] Ia I55 ∧ RX I55 ∧ Kp 49 73 Ja J55 ∧ I55 49 10 = I_51 49 10 ∧ (0 ≤ i ∧ i ≤ 20) ∧ I55 56 = up1 (up1 (up1 (up1 (up1 (Ia 56) 0 a) 1 b) 2 c) 3 e) 4 g ∧ FIr (Ia 55) (I55 55) (Ia 49 10) a b c e g i)) → WW X 55 [some (kR (some 49)), some (kI a), some (kI b), some (kI c), some (kI e), some (kI g), some (kI i)] [] I55 J55 Ra Sa 0 0 := by
      intro n_55
      induction n_55 using Nat.strongRecOn with
      | ind n_55 ih_55 =>
        intro i I55 J55 hm_55 hv_55
        have hq_55 := Sh0_i hm_55
        clear hm_55
        obtain ⟨bkl55, tkl55, hv_55⟩ := hv_55
        obtain ⟨kI55, cI55, kJ55, f10_I55, hv, gj, hfi⟩ := hv_55
        have qI55 := RX_o cI55
        refine ww_iload hX (pc := 55) dX11_feed_55 rfl ?_
        refine ww_bipush hX (pc := 57) (x := 20) dX11_feed_57 (by decide) ?_
        refine ww_icmp_ge hX (pc := 59) (tgt := 101) dX11_feed_59 (by decide) (fun h_59 => ?_) (fun h_59 => ?_)
        · simp only [w32_mod] at h_59
          refine ww_aload_n hX (pc := 101) dX11_feed_101 rfl ?_
          refine ww_dupR hX (pc := 102) dX11_feed_102 ?_
          refine ww_getI hX (pc := 103) fX11_129 (by decide) (xs_49 hL) dX11_feed_103 ?_
          refine ww_bipush hX (pc := 106) (x := 20) dX11_feed_106 (by decide) ?_
          refine ww_iadd hX (pc := 108) dX11_feed_108 ?_
          refine ww_putI hX (pc := 109) (fun h9 => absurd h9 (by decide)) gX11_129 rfl (xs_49 hL) dX11_feed_109 ?_
          refine ww_nmH (fun I_109 eI_109 => ?_)
          have kI_109 : Ch [55, 56] [10] Ia I_109 := by rw [eI_109]; exact Ch_f kI55 (by decide)
          have cI_109 : RX I_109 := by rw [eI_109]; exact RX_10 cI55 (by omega) (by omega)
          have qI_109 := RX_o cI_109
          have z10 : I_109 49 10 = I55 49 10 + 20 := by rw [eI_109, up2_s]
          have h109 : I_109 55 = I55 55 := by rw [eI_109, up2_off _ _ _ (by decide)]
          have bkI_109 : BK9 Ia I_109 := by rw [eI_109]; exact BK9_f bkl55 (by decide)
          have tkI_109 : TK9 Ia I_109 Ja J55 := by rw [eI_109]; exact TK9_f tkl55 (by decide)
          refine ww_aload_n hX (pc := 112) dX11_feed_112 rfl ?_
          refine ww_getI hX (pc := 113) fX11_129 (by decide) (xs_49 hL) dX11_feed_113 ?_
          refine rI hX (pc := 116) hT (Nat.le_refl 0) (Nat.le_refl 0) dX11_feed_116 ?_
          exact ⟨⟨kI_109, kJ55, cI_109, (fun _ => ⟨by omega, by omega, by rw [h109]; exact ⟨hfi.1, fun k hk => hfi.2 k (by omega)⟩⟩), (fun h9 => absurd (by omega) h9)⟩, bkI_109, tkI_109⟩
        · simp only [w32_mod] at h_59
          refine ww_aload_n hX (pc := 62) dX11_feed_62 rfl ?_
          refine ww_getR hX (pc := 63) fX11_34 (by decide) (xs_49 hL) (xr_49_8 hL) dX11_feed_63 ?_
          refine ww_aload_n hX (pc := 66) dX11_feed_66 rfl ?_
          refine ww_getI hX (pc := 67) fX11_129 (by decide) (xs_49 hL) dX11_feed_67 ?_
          refine ww_iload hX (pc := 70) dX11_feed_70 rfl ?_
          refine ww_iadd hX (pc := 72) dX11_feed_72 ?_
          refine ww_aload_n hX (pc := 73) dX11_feed_73 rfl ?_
          refine ww_getR hX (pc := 74) fX11_37 (by decide) (xs_49 hL) (xr_49_9 hL) dX11_feed_74 ?_
          refine ww_iload hX (pc := 77) dX11_feed_77 rfl ?_
          refine ww_iconst hX (pc := 79) (x := 4) dX11_feed_79 rfl ?_
          refine ww_idiv hX (pc := 80) dX11_feed_80 (by decide) ?_
          have hd4 : i_div i 4 = i / 4 := i_div_v (by omega) (by omega) (by decide) (by decide)
          refine ww_iald hX (pc := 81) (xs_56 hL) (by decide) (by omega) (by omega) dX11_feed_81 ?_
          refine ww_bipush hX (pc := 82) (x := 24) dX11_feed_82 (by decide) ?_
          refine ww_bipush hX (pc := 84) (x := 8) dX11_feed_84 (by decide) ?_
          refine ww_iload hX (pc := 86) dX11_feed_86 rfl ?_
          refine ww_iconst hX (pc := 88) (x := 4) dX11_feed_88 rfl ?_
          refine ww_irem hX (pc := 89) dX11_feed_89 (by decide) ?_
          have hr4 : i_rem i 4 = i % 4 := i_rem_v (by omega) (by omega) (by decide) (by decide)
          refine ww_imul hX (pc := 90) dX11_feed_90 ?_
          refine ww_isub hX (pc := 91) dX11_feed_91 ?_
          refine ww_ishr hX (pc := 92) dX11_feed_92 ?_
          refine ww_i2b hX (pc := 93) dX11_feed_93 ?_
          refine ww_bast hX (pc := 94) (xs_55 hL) (by decide) (by omega) (by omega) dX11_feed_94 ?_
          refine ww_nmH (fun I_94 eI_94 => ?_)
          have kI_94 : Ch [55, 56] [10] Ia I_94 := by rw [eI_94]; exact Ch_r kI55 (by decide) (by decide)
          have cI_94 : RX I_94 := by rw [eI_94]; exact RX_r cI55 (by decide)
          have qI_94 := RX_o cI_94
          have f10_I_94 : I_94 49 10 = I55 49 10 := by rw [eI_94, up2_off _ _ _ (by decide)]
          have g94 : I_94 56 = up1 (up1 (up1 (up1 (up1 (Ia 56) 0 a) 1 b) 2 c) 3 e) 4 g := by rw [eI_94, up2_off _ _ _ (by decide)]; exact gj
          have t94 : FIr (Ia 55) (I_94 55) (Ia 49 10) a b c e g (i + 1) := by
            rw [eI_94, up2_row]
            refine FIr_s hfi (by omega) (by omega) (by omega) ?_
            rw [hd4, hr4, gj, U5_v _ _ _ _ _ _ (by omega), ib_ib]
          have bkI_94 : BK9 Ia I_94 := by rw [eI_94]; exact BK9_up bkl55 (by decide)
          have tkI_94 : TK9 Ia I_94 Ja J55 := by rw [eI_94]; exact TK9_up tkl55 (by decide)
          refine ww_iinc hX (pc := 95) (lv' := [some (kR (some 49)), some (kI a), some (kI b), some (kI c), some (kI e), some (kI g), some (kI (i + 1))]) dX11_feed_95 rfl (by decide) rfl rfl ?_
          refine ww_goto hX (pc := 98) (tgt := 55) dX11_feed_98 (by decide) ?_
          exact ih_55 _ (by have hm9 := Sh0_e hq_55; omega) (i + 1) I_94 J55 rfl ⟨bkI_94, tkI_94, ⟨kI_94, cI_94, kJ55, by omega, ⟨by omega, by omega⟩, g94, t94⟩⟩
    exact hl_55 _ 0 I_51 Ja rfl ⟨bkI_51, tkI_51, ⟨kI_51, cI_51, (Kp_rf (a := 49) (b := 73)), rfl, ⟨by omega, by omega⟩, g51, by rw [h51]; exact FIr_0⟩⟩
  · simp only [w32_mod] at h_10
    refine ww_iconst hX (pc := 13) (x := (-1)) dX11_feed_13 rfl ?_
    refine rI hX (pc := 14) hT (Nat.le_refl 0) (Nat.le_refl 0) dX11_feed_14 ?_
    exact ⟨⟨Ch_rf, (Kp_rf (a := 49) (b := 73)), hQ, (fun h9 => absurd h9 (by omega)), (fun _ => ⟨rfl, rfl, rfl⟩)⟩, BK9_rf, TK9_rf⟩
set_option maxHeartbeats 4000000 in
set_option maxRecDepth 20000 in
theorem c9_X11_end (l0 : Launch) {Ia Ja : aI1} {Ra : aR1} {Sa : aS1} (hL : LY Ra Sa) (hQ : RX Ia) {a : Int} (ha0 : -2147483648 ≤ a) (ha1 : a < 2147483648)  : CT l0 1 0 0 mX11_end [kR (some 49), kI a] Ia Ja Ra Sa (cI (fun x I' J' => (Ch [] [10] Ia I' ∧ Kp 49 73 Ja J' ∧ RX I' ∧ ((0 ≤ a ∧ a ≤ Ia 49 10) → x = a ∧ I' 49 10 = a) ∧ (¬ (0 ≤ a ∧ a ≤ Ia 49 10) → x = -1 ∧ I' 49 10 = Ia 49 10)) ∧ QK9 Ia I' Ja J') Ra Sa) := by
  refine ct_in pn_X11 (Nat.le_of_ble_eq_true rfl) (fun X hX hT hIn => ?_)
  have hX : aK l0 X cX11_end 2 RX11 (some .int) 1 0 0 := hX
  change WW X 0 [some (kR (some 49)), some (kI a)] [] Ia Ja Ra Sa 0 0
  have qIa := RX_o hQ
  refine ww_iload_n hX (pc := 0) dX11_end_0 rfl ?_
  refine ww_iconst hX (pc := 1) (x := 0) dX11_end_1 rfl ?_
  refine ww_aload_n hX (pc := 2) dX11_end_2 rfl ?_
  refine ww_getI hX (pc := 3) fX11_129 (by decide) (xs_49 hL) dX11_end_3 ?_
  refine sI3 hX (pc := 6) sX11_101 (c_X11_lies l0 (by omega) (by omega) (by omega) (by omega) (by omega) (by omega)) (by decide) (Nat.le_refl 0) (Nat.le_refl 0) (Nat.le_of_ble_eq_true rfl) dX11_end_6 (fun x_6 I_6 J_6 h_6 => ?_)
  obtain ⟨rfl, rfl, h_6⟩ := h_6
  refine ww_if_ne hX (pc := 9) (tgt := 14) dX11_end_9 (by decide) (fun h_9 => ?_) (fun h_9 => ?_)
  · simp only [w32_mod] at h_9
    have k_6 := h_6.2.mp (by omega)
    clear h_6
    refine ww_aload_n hX (pc := 14) dX11_end_14 rfl ?_
    refine ww_iload_n hX (pc := 15) dX11_end_15 rfl ?_
    refine ww_putI hX (pc := 16) (fun h9 => absurd h9 (by decide)) gX11_129 rfl (xs_49 hL) dX11_end_16 ?_
    refine ww_nmH (fun I_16 eI_16 => ?_)
    have kI_16 : Ch [] [10] Ia I_16 := by rw [eI_16]; exact Ch_f Ch_rf (by decide)
    have cI_16 : RX I_16 := by rw [eI_16]; exact RX_10 hQ (by omega) (by omega)
    have qI_16 := RX_o cI_16
    have r304_I_16 : I_16 51 304 = Ia 51 304 := by rw [eI_16, up2_off _ _ _ (by decide)]
    have r305_I_16 : I_16 51 305 = Ia 51 305 := by rw [eI_16, up2_off _ _ _ (by decide)]
    have rf_I_16 : FU (I_16 51 304) = FU (Ia 51 304) := by rw [r304_I_16]
    have z10 : I_16 49 10 = a := by rw [eI_16, up2_s]
    have bkI_16 : BK9 Ia I_16 := by rw [eI_16]; exact BK9_f BK9_rf (by decide)
    have tkI_16 : TK9 Ia I_16 Ja Ja := by rw [eI_16]; exact TK9_f TK9_rf (by decide)
    refine ww_iload_n hX (pc := 19) dX11_end_19 rfl ?_
    refine rI hX (pc := 20) hT (Nat.le_refl 0) (Nat.le_refl 0) dX11_end_20 ?_
    exact ⟨⟨kI_16, (Kp_rf (a := 49) (b := 73)), cI_16, by omega, by omega⟩, bkI_16, tkI_16⟩
  · simp only [w32_mod] at h_9
    refine ww_iconst hX (pc := 12) (x := (-1)) dX11_end_12 rfl ?_
    refine rI hX (pc := 13) hT (Nat.le_refl 0) (Nat.le_refl 0) dX11_end_13 ?_
    exact ⟨⟨Ch_rf, (Kp_rf (a := 49) (b := 73)), hQ, by omega, by omega⟩, BK9_rf, TK9_rf⟩
set_option maxHeartbeats 4000000 in
set_option maxRecDepth 20000 in
theorem c9_X11_unwant (l0 : Launch) {Ia Ja : aI1} {Ra : aR1} {Sa : aS1} (hL : LY Ra Sa) (hQ : RX Ia)  : CT l0 0 0 0 mX11_unwant [kR (some 49)] Ia Ja Ra Sa (cI (fun x I' J' => (Ch [51] [1] Ia I' ∧ Kp 49 73 Ja J' ∧ RX I' ∧ x = Ia 51 309 ∧ I' 51 = up1 (Ia 51) 309 0) ∧ VQ9 Ia I') Ra Sa) := by
  refine ct_in pn_X11 (Nat.le_of_ble_eq_true rfl) (fun X hX hT hIn => ?_)
  have hX : aK l0 X cX11_unwant 2 RX11 (some .int) 0 0 0 := hX
  change WW X 0 [some (kR (some 49)), none] [] Ia Ja Ra Sa 0 0
  have qIa := RX_o hQ
  refine ww_aload_n hX (pc := 0) dX11_unwant_0 rfl ?_
  refine ww_getR hX (pc := 1) fX11_20 (by decide) (xs_49 hL) (xr_49_3 hL) dX11_unwant_1 ?_
  refine ww_sipush hX (pc := 4) (x := 309) dX11_unwant_4 (by decide) ?_
  refine ww_iald hX (pc := 7) (xs_51 hL) (by decide) (by omega) (by omega) dX11_unwant_7 ?_
  refine ww_toI (b := Ia 51 309) rfl ?_
  refine ww_nmI (fun v_8 hv_8 => ?_)
  refine ww_istore_n hX (pc := 8) (lv' := [some (kR (some 49)), some (kI v_8)]) dX11_unwant_8 (by decide) rfl rfl ?_
  refine ww_aload_n hX (pc := 9) dX11_unwant_9 rfl ?_
  refine ww_getR hX (pc := 10) fX11_20 (by decide) (xs_49 hL) (xr_49_3 hL) dX11_unwant_10 ?_
  refine ww_sipush hX (pc := 13) (x := 309) dX11_unwant_13 (by decide) ?_
  refine ww_iconst hX (pc := 16) (x := 0) dX11_unwant_16 rfl ?_
  refine ww_iast hX (pc := 17) (xs_51 hL) (by decide) (by omega) (by omega) dX11_unwant_17 ?_
  refine ww_nmH (fun I_17 eI_17 => ?_)
  have kI_17 : Ch [51] [1] Ia I_17 := by rw [eI_17]; exact Ch_r Ch_rf (by decide) (by decide)
  have cI_17 : RX I_17 := by rw [eI_17]; exact RX_309 hQ (by omega) (by omega)
  have qI_17 := RX_o cI_17
  have g17 : I_17 51 = up1 (Ia 51) 309 0 := by rw [eI_17, up2_row]; rfl
  have bkI_17 : BK9 Ia I_17 := by rw [eI_17]; exact BK9_up BK9_rf (by decide)
  have tkI_17 : TK9 Ia I_17 Ja Ja := by rw [eI_17]; exact TK9_up TK9_rf (by decide)
  refine ww_aload_n hX (pc := 18) dX11_unwant_18 rfl ?_
  refine ww_dupR hX (pc := 19) dX11_unwant_19 ?_
  refine ww_getI hX (pc := 20) fX11_11 (by decide) (xs_49 hL) dX11_unwant_20 ?_
  refine ww_iconst hX (pc := 23) (x := 1) dX11_unwant_23 rfl ?_
  refine ww_iadd hX (pc := 24) dX11_unwant_24 ?_
  refine ww_putI hX (pc := 25) (fun h9 => absurd h9 (by decide)) gX11_11 rfl (xs_49 hL) dX11_unwant_25 ?_
  refine ww_nmH (fun I_25 eI_25 => ?_)
  have kI_25 : Ch [51] [1] Ia I_25 := by rw [eI_25]; exact Ch_f kI_17 (by decide)
  have cI_25 : RX I_25 := by rw [eI_25]; exact RX_f cI_17 (by decide)
  have qI_25 := RX_o cI_25
  have r309_I_25 : I_25 51 309 = I_17 51 309 := by rw [eI_25, up2_off _ _ _ (by decide)]
  have g25 : I_25 51 = I_17 51 := by rw [eI_25, up2_off _ _ _ (by decide)]
  have vqI_25 : VQ9 Ia I_25 := VQ9_of bkI_17 eI_25
  refine ww_iload_n hX (pc := 28) dX11_unwant_28 rfl ?_
  refine rI hX (pc := 29) hT (Nat.le_refl 0) (Nat.le_refl 0) dX11_unwant_29 ?_
  exact ⟨⟨kI_25, (Kp_rf (a := 49) (b := 73)), cI_25, hv_8, g25.trans g17⟩, vqI_25⟩
set_option maxHeartbeats 4000000 in
set_option maxRecDepth 20000 in
theorem c9_X11_want (l0 : Launch) {Ia Ja : aI1} {Ra : aR1} {Sa : aS1} (hL : LY Ra Sa) (hQ : RX Ia) {a : Int} (ha0 : -2147483648 ≤ a) (ha1 : a < 2147483648)  : CT l0 2 0 0 mX11_want [kR (some 49), kI a] Ia Ja Ra Sa (cI (fun x I' J' => (Ch [50, 51] [0, 1] Ia I' ∧ Kp 49 73 Ja J' ∧ RX I' ∧ (¬ (0 ≤ a ∧ a < Ia 51 305) → x = -1 ∧ I' 51 = Ia 51) ∧ ((0 ≤ a ∧ a < Ia 51 305) → (16 ≤ Ia 51 309 → x = -5 ∧ I' 51 = Ia 51) ∧ (Ia 51 309 < 16 → x = Ia 51 309 + 1 ∧ I' 51 = up1 (up1 (Ia 51) (288 + (Ia 51 309).toNat) a) 309 (Ia 51 309 + 1)))) ∧ RGQ9 x Ia I' Ja J') Ra Sa) := by
  refine ct_in pn_X11 (Nat.le_of_ble_eq_true rfl) (fun X hX hT hIn => ?_)
  have hX : aK l0 X cX11_want 2 RX11 (some .int) 2 0 0 := hX
  change WW X 0 [some (kR (some 49)), some (kI a)] [] Ia Ja Ra Sa 0 0
  have qIa := RX_o hQ
  refine ww_aload_n hX (pc := 0) dX11_want_0 rfl ?_
  refine ww_iload_n hX (pc := 1) dX11_want_1 rfl ?_
  refine vI1 hX (pc := 2) sX11_123 (xs_49 hL) (c_X11_isNews l0 hL hQ (by omega) (by omega)) (by decide) (Nat.le_refl 0) (Nat.le_refl 0) (Nat.le_of_ble_eq_true rfl) dX11_want_2 (fun x_2 I_2 J_2 h_2 => ?_)
  obtain ⟨rfl, rfl, h_2⟩ := h_2
  refine ww_if_ne hX (pc := 5) (tgt := 14) dX11_want_5 (by decide) (fun h_5 => ?_) (fun h_5 => ?_)
  · simp only [w32_mod] at h_5
    have k_2 := h_2.2.mp (by omega)
    clear h_2
    refine ww_aload_n hX (pc := 14) dX11_want_14 rfl ?_
    refine ww_getR hX (pc := 15) fX11_20 (by decide) (xs_49 hL) (xr_49_3 hL) dX11_want_15 ?_
    refine ww_sipush hX (pc := 18) (x := 309) dX11_want_18 (by decide) ?_
    refine ww_iald hX (pc := 21) (xs_51 hL) (by decide) (by omega) (by omega) dX11_want_21 ?_
    refine ww_toI (b := Ia 51 309) rfl ?_
    refine ww_bipush hX (pc := 22) (x := 16) dX11_want_22 (by decide) ?_
    refine ww_icmp_ne hX (pc := 24) (tgt := 34) dX11_want_24 (by decide) (fun h_24 => ?_) (fun h_24 => ?_)
    · simp only [w32_mod] at h_24
      refine ww_aload_n hX (pc := 34) dX11_want_34 rfl ?_
      refine ww_getR hX (pc := 35) fX11_20 (by decide) (xs_49 hL) (xr_49_3 hL) dX11_want_35 ?_
      refine ww_sipush hX (pc := 38) (x := 288) dX11_want_38 (by decide) ?_
      refine ww_aload_n hX (pc := 41) dX11_want_41 rfl ?_
      refine ww_getR hX (pc := 42) fX11_20 (by decide) (xs_49 hL) (xr_49_3 hL) dX11_want_42 ?_
      refine ww_sipush hX (pc := 45) (x := 309) dX11_want_45 (by decide) ?_
      refine ww_iald hX (pc := 48) (xs_51 hL) (by decide) (by omega) (by omega) dX11_want_48 ?_
      refine ww_toI (b := Ia 51 309) rfl ?_
      refine ww_iadd hX (pc := 49) dX11_want_49 ?_
      refine ww_iload_n hX (pc := 50) dX11_want_50 rfl ?_
      refine ww_iast hX (pc := 51) (xs_51 hL) (by decide) (by omega) (by omega) dX11_want_51 ?_
      refine ww_nmH (fun I_51 eI_51 => ?_)
      have kI_51 : Ch [50, 51] [0, 1] Ia I_51 := by rw [eI_51]; exact Ch_r Ch_rf (by decide) (by decide)
      have cI_51 : RX I_51 := by rw [eI_51]; exact RX_lo hQ (by omega)
      have qI_51 := RX_o cI_51
      have r304_I_51 : I_51 51 304 = Ia 51 304 := by rw [eI_51, up2_n _ _ (Or.inr (by omega))]
      have r305_I_51 : I_51 51 305 = Ia 51 305 := by rw [eI_51, up2_n _ _ (Or.inr (by omega))]
      have r309_I_51 : I_51 51 309 = Ia 51 309 := by rw [eI_51, up2_n _ _ (Or.inr (by omega))]
      have rf_I_51 : FU (I_51 51 304) = FU (Ia 51 304) := by rw [r304_I_51]
      have g51 : I_51 51 = up1 (Ia 51) (288 + (Ia 51 309).toNat) a := by rw [eI_51, up2_row]; exact congrArg (fun z => up1 (Ia 51) z a) (by omega)
      have bkI_51 : BK9 Ia I_51 := by rw [eI_51]; exact BK9_up BK9_rf (by decide)
      have tkI_51 : TK9 Ia I_51 Ja Ja := by rw [eI_51]; exact TK9_up TK9_rf (by decide)
      refine ww_aload_n hX (pc := 52) dX11_want_52 rfl ?_
      refine ww_getR hX (pc := 53) fX11_20 (by decide) (xs_49 hL) (xr_49_3 hL) dX11_want_53 ?_
      refine ww_sipush hX (pc := 56) (x := 309) dX11_want_56 (by decide) ?_
      refine ww_dup2 hX (pc := 59) dX11_want_59 ?_
      refine ww_iald hX (pc := 60) (xs_51 hL) (by decide) (by omega) (by omega) dX11_want_60 ?_
      refine ww_toI (b := I_51 51 309) rfl ?_
      refine ww_iconst hX (pc := 61) (x := 1) dX11_want_61 rfl ?_
      refine ww_iadd hX (pc := 62) dX11_want_62 ?_
      refine ww_iast hX (pc := 63) (xs_51 hL) (by decide) (by omega) (by omega) dX11_want_63 ?_
      refine ww_nmH (fun I_63 eI_63 => ?_)
      have kI_63 : Ch [50, 51] [0, 1] Ia I_63 := by rw [eI_63]; exact Ch_r kI_51 (by decide) (by decide)
      have cI_63 : RX I_63 := by rw [eI_63]; exact RX_309 cI_51 (by omega) (by omega)
      have qI_63 := RX_o cI_63
      have r304_I_63 : I_63 51 304 = I_51 51 304 := by rw [eI_63, up2_n _ _ (Or.inr (by decide))]
      have r305_I_63 : I_63 51 305 = I_51 51 305 := by rw [eI_63, up2_n _ _ (Or.inr (by decide))]
      have rf_I_63 : FU (I_63 51 304) = FU (I_51 51 304) := by rw [r304_I_63]
      have g63 : I_63 51 = up1 (up1 (Ia 51) (288 + (Ia 51 309).toNat) a) 309 (Ia 51 309 + 1) := by
        rw [eI_63, up2_row, g51]
        exact congrArg (fun z => up1 (up1 (Ia 51) (288 + (Ia 51 309).toNat) a) 309 (z + 1)) (by rw [← g51]; exact r309_I_51)
      have bkI_63 : BK9 Ia I_63 := by rw [eI_63]; exact BK9_up bkI_51 (by decide)
      have tkI_63 : TK9 Ia I_63 Ja Ja := by rw [eI_63]; exact TK9_up tkI_51 (by decide)
      refine ww_aload_n hX (pc := 64) dX11_want_64 rfl ?_
      refine ww_aload_n hX (pc := 65) dX11_want_65 rfl ?_
      refine ww_getR hX (pc := 66) fX11_20 (by decide) (xs_49 hL) (xr_49_3 hL) dX11_want_66 ?_
      refine ww_sipush hX (pc := 69) (x := 309) dX11_want_69 (by decide) ?_
      refine ww_iald hX (pc := 72) (xs_51 hL) (by decide) (by omega) (by omega) dX11_want_72 ?_
      refine ww_toI (b := I_63 51 309) rfl ?_
      refine vI1 hX (pc := 73) sX11_109 (xs_49 hL) (n9_X11_good l0 hL cI_63) (by decide) (Nat.le_refl 0) (Nat.le_refl 0) (Nat.le_of_ble_eq_true rfl) dX11_want_73 (fun x_73 I_73 J_73 h_73 => ?_)
      obtain ⟨h_73, qxI_73⟩ := h_73
      have kJ_73 : Kp 49 73 Ja J_73 := Kp_tr (Kp_rf (a := 49) (b := 73)) h_73.2.1
      have kI_73 : Ch [50, 51] [0, 1] Ia I_73 := Ch_tr kI_63 (Ch_wd h_73.1 (by decide) (by decide))
      have cI_73 : RX I_73 := h_73.2.2.1
      have qI_73 := RX_o cI_73
      have r304_I_73 : I_73 51 304 = I_63 51 304 := by rw [h_73.1.1 51 (by decide) (by decide)]
      have r305_I_73 : I_73 51 305 = I_63 51 305 := by rw [h_73.1.1 51 (by decide) (by decide)]
      have r309_I_73 : I_73 51 309 = I_63 51 309 := by rw [h_73.1.1 51 (by decide) (by decide)]
      have rf_I_73 : FU (I_73 51 304) = FU (I_63 51 304) := by rw [r304_I_73]
      have xv73 := h_73.2.2.2
      refine rI hX (pc := 76) hT (Nat.le_refl 0) (Nat.le_refl 0) dX11_want_76 ?_
      exact ⟨⟨kI_73, kJ_73, cI_73, (fun h9 => absurd (by omega) h9), (fun _ => ⟨(fun h9 => absurd h9 (by omega)), (fun _ => ⟨by rw [xv73, g63]; exact up1_s _ _ _, by rw [h_73.1.1 51 (by decide) (by decide), g63]⟩)⟩)⟩, ⟨(fun h9 => absurd h9 (by have := h_73.2.2.2; omega)), (fun _ => GQ9_tr bkI_63 qxI_73)⟩⟩
    · simp only [w32_mod] at h_24
      refine ww_aload_n hX (pc := 27) dX11_want_27 rfl ?_
      refine ww_bipush hX (pc := 28) (x := (-5)) dX11_want_28 (by decide) ?_
      refine vI1 hX (pc := 30) sX11_105 (xs_49 hL) (n9_X11_refuses l0 hL hQ (by omega) (by omega)) (by decide) (Nat.le_refl 0) (Nat.le_refl 0) (Nat.le_of_ble_eq_true rfl) dX11_want_30 (fun x_30 I_30 J_30 h_30 => ?_)
      obtain ⟨h_30, qxI_30⟩ := h_30
      have kJ_30 : Kp 49 73 Ja J_30 := Kp_tr (Kp_rf (a := 49) (b := 73)) h_30.2.1
      have kI_30 : Ch [50, 51] [0, 1] Ia I_30 := Ch_tr Ch_rf (Ch_wd h_30.1 (by decide) (by decide))
      have cI_30 : RX I_30 := h_30.2.2.1
      have qI_30 := RX_o cI_30
      have r304_I_30 : I_30 51 304 = Ia 51 304 := by rw [h_30.1.1 51 (by decide) (by decide)]
      have r305_I_30 : I_30 51 305 = Ia 51 305 := by rw [h_30.1.1 51 (by decide) (by decide)]
      have r309_I_30 : I_30 51 309 = Ia 51 309 := by rw [h_30.1.1 51 (by decide) (by decide)]
      have rf_I_30 : FU (I_30 51 304) = FU (Ia 51 304) := by rw [r304_I_30]
      have xv30 := h_30.2.2.2
      refine rI hX (pc := 33) hT (Nat.le_refl 0) (Nat.le_refl 0) dX11_want_33 ?_
      exact ⟨⟨kI_30, kJ_30, cI_30, (fun h9 => absurd (by omega) h9), (fun _ => ⟨(fun _ => ⟨xv30, h_30.1.1 51 (by decide) (by decide)⟩), (fun h9 => absurd h9 (by omega))⟩)⟩, ⟨(fun _ => RQ9_tr BK9_rf TK9_rf qxI_30), (fun h9 => absurd h9 (by have := h_30.2.2.2; omega))⟩⟩
  · simp only [w32_mod] at h_5
    refine ww_aload_n hX (pc := 8) dX11_want_8 rfl ?_
    refine ww_iconst hX (pc := 9) (x := (-1)) dX11_want_9 rfl ?_
    refine vI1 hX (pc := 10) sX11_105 (xs_49 hL) (n9_X11_refuses l0 hL hQ (by omega) (by omega)) (by decide) (Nat.le_refl 0) (Nat.le_refl 0) (Nat.le_of_ble_eq_true rfl) dX11_want_10 (fun x_10 I_10 J_10 h_10 => ?_)
    obtain ⟨h_10, qxI_10⟩ := h_10
    have kJ_10 : Kp 49 73 Ja J_10 := Kp_tr (Kp_rf (a := 49) (b := 73)) h_10.2.1
    have kI_10 : Ch [50, 51] [0, 1] Ia I_10 := Ch_tr Ch_rf (Ch_wd h_10.1 (by decide) (by decide))
    have cI_10 : RX I_10 := h_10.2.2.1
    have qI_10 := RX_o cI_10
    have r304_I_10 : I_10 51 304 = Ia 51 304 := by rw [h_10.1.1 51 (by decide) (by decide)]
    have r305_I_10 : I_10 51 305 = Ia 51 305 := by rw [h_10.1.1 51 (by decide) (by decide)]
    have r309_I_10 : I_10 51 309 = Ia 51 309 := by rw [h_10.1.1 51 (by decide) (by decide)]
    have rf_I_10 : FU (I_10 51 304) = FU (Ia 51 304) := by rw [r304_I_10]
    have xv10 := h_10.2.2.2
    refine rI hX (pc := 13) hT (Nat.le_refl 0) (Nat.le_refl 0) dX11_want_13 ?_
    exact ⟨⟨kI_10, kJ_10, cI_10, (fun _ => ⟨xv10, h_10.1.1 51 (by decide) (by decide)⟩), (fun h9 => absurd h9 (by omega))⟩, ⟨(fun _ => RQ9_tr BK9_rf TK9_rf qxI_10), (fun h9 => absurd h9 (by have := h_10.2.2.2; omega))⟩⟩
set_option maxHeartbeats 4000000 in
set_option maxRecDepth 20000 in
theorem c9_X11_trail (l0 : Launch) {Ia Ja : aI1} {Ra : aR1} {Sa : aS1} (hL : LY Ra Sa) (hQ : RX Ia)  : CT l0 1 0 0 mX11_trail [kR (some 49)] Ia Ja Ra Sa (cI (fun x I' J' => (Ch [50, 67] [0, 1, 10, 33] Ia I' ∧ Kp 49 73 Ja J' ∧ RX I' ∧ I' 49 10 = 0 ∧ (Ia 49 10 = 0 → x = -6 ∧ I' 49 33 = Ia 49 33 ∧ I' 67 = Ia 67) ∧ (¬ Ia 49 10 = 0 → x = min (Ia 49 10) 30 ∧ I' 49 33 = min (Ia 49 10) 30 ∧ (∀ j : Nat, (j : Int) < min (Ia 49 10) 30 → I' 67 j = i_and (Ia 55 j) 255))) ∧ RGQ9 x Ia I' Ja J') Ra Sa) := by
  refine ct_in pn_X11 (Nat.le_of_ble_eq_true rfl) (fun X hX hT hIn => ?_)
  have hX : aK l0 X cX11_trail 3 RX11 (some .int) 1 0 0 := hX
  change WW X 0 [some (kR (some 49)), none, none] [] Ia Ja Ra Sa 0 0
  have qIa := RX_o hQ
  refine ww_aload_n hX (pc := 0) dX11_trail_0 rfl ?_
  refine ww_getI hX (pc := 1) fX11_129 (by decide) (xs_49 hL) dX11_trail_1 ?_
  refine ww_nmI (fun v_4 hv_4 => ?_)
  refine ww_istore_n hX (pc := 4) (lv' := [some (kR (some 49)), some (kI v_4), none]) dX11_trail_4 (by decide) rfl rfl ?_
  refine ww_aload_n hX (pc := 5) dX11_trail_5 rfl ?_
  refine ww_iconst hX (pc := 6) (x := 0) dX11_trail_6 rfl ?_
  refine ww_putI hX (pc := 7) (fun h9 => absurd h9 (by decide)) gX11_129 rfl (xs_49 hL) dX11_trail_7 ?_
  refine ww_nmH (fun I_7 eI_7 => ?_)
  have kI_7 : Ch [50, 67] [0, 1, 10, 33] Ia I_7 := by rw [eI_7]; exact Ch_f Ch_rf (by decide)
  have cI_7 : RX I_7 := by rw [eI_7]; exact RX_10 hQ (by omega) (by omega)
  have qI_7 := RX_o cI_7
  have r304_I_7 : I_7 51 304 = Ia 51 304 := by rw [eI_7, up2_off _ _ _ (by decide)]
  have r305_I_7 : I_7 51 305 = Ia 51 305 := by rw [eI_7, up2_off _ _ _ (by decide)]
  have f33_I_7 : I_7 49 33 = Ia 49 33 := by rw [eI_7, up2_n _ _ (Or.inr (by decide))]
  have rf_I_7 : FU (I_7 51 304) = FU (Ia 51 304) := by rw [r304_I_7]
  have z10 : I_7 49 10 = 0 := by rw [eI_7, up2_s]
  have w7 : I_7 55 = Ia 55 := by rw [eI_7, up2_off _ _ _ (by decide)]
  have bkI_7 : BK9 Ia I_7 := by rw [eI_7]; exact BK9_f BK9_rf (by decide)
  have tkI_7 : TK9 Ia I_7 Ja Ja := by rw [eI_7]; exact TK9_f TK9_rf (by decide)
  refine ww_iload_n hX (pc := 10) dX11_trail_10 rfl ?_
  refine ww_if_ne hX (pc := 11) (tgt := 21) dX11_trail_11 (by decide) (fun h_11 => ?_) (fun h_11 => ?_)
  · simp only [w32_mod] at h_11
    refine ww_aload_n hX (pc := 21) dX11_trail_21 rfl ?_
    refine ww_iload_n hX (pc := 22) dX11_trail_22 rfl ?_
    refine ww_bipush hX (pc := 23) (x := 30) dX11_trail_23 (by decide) ?_
    refine ww_icmp_ge hX (pc := 25) (tgt := 32) dX11_trail_25 (by decide) (fun h_25 => ?_) (fun h_25 => ?_)
    · simp only [w32_mod] at h_25
      refine ww_bipush hX (pc := 32) (x := 30) dX11_trail_32 (by decide) ?_
      refine ww_putI hX (pc := 34) (fun h9 => absurd h9 (by decide)) gX11_334 rfl (xs_49 hL) dX11_trail_34 ?_
      refine ww_nmH (fun I_34 eI_34 => ?_)
      have kI_34 : Ch [50, 67] [0, 1, 10, 33] Ia I_34 := by rw [eI_34]; exact Ch_f kI_7 (by decide)
      have cI_34 : RX I_34 := by rw [eI_34]; exact RX_33 cI_7 (by omega) (by omega)
      have qI_34 := RX_o cI_34
      have r304_I_34 : I_34 51 304 = I_7 51 304 := by rw [eI_34, up2_off _ _ _ (by decide)]
      have r305_I_34 : I_34 51 305 = I_7 51 305 := by rw [eI_34, up2_off _ _ _ (by decide)]
      have f10_I_34 : I_34 49 10 = I_7 49 10 := by rw [eI_34, up2_n _ _ (Or.inr (by decide))]
      have rf_I_34 : FU (I_34 51 304) = FU (I_7 51 304) := by rw [r304_I_34]
      have z33 : I_34 49 33 = 30 := by rw [eI_34, up2_s]
      have w34 : I_34 55 = Ia 55 := by rw [eI_34, up2_off _ _ _ (by decide)]; exact w7
      have bkI_34 : BK9 Ia I_34 := by rw [eI_34]; exact BK9_f bkI_7 (by decide)
      have tkI_34 : TK9 Ia I_34 Ja Ja := by rw [eI_34]; exact TK9_f tkI_7 (by decide)
      refine ww_iconst hX (pc := 37) (x := 0) dX11_trail_37 rfl ?_
      refine ww_istore_n hX (pc := 38) (lv' := [some (kR (some 49)), some (kI v_4), some (kI 0)]) dX11_trail_38 (by decide) rfl rfl ?_
      have hl_39 : ∀ (n_39 : Nat) (i : Int) (I39 : aI1) (J39 : aI1), (30 - i).toNat = n_39 → (BK9 Ia I39 ∧ TK9 Ia I39 Ja J39 ∧ (Ch [50, 67] [0, 1, 10, 33] Ia I39 ∧ RX I39 ∧ Kp 49 73 Ja J39 ∧ I39 51 304 = I_34 51 304 ∧ I39 51 305 = I_34 51 305 ∧ I39 49 10 = I_34 49 10 ∧ I39 49 33 = I_34 49 33 ∧ (0 ≤ i ∧ i ≤ 30) ∧ I39 55 = Ia 55 ∧ (∀ j : Nat, (j : Int) < i → I39 67 j = i_and (Ia 55 j) 255))) → WW X 39 [some (kR (some 49)), some (kI v_4), some (kI i)] [] I39 J39 Ra Sa 0 0 := by
        intro n_39
        induction n_39 using Nat.strongRecOn with
        | ind n_39 ih_39 =>
          intro i I39 J39 hm_39 hv_39
          have hq_39 := Sh0_i hm_39
          clear hm_39
          obtain ⟨bkl39, tkl39, hv_39⟩ := hv_39
          obtain ⟨kI39, cI39, kJ39, r304_I39, r305_I39, f10_I39, f33_I39, hv, wj, htj⟩ := hv_39
          have qI39 := RX_o cI39
          have rf_I39 : FU (I39 51 304) = FU (I_34 51 304) := by rw [r304_I39]
          refine ww_iload_n hX (pc := 39) dX11_trail_39 rfl ?_
          refine ww_aload_n hX (pc := 40) dX11_trail_40 rfl ?_
          refine ww_getI hX (pc := 41) fX11_334 (by decide) (xs_49 hL) dX11_trail_41 ?_
          refine ww_icmp_ge hX (pc := 44) (tgt := 69) dX11_trail_44 (by decide) (fun h_44 => ?_) (fun h_44 => ?_)
          · simp only [w32_mod] at h_44
            refine ww_aload_n hX (pc := 69) dX11_trail_69 rfl ?_
            refine ww_aload_n hX (pc := 70) dX11_trail_70 rfl ?_
            refine ww_getI hX (pc := 71) fX11_334 (by decide) (xs_49 hL) dX11_trail_71 ?_
            refine vI1 hX (pc := 74) sX11_109 (xs_49 hL) (n9_X11_good l0 hL cI39) (by decide) (Nat.le_refl 0) (Nat.le_refl 0) (Nat.le_of_ble_eq_true rfl) dX11_trail_74 (fun x_74 I_74 J_74 h_74 => ?_)
            obtain ⟨h_74, qxI_74⟩ := h_74
            have kJ_74 : Kp 49 73 Ja J_74 := Kp_tr kJ39 h_74.2.1
            have kI_74 : Ch [50, 67] [0, 1, 10, 33] Ia I_74 := Ch_tr kI39 (Ch_wd h_74.1 (by decide) (by decide))
            have cI_74 : RX I_74 := h_74.2.2.1
            have qI_74 := RX_o cI_74
            have r304_I_74 : I_74 51 304 = I39 51 304 := by rw [h_74.1.1 51 (by decide) (by decide)]
            have r305_I_74 : I_74 51 305 = I39 51 305 := by rw [h_74.1.1 51 (by decide) (by decide)]
            have f10_I_74 : I_74 49 10 = I39 49 10 := h_74.1.2 10 (by decide)
            have f33_I_74 : I_74 49 33 = I39 49 33 := h_74.1.2 33 (by decide)
            have rf_I_74 : FU (I_74 51 304) = FU (I39 51 304) := by rw [r304_I_74]
            have xv74 := h_74.2.2.2
            refine rI hX (pc := 77) hT (Nat.le_refl 0) (Nat.le_refl 0) dX11_trail_77 ?_
            exact ⟨⟨kI_74, kJ_74, cI_74, by omega, (fun h9 => absurd h9 (by omega)), (fun _ => ⟨by omega, by omega, fun j hj => by rw [h_74.1.1 67 (by decide) (by decide)]; exact htj j (by omega)⟩)⟩, ⟨(fun h9 => absurd h9 (by have := h_74.2.2.2; omega)), (fun _ => GQ9_tr bkl39 qxI_74)⟩⟩
          · simp only [w32_mod] at h_44
            refine ww_aload_n hX (pc := 47) dX11_trail_47 rfl ?_
            refine ww_getR hX (pc := 48) fX11_77 (by decide) (xs_49 hL) (xr_49_32 hL) dX11_trail_48 ?_
            refine ww_iload_n hX (pc := 51) dX11_trail_51 rfl ?_
            refine ww_aload_n hX (pc := 52) dX11_trail_52 rfl ?_
            refine ww_getR hX (pc := 53) fX11_34 (by decide) (xs_49 hL) (xr_49_8 hL) dX11_trail_53 ?_
            refine ww_iload_n hX (pc := 56) dX11_trail_56 rfl ?_
            refine ww_bald hX (pc := 57) (xs_55 hL) (by decide) (by omega) (by omega) dX11_trail_57 ?_
            refine ww_sipush hX (pc := 58) (x := 255) dX11_trail_58 (by decide) ?_
            refine ww_iand hX (pc := 61) dX11_trail_61 ?_
            refine ww_iast hX (pc := 62) (xs_67 hL) (by decide) (by omega) (by omega) dX11_trail_62 ?_
            refine ww_nmH (fun I_62 eI_62 => ?_)
            have kI_62 : Ch [50, 67] [0, 1, 10, 33] Ia I_62 := by rw [eI_62]; exact Ch_r kI39 (by decide) (by decide)
            have cI_62 : RX I_62 := by rw [eI_62]; exact RX_r cI39 (by decide)
            have qI_62 := RX_o cI_62
            have r304_I_62 : I_62 51 304 = I39 51 304 := by rw [eI_62, up2_off _ _ _ (by decide)]
            have r305_I_62 : I_62 51 305 = I39 51 305 := by rw [eI_62, up2_off _ _ _ (by decide)]
            have f10_I_62 : I_62 49 10 = I39 49 10 := by rw [eI_62, up2_off _ _ _ (by decide)]
            have f33_I_62 : I_62 49 33 = I39 49 33 := by rw [eI_62, up2_off _ _ _ (by decide)]
            have rf_I_62 : FU (I_62 51 304) = FU (I39 51 304) := by rw [r304_I_62]
            have w62 : I_62 55 = Ia 55 := by rw [eI_62, up2_off _ _ _ (by decide)]; exact wj
            have t62 : ∀ j : Nat, (j : Int) < i + 1 → I_62 67 j = i_and (Ia 55 j) 255 := fun j hj => by
              rw [eI_62, up2_row]
              by_cases e9 : j = i.toNat
              · rw [e9, up1_s, wj]
              · rw [up1_n _ _ e9]; exact htj j (by omega)
            have bkI_62 : BK9 Ia I_62 := by rw [eI_62]; exact BK9_up bkl39 (by decide)
            have tkI_62 : TK9 Ia I_62 Ja J39 := by rw [eI_62]; exact TK9_up tkl39 (by decide)
            refine ww_iinc hX (pc := 63) (lv' := [some (kR (some 49)), some (kI v_4), some (kI (i + 1))]) dX11_trail_63 rfl (by decide) rfl rfl ?_
            refine ww_goto hX (pc := 66) (tgt := 39) dX11_trail_66 (by decide) ?_
            exact ih_39 _ (by have hm9 := Sh0_e hq_39; omega) (i + 1) I_62 J39 rfl ⟨bkI_62, tkI_62, ⟨kI_62, cI_62, kJ39, by omega, by omega, by omega, by omega, ⟨by omega, by omega⟩, w62, t62⟩⟩
      exact hl_39 _ 0 I_34 Ja rfl ⟨bkI_34, tkI_34, ⟨kI_34, cI_34, (Kp_rf (a := 49) (b := 73)), rfl, rfl, rfl, rfl, ⟨by omega, by omega⟩, w34, fun j hj => absurd hj (by omega)⟩⟩
    · simp only [w32_mod] at h_25
      refine ww_iload_n hX (pc := 28) dX11_trail_28 rfl ?_
      refine ww_goto hX (pc := 29) (tgt := 34) dX11_trail_29 (by decide) ?_
      refine ww_putI hX (pc := 34) (fun h9 => absurd h9 (by decide)) gX11_334 rfl (xs_49 hL) dX11_trail_34 ?_
      refine ww_nmH (fun I_34 eI_34 => ?_)
      have kI_34 : Ch [50, 67] [0, 1, 10, 33] Ia I_34 := by rw [eI_34]; exact Ch_f kI_7 (by decide)
      have cI_34 : RX I_34 := by rw [eI_34]; exact RX_33 cI_7 (by omega) (by omega)
      have qI_34 := RX_o cI_34
      have r304_I_34 : I_34 51 304 = I_7 51 304 := by rw [eI_34, up2_off _ _ _ (by decide)]
      have r305_I_34 : I_34 51 305 = I_7 51 305 := by rw [eI_34, up2_off _ _ _ (by decide)]
      have f10_I_34 : I_34 49 10 = I_7 49 10 := by rw [eI_34, up2_n _ _ (Or.inr (by decide))]
      have rf_I_34 : FU (I_34 51 304) = FU (I_7 51 304) := by rw [r304_I_34]
      have z33 : I_34 49 33 = v_4 := by rw [eI_34, up2_s]
      have w34 : I_34 55 = Ia 55 := by rw [eI_34, up2_off _ _ _ (by decide)]; exact w7
      have bkI_34 : BK9 Ia I_34 := by rw [eI_34]; exact BK9_f bkI_7 (by decide)
      have tkI_34 : TK9 Ia I_34 Ja Ja := by rw [eI_34]; exact TK9_f tkI_7 (by decide)
      refine ww_iconst hX (pc := 37) (x := 0) dX11_trail_37 rfl ?_
      refine ww_istore_n hX (pc := 38) (lv' := [some (kR (some 49)), some (kI v_4), some (kI 0)]) dX11_trail_38 (by decide) rfl rfl ?_
      have hl_39 : ∀ (n_39 : Nat) (i : Int) (I39 : aI1) (J39 : aI1), (30 - i).toNat = n_39 → (BK9 Ia I39 ∧ TK9 Ia I39 Ja J39 ∧ (Ch [50, 67] [0, 1, 10, 33] Ia I39 ∧ RX I39 ∧ Kp 49 73 Ja J39 ∧ I39 51 304 = I_34 51 304 ∧ I39 51 305 = I_34 51 305 ∧ I39 49 10 = I_34 49 10 ∧ I39 49 33 = I_34 49 33 ∧ (0 ≤ i ∧ i ≤ 30) ∧ I39 55 = Ia 55 ∧ (∀ j : Nat, (j : Int) < i → I39 67 j = i_and (Ia 55 j) 255))) → WW X 39 [some (kR (some 49)), some (kI v_4), some (kI i)] [] I39 J39 Ra Sa 0 0 := by
        intro n_39
        induction n_39 using Nat.strongRecOn with
        | ind n_39 ih_39 =>
          intro i I39 J39 hm_39 hv_39
          have hq_39 := Sh0_i hm_39
          clear hm_39
          obtain ⟨bkl39, tkl39, hv_39⟩ := hv_39
          obtain ⟨kI39, cI39, kJ39, r304_I39, r305_I39, f10_I39, f33_I39, hv, wj, htj⟩ := hv_39
          have qI39 := RX_o cI39
          have rf_I39 : FU (I39 51 304) = FU (I_34 51 304) := by rw [r304_I39]
          refine ww_iload_n hX (pc := 39) dX11_trail_39 rfl ?_
          refine ww_aload_n hX (pc := 40) dX11_trail_40 rfl ?_
          refine ww_getI hX (pc := 41) fX11_334 (by decide) (xs_49 hL) dX11_trail_41 ?_
          refine ww_icmp_ge hX (pc := 44) (tgt := 69) dX11_trail_44 (by decide) (fun h_44 => ?_) (fun h_44 => ?_)
          · simp only [w32_mod] at h_44
            refine ww_aload_n hX (pc := 69) dX11_trail_69 rfl ?_
            refine ww_aload_n hX (pc := 70) dX11_trail_70 rfl ?_
            refine ww_getI hX (pc := 71) fX11_334 (by decide) (xs_49 hL) dX11_trail_71 ?_
            refine vI1 hX (pc := 74) sX11_109 (xs_49 hL) (n9_X11_good l0 hL cI39) (by decide) (Nat.le_refl 0) (Nat.le_refl 0) (Nat.le_of_ble_eq_true rfl) dX11_trail_74 (fun x_74 I_74 J_74 h_74 => ?_)
            obtain ⟨h_74, qxI_74⟩ := h_74
            have kJ_74 : Kp 49 73 Ja J_74 := Kp_tr kJ39 h_74.2.1
            have kI_74 : Ch [50, 67] [0, 1, 10, 33] Ia I_74 := Ch_tr kI39 (Ch_wd h_74.1 (by decide) (by decide))
            have cI_74 : RX I_74 := h_74.2.2.1
            have qI_74 := RX_o cI_74
            have r304_I_74 : I_74 51 304 = I39 51 304 := by rw [h_74.1.1 51 (by decide) (by decide)]
            have r305_I_74 : I_74 51 305 = I39 51 305 := by rw [h_74.1.1 51 (by decide) (by decide)]
            have f10_I_74 : I_74 49 10 = I39 49 10 := h_74.1.2 10 (by decide)
            have f33_I_74 : I_74 49 33 = I39 49 33 := h_74.1.2 33 (by decide)
            have rf_I_74 : FU (I_74 51 304) = FU (I39 51 304) := by rw [r304_I_74]
            have xv74 := h_74.2.2.2
            refine rI hX (pc := 77) hT (Nat.le_refl 0) (Nat.le_refl 0) dX11_trail_77 ?_
            exact ⟨⟨kI_74, kJ_74, cI_74, by omega, (fun h9 => absurd h9 (by omega)), (fun _ => ⟨by omega, by omega, fun j hj => by rw [h_74.1.1 67 (by decide) (by decide)]; exact htj j (by omega)⟩)⟩, ⟨(fun h9 => absurd h9 (by have := h_74.2.2.2; omega)), (fun _ => GQ9_tr bkl39 qxI_74)⟩⟩
          · simp only [w32_mod] at h_44
            refine ww_aload_n hX (pc := 47) dX11_trail_47 rfl ?_
            refine ww_getR hX (pc := 48) fX11_77 (by decide) (xs_49 hL) (xr_49_32 hL) dX11_trail_48 ?_
            refine ww_iload_n hX (pc := 51) dX11_trail_51 rfl ?_
            refine ww_aload_n hX (pc := 52) dX11_trail_52 rfl ?_
            refine ww_getR hX (pc := 53) fX11_34 (by decide) (xs_49 hL) (xr_49_8 hL) dX11_trail_53 ?_
            refine ww_iload_n hX (pc := 56) dX11_trail_56 rfl ?_
            refine ww_bald hX (pc := 57) (xs_55 hL) (by decide) (by omega) (by omega) dX11_trail_57 ?_
            refine ww_sipush hX (pc := 58) (x := 255) dX11_trail_58 (by decide) ?_
            refine ww_iand hX (pc := 61) dX11_trail_61 ?_
            refine ww_iast hX (pc := 62) (xs_67 hL) (by decide) (by omega) (by omega) dX11_trail_62 ?_
            refine ww_nmH (fun I_62 eI_62 => ?_)
            have kI_62 : Ch [50, 67] [0, 1, 10, 33] Ia I_62 := by rw [eI_62]; exact Ch_r kI39 (by decide) (by decide)
            have cI_62 : RX I_62 := by rw [eI_62]; exact RX_r cI39 (by decide)
            have qI_62 := RX_o cI_62
            have r304_I_62 : I_62 51 304 = I39 51 304 := by rw [eI_62, up2_off _ _ _ (by decide)]
            have r305_I_62 : I_62 51 305 = I39 51 305 := by rw [eI_62, up2_off _ _ _ (by decide)]
            have f10_I_62 : I_62 49 10 = I39 49 10 := by rw [eI_62, up2_off _ _ _ (by decide)]
            have f33_I_62 : I_62 49 33 = I39 49 33 := by rw [eI_62, up2_off _ _ _ (by decide)]
            have rf_I_62 : FU (I_62 51 304) = FU (I39 51 304) := by rw [r304_I_62]
            have w62 : I_62 55 = Ia 55 := by rw [eI_62, up2_off _ _ _ (by decide)]; exact wj
            have t62 : ∀ j : Nat, (j : Int) < i + 1 → I_62 67 j = i_and (Ia 55 j) 255 := fun j hj => by
              rw [eI_62, up2_row]
              by_cases e9 : j = i.toNat
              · rw [e9, up1_s, wj]
              · rw [up1_n _ _ e9]; exact htj j (by omega)
            have bkI_62 : BK9 Ia I_62 := by rw [eI_62]; exact BK9_up bkl39 (by decide)
            have tkI_62 : TK9 Ia I_62 Ja J39 := by rw [eI_62]; exact TK9_up tkl39 (by decide)
            refine ww_iinc hX (pc := 63) (lv' := [some (kR (some 49)), some (kI v_4), some (kI (i + 1))]) dX11_trail_63 rfl (by decide) rfl rfl ?_
            refine ww_goto hX (pc := 66) (tgt := 39) dX11_trail_66 (by decide) ?_
            exact ih_39 _ (by have hm9 := Sh0_e hq_39; omega) (i + 1) I_62 J39 rfl ⟨bkI_62, tkI_62, ⟨kI_62, cI_62, kJ39, by omega, by omega, by omega, by omega, ⟨by omega, by omega⟩, w62, t62⟩⟩
      exact hl_39 _ 0 I_34 Ja rfl ⟨bkI_34, tkI_34, ⟨kI_34, cI_34, (Kp_rf (a := 49) (b := 73)), rfl, rfl, rfl, rfl, ⟨by omega, by omega⟩, w34, fun j hj => absurd hj (by omega)⟩⟩
  · simp only [w32_mod] at h_11
    refine ww_aload_n hX (pc := 14) dX11_trail_14 rfl ?_
    refine ww_bipush hX (pc := 15) (x := (-6)) dX11_trail_15 (by decide) ?_
    refine vI1 hX (pc := 17) sX11_105 (xs_49 hL) (n9_X11_refuses l0 hL cI_7 (by omega) (by omega)) (by decide) (Nat.le_refl 0) (Nat.le_refl 0) (Nat.le_of_ble_eq_true rfl) dX11_trail_17 (fun x_17 I_17 J_17 h_17 => ?_)
    obtain ⟨h_17, qxI_17⟩ := h_17
    have kJ_17 : Kp 49 73 Ja J_17 := Kp_tr (Kp_rf (a := 49) (b := 73)) h_17.2.1
    have kI_17 : Ch [50, 67] [0, 1, 10, 33] Ia I_17 := Ch_tr kI_7 (Ch_wd h_17.1 (by decide) (by decide))
    have cI_17 : RX I_17 := h_17.2.2.1
    have qI_17 := RX_o cI_17
    have r304_I_17 : I_17 51 304 = I_7 51 304 := by rw [h_17.1.1 51 (by decide) (by decide)]
    have r305_I_17 : I_17 51 305 = I_7 51 305 := by rw [h_17.1.1 51 (by decide) (by decide)]
    have f10_I_17 : I_17 49 10 = I_7 49 10 := h_17.1.2 10 (by decide)
    have f33_I_17 : I_17 49 33 = I_7 49 33 := h_17.1.2 33 (by decide)
    have rf_I_17 : FU (I_17 51 304) = FU (I_7 51 304) := by rw [r304_I_17]
    have xv17 := h_17.2.2.2
    refine rI hX (pc := 20) hT (Nat.le_refl 0) (Nat.le_refl 0) dX11_trail_20 ?_
    exact ⟨⟨kI_17, kJ_17, cI_17, by omega, (fun _ => ⟨by omega, by omega, by rw [h_17.1.1 67 (by decide) (by decide), eI_7, up2_off _ _ _ (by decide)]⟩), (fun h9 => absurd (by omega) h9)⟩, ⟨(fun _ => RQ9_tr bkI_7 tkI_7 qxI_17), (fun h9 => absurd h9 (by have := h_17.2.2.2; omega))⟩⟩
set_option maxHeartbeats 4000000 in
set_option maxRecDepth 20000 in
theorem c9_X11_row (l0 : Launch) {Ia Ja : aI1} {Ra : aR1} {Sa : aS1} (hL : LY Ra Sa) (hQ : RX Ia) (hbr : ∀ j : Nat, (j : Int) < Ia 49 10 → -128 ≤ Ia 55 j ∧ Ia 55 j ≤ 127)  : CT l0 2 0 0 mX11_row [kR (some 49)] Ia Ja Ra Sa (cI (fun x I' J' => (Ch [50, 51] [0, 1, 6, 10] Ia I' ∧ Kp 49 73 Ja J' ∧ RX I' ∧ I' 49 10 = 0 ∧ (Ia 49 10 = 0 → x = -6 ∧ I' 49 6 = Ia 49 6 ∧ I' 51 = Ia 51) ∧ (¬ Ia 49 10 = 0 → I' 49 6 = max 0 (Ia 49 10 - (FU (Ia 51 304) + 1)) ∧ (∀ j : Nat, I' 51 j = if (j : Int) < FU (Ia 51 304) + 1 then RWv (Ia 55) (Ia 49 10) (Ia 51 305) j else Ia 51 j) ∧ x = cnR (I' 51) (FU (Ia 51 304) + 1).toNat)) ∧ ((¬ Ia 49 10 = 0) → GQ9 Ia I') ∧ (¬ (¬ Ia 49 10 = 0) → RQ9 x Ia I' Ja J')) Ra Sa) := by
  refine ct_in pn_X11 (Nat.le_of_ble_eq_true rfl) (fun X hX hT hIn => ?_)
  have hX : aK l0 X cX11_row 3 RX11 (some .int) 2 0 0 := hX
  change WW X 0 [some (kR (some 49)), none, none] [] Ia Ja Ra Sa 0 0
  have qIa := RX_o hQ
  refine ww_aload_n hX (pc := 0) dX11_row_0 rfl ?_
  refine ww_getI hX (pc := 1) fX11_129 (by decide) (xs_49 hL) dX11_row_1 ?_
  refine ww_nmI (fun v_4 hv_4 => ?_)
  refine ww_istore_n hX (pc := 4) (lv' := [some (kR (some 49)), some (kI v_4), none]) dX11_row_4 (by decide) rfl rfl ?_
  refine ww_aload_n hX (pc := 5) dX11_row_5 rfl ?_
  refine ww_iconst hX (pc := 6) (x := 0) dX11_row_6 rfl ?_
  refine ww_putI hX (pc := 7) (fun h9 => absurd h9 (by decide)) gX11_129 rfl (xs_49 hL) dX11_row_7 ?_
  refine ww_nmH (fun I_7 eI_7 => ?_)
  have kI_7 : Ch [50, 51] [0, 1, 6, 10] Ia I_7 := by rw [eI_7]; exact Ch_f Ch_rf (by decide)
  have cI_7 : RX I_7 := by rw [eI_7]; exact RX_10 hQ (by omega) (by omega)
  have qI_7 := RX_o cI_7
  have r304_I_7 : I_7 51 304 = Ia 51 304 := by rw [eI_7, up2_off _ _ _ (by decide)]
  have r305_I_7 : I_7 51 305 = Ia 51 305 := by rw [eI_7, up2_off _ _ _ (by decide)]
  have f6_I_7 : I_7 49 6 = Ia 49 6 := by rw [eI_7, up2_n _ _ (Or.inr (by decide))]
  have rf_I_7 : FU (I_7 51 304) = FU (Ia 51 304) := by rw [r304_I_7]
  have z10 : I_7 49 10 = 0 := by rw [eI_7, up2_s]
  have w7 : I_7 55 = Ia 55 := by rw [eI_7, up2_off _ _ _ (by decide)]
  have g7 : I_7 51 = Ia 51 := by rw [eI_7, up2_off _ _ _ (by decide)]
  have bkI_7 : BK9 Ia I_7 := by rw [eI_7]; exact BK9_f BK9_rf (by decide)
  have tkI_7 : TK9 Ia I_7 Ja Ja := by rw [eI_7]; exact TK9_f TK9_rf (by decide)
  refine ww_iload_n hX (pc := 10) dX11_row_10 rfl ?_
  refine ww_if_ne hX (pc := 11) (tgt := 21) dX11_row_11 (by decide) (fun h_11 => ?_) (fun h_11 => ?_)
  · simp only [w32_mod] at h_11
    refine ww_iconst hX (pc := 21) (x := 0) dX11_row_21 rfl ?_
    refine ww_istore_n hX (pc := 22) (lv' := [some (kR (some 49)), some (kI v_4), some (kI 0)]) dX11_row_22 (by decide) rfl rfl ?_
    have hl_23 : ∀ (n_23 : Nat) (i : Int) (I23 : aI1) (J23 : aI1), (256 - i).toNat = n_23 → (BK9 Ia I23 ∧ TK9 Ia I23 Ja J23 ∧ (Ch [50, 51] [0, 1, 6, 10] Ia I23 ∧ RX I23 ∧ Kp 49 73 Ja J23 ∧ I23 51 304 = I_7 51 304 ∧ I23 51 305 = I_7 51 305 ∧ I23 49 6 = I_7 49 6 ∧ I23 49 10 = I_7 49 10 ∧ (0 ≤ i ∧ i ≤ FU (Ia 51 304) + 1) ∧ I23 55 = Ia 55 ∧ (∀ j : Nat, I23 51 j = if (j : Int) < i then RWv (Ia 55) (Ia 49 10) (Ia 51 305) j else Ia 51 j))) → WW X 23 [some (kR (some 49)), some (kI v_4), some (kI i)] [] I23 J23 Ra Sa 0 0 := by
      intro n_23
      induction n_23 using Nat.strongRecOn with
      | ind n_23 ih_23 =>
        intro i I23 J23 hm_23 hv_23
        have hq_23 := Sh0_i hm_23
        clear hm_23
        obtain ⟨bkl23, tkl23, hv_23⟩ := hv_23
        obtain ⟨kI23, cI23, kJ23, r304_I23, r305_I23, f6_I23, f10_I23, hv, wj, hej⟩ := hv_23
        have qI23 := RX_o cI23
        have rf_I23 : FU (I23 51 304) = FU (I_7 51 304) := by rw [r304_I23]
        refine ww_iload_n hX (pc := 23) dX11_row_23 rfl ?_
        refine ww_aload_n hX (pc := 24) dX11_row_24 rfl ?_
        refine vI0 hX (pc := 25) sX11_112 (xs_49 hL) (c_X11_states l0 hL cI23 ) (by decide) (Nat.le_refl 0) (Nat.le_refl 0) (Nat.le_of_ble_eq_true rfl) dX11_row_25 (fun x_25 I_25 J_25 h_25 => ?_)
        obtain ⟨rfl, rfl, h_25⟩ := h_25
        refine ww_icmp_ge hX (pc := 28) (tgt := 73) dX11_row_28 (by decide) (fun h_28 => ?_) (fun h_28 => ?_)
        · simp only [w32_mod] at h_28
          refine ww_aload_n hX (pc := 73) dX11_row_73 rfl ?_
          refine ww_iconst hX (pc := 74) (x := 0) dX11_row_74 rfl ?_
          refine ww_iload_n hX (pc := 75) dX11_row_75 rfl ?_
          refine ww_aload_n hX (pc := 76) dX11_row_76 rfl ?_
          refine vI0 hX (pc := 77) sX11_112 (xs_49 hL) (c_X11_states l0 hL cI23 ) (by decide) (Nat.le_refl 0) (Nat.le_refl 0) (Nat.le_of_ble_eq_true rfl) dX11_row_77 (fun x_77 I_77 J_77 h_77 => ?_)
          obtain ⟨rfl, rfl, h_77⟩ := h_77
          refine ww_isub hX (pc := 80) dX11_row_80 ?_
          refine sI2 hX (pc := 81) sX11_132 (c_X11_greater l0 (by omega) (by omega) (by omega) (by omega)) (by decide) (Nat.le_refl 0) (Nat.le_refl 0) (Nat.le_of_ble_eq_true rfl) dX11_row_81 (fun x_81 I_81 J_81 h_81 => ?_)
          obtain ⟨rfl, rfl, h_81⟩ := h_81
          refine ww_putI hX (pc := 84) (fun h9 => absurd h9 (by decide)) gX11_136 rfl (xs_49 hL) dX11_row_84 ?_
          refine ww_nmH (fun I_84 eI_84 => ?_)
          have kI_84 : Ch [50, 51] [0, 1, 6, 10] Ia I_84 := by rw [eI_84]; exact Ch_f kI23 (by decide)
          have cI_84 : RX I_84 := by rw [eI_84]; exact RX_f cI23 (by decide)
          have qI_84 := RX_o cI_84
          have r304_I_84 : I_84 51 304 = I23 51 304 := by rw [eI_84, up2_off _ _ _ (by decide)]
          have r305_I_84 : I_84 51 305 = I23 51 305 := by rw [eI_84, up2_off _ _ _ (by decide)]
          have f10_I_84 : I_84 49 10 = I23 49 10 := by rw [eI_84, up2_n _ _ (Or.inr (by decide))]
          have rf_I_84 : FU (I_84 51 304) = FU (I23 51 304) := by rw [r304_I_84]
          have z6 : I_84 49 6 = x_81 := by rw [eI_84, up2_s]
          have g84 : I_84 51 = I23 51 := by rw [eI_84, up2_off _ _ _ (by decide)]
          have hcr9 : ∀ t : Nat, (t : Int) ≤ FU (I_84 51 304) → -1 ≤ I_84 51 t ∧ I_84 51 t ≤ 7 := fun t ht => by
            rw [g84, hej t, if_pos (by omega)]
            unfold RWv
            split <;> omega
          have bkI_84 : BK9 Ia I_84 := by rw [eI_84]; exact BK9_f bkl23 (by decide)
          have tkI_84 : TK9 Ia I_84 Ja J23 := by rw [eI_84]; exact TK9_f tkl23 (by decide)
          refine ww_aload_n hX (pc := 87) dX11_row_87 rfl ?_
          refine ww_aload_n hX (pc := 88) dX11_row_88 rfl ?_
          refine vI0 hX (pc := 89) sX11_139 (xs_49 hL) (c5_X11_readMany l0 hL cI_84 hcr9) (by decide) (Nat.le_refl 0) (Nat.le_refl 0) (Nat.le_of_ble_eq_true rfl) dX11_row_89 (fun x_89 I_89 J_89 h_89 => ?_)
          obtain ⟨rfl, rfl, h_89⟩ := h_89
          refine vI1 hX (pc := 92) sX11_109 (xs_49 hL) (n9_X11_good l0 hL cI_84) (by decide) (Nat.le_refl 0) (Nat.le_refl 0) (Nat.le_of_ble_eq_true rfl) dX11_row_92 (fun x_92 I_92 J_92 h_92 => ?_)
          obtain ⟨h_92, qxI_92⟩ := h_92
          have kJ_92 : Kp 49 73 Ja J_92 := Kp_tr kJ23 h_92.2.1
          have kI_92 : Ch [50, 51] [0, 1, 6, 10] Ia I_92 := Ch_tr kI_84 (Ch_wd h_92.1 (by decide) (by decide))
          have cI_92 : RX I_92 := h_92.2.2.1
          have qI_92 := RX_o cI_92
          have r304_I_92 : I_92 51 304 = I_84 51 304 := by rw [h_92.1.1 51 (by decide) (by decide)]
          have r305_I_92 : I_92 51 305 = I_84 51 305 := by rw [h_92.1.1 51 (by decide) (by decide)]
          have f6_I_92 : I_92 49 6 = I_84 49 6 := h_92.1.2 6 (by decide)
          have f10_I_92 : I_92 49 10 = I_84 49 10 := h_92.1.2 10 (by decide)
          have rf_I_92 : FU (I_92 51 304) = FU (I_84 51 304) := by rw [r304_I_92]
          have xv92 := h_92.2.2.2
          refine rI hX (pc := 95) hT (Nat.le_refl 0) (Nat.le_refl 0) dX11_row_95 ?_
          exact ⟨⟨kI_92, kJ_92, cI_92, by omega, (fun h9 => absurd h9 (by omega)), (fun _ => ⟨by omega, (fun j => by rw [h_92.1.1 51 (by decide) (by decide), g84, hej j, show i = FU (Ia 51 304) + 1 by omega]), by rw [xv92, h_89, h_92.1.1 51 (by decide) (by decide), rf_I_84, rf_I23]; exact congrArg (fun z : Int => cnR (I_84 51) (z + 1).toNat) (by omega)⟩)⟩, ⟨(fun _ => GQ9_tr bkI_84 qxI_92), (fun h9 => absurd (by omega) h9)⟩⟩
        · simp only [w32_mod] at h_28
          refine ww_aload_n hX (pc := 31) dX11_row_31 rfl ?_
          refine ww_getR hX (pc := 32) fX11_20 (by decide) (xs_49 hL) (xr_49_3 hL) dX11_row_32 ?_
          refine ww_iconst hX (pc := 35) (x := 0) dX11_row_35 rfl ?_
          refine ww_iload_n hX (pc := 36) dX11_row_36 rfl ?_
          refine ww_iadd hX (pc := 37) dX11_row_37 ?_
          refine ww_iload_n hX (pc := 38) dX11_row_38 rfl ?_
          refine ww_iload_n hX (pc := 39) dX11_row_39 rfl ?_
          refine ww_icmp_ge hX (pc := 40) (tgt := 65) dX11_row_40 (by decide) (fun h_40 => ?_) (fun h_40 => ?_)
          · simp only [w32_mod] at h_40
            refine ww_iconst hX (pc := 65) (x := (-1)) dX11_row_65 rfl ?_
            refine ww_iast hX (pc := 66) (xs_51 hL) (by decide) (by omega) (by omega) dX11_row_66 ?_
            refine ww_nmH (fun I_66 eI_66 => ?_)
            have kI_66 : Ch [50, 51] [0, 1, 6, 10] Ia I_66 := by rw [eI_66]; exact Ch_r kI23 (by decide) (by decide)
            have cI_66 : RX I_66 := by rw [eI_66]; exact RX_lo cI23 (by omega)
            have qI_66 := RX_o cI_66
            have r304_I_66 : I_66 51 304 = I23 51 304 := by rw [eI_66, up2_n _ _ (Or.inr (by omega))]
            have r305_I_66 : I_66 51 305 = I23 51 305 := by rw [eI_66, up2_n _ _ (Or.inr (by omega))]
            have f6_I_66 : I_66 49 6 = I23 49 6 := by rw [eI_66, up2_off _ _ _ (by decide)]
            have f10_I_66 : I_66 49 10 = I23 49 10 := by rw [eI_66, up2_off _ _ _ (by decide)]
            have rf_I_66 : FU (I_66 51 304) = FU (I23 51 304) := by rw [r304_I_66]
            have w66 : I_66 55 = Ia 55 := by rw [eI_66, up2_off _ _ _ (by decide)]; exact wj
            have t66 : ∀ j : Nat, I_66 51 j = if (j : Int) < i + 1 then RWv (Ia 55) (Ia 49 10) (Ia 51 305) j else Ia 51 j := fun j => by
              rw [eI_66, up2_row]
              by_cases e9 : j = (0 + i).toNat
              · rw [e9, up1_s, if_pos (by omega)]
                unfold RWv
                rw [← wj, show (0 + i).toNat = i.toNat by omega]
                first
                | rw [if_pos ⟨by omega, by omega, by omega⟩]
                | rw [if_neg (by omega)]
              · rw [up1_n _ _ e9, hej j]
                by_cases e8 : (j : Int) < i
                · rw [if_pos e8, if_pos (by omega)]
                · rw [if_neg e8, if_neg (by omega)]
            have bkI_66 : BK9 Ia I_66 := by rw [eI_66]; exact BK9_up bkl23 (by decide)
            have tkI_66 : TK9 Ia I_66 Ja J23 := by rw [eI_66]; exact TK9_up tkl23 (by decide)
            refine ww_iinc hX (pc := 67) (lv' := [some (kR (some 49)), some (kI v_4), some (kI (i + 1))]) dX11_row_67 rfl (by decide) rfl rfl ?_
            refine ww_goto hX (pc := 70) (tgt := 23) dX11_row_70 (by decide) ?_
            exact ih_23 _ (by have hm9 := Sh0_e hq_23; omega) (i + 1) I_66 J23 rfl ⟨bkI_66, tkI_66, ⟨kI_66, cI_66, kJ23, by omega, by omega, by omega, by omega, ⟨by omega, by omega⟩, w66, t66⟩⟩
          · simp only [w32_mod] at h_40
            have hb9 := hbr i.toNat (by omega)
            rw [← wj] at hb9
            refine ww_aload_n hX (pc := 43) dX11_row_43 rfl ?_
            refine ww_aload_n hX (pc := 44) dX11_row_44 rfl ?_
            refine ww_getR hX (pc := 45) fX11_34 (by decide) (xs_49 hL) (xr_49_8 hL) dX11_row_45 ?_
            refine ww_iload_n hX (pc := 48) dX11_row_48 rfl ?_
            refine ww_bald hX (pc := 49) (xs_55 hL) (by decide) (by omega) (by omega) dX11_row_49 ?_
            refine vI1 hX (pc := 50) sX11_123 (xs_49 hL) (c_X11_isNews l0 hL cI23 (by omega) (by omega)) (by decide) (Nat.le_refl 0) (Nat.le_refl 0) (Nat.le_of_ble_eq_true rfl) dX11_row_50 (fun x_50 I_50 J_50 h_50 => ?_)
            obtain ⟨rfl, rfl, h_50⟩ := h_50
            refine ww_if_eq hX (pc := 53) (tgt := 65) dX11_row_53 (by decide) (fun h_53 => ?_) (fun h_53 => ?_)
            · simp only [w32_mod] at h_53
              refine ww_iconst hX (pc := 65) (x := (-1)) dX11_row_65 rfl ?_
              refine ww_iast hX (pc := 66) (xs_51 hL) (by decide) (by omega) (by omega) dX11_row_66 ?_
              refine ww_nmH (fun I_66 eI_66 => ?_)
              have kI_66 : Ch [50, 51] [0, 1, 6, 10] Ia I_66 := by rw [eI_66]; exact Ch_r kI23 (by decide) (by decide)
              have cI_66 : RX I_66 := by rw [eI_66]; exact RX_lo cI23 (by omega)
              have qI_66 := RX_o cI_66
              have r304_I_66 : I_66 51 304 = I23 51 304 := by rw [eI_66, up2_n _ _ (Or.inr (by omega))]
              have r305_I_66 : I_66 51 305 = I23 51 305 := by rw [eI_66, up2_n _ _ (Or.inr (by omega))]
              have f6_I_66 : I_66 49 6 = I23 49 6 := by rw [eI_66, up2_off _ _ _ (by decide)]
              have f10_I_66 : I_66 49 10 = I23 49 10 := by rw [eI_66, up2_off _ _ _ (by decide)]
              have rf_I_66 : FU (I_66 51 304) = FU (I23 51 304) := by rw [r304_I_66]
              have w66 : I_66 55 = Ia 55 := by rw [eI_66, up2_off _ _ _ (by decide)]; exact wj
              have t66 : ∀ j : Nat, I_66 51 j = if (j : Int) < i + 1 then RWv (Ia 55) (Ia 49 10) (Ia 51 305) j else Ia 51 j := fun j => by
                rw [eI_66, up2_row]
                by_cases e9 : j = (0 + i).toNat
                · rw [e9, up1_s, if_pos (by omega)]
                  unfold RWv
                  rw [← wj, show (0 + i).toNat = i.toNat by omega]
                  first
                  | rw [if_pos ⟨by omega, by omega, by omega⟩]
                  | rw [if_neg (by omega)]
                · rw [up1_n _ _ e9, hej j]
                  by_cases e8 : (j : Int) < i
                  · rw [if_pos e8, if_pos (by omega)]
                  · rw [if_neg e8, if_neg (by omega)]
              have bkI_66 : BK9 Ia I_66 := by rw [eI_66]; exact BK9_up bkl23 (by decide)
              have tkI_66 : TK9 Ia I_66 Ja J23 := by rw [eI_66]; exact TK9_up tkl23 (by decide)
              refine ww_iinc hX (pc := 67) (lv' := [some (kR (some 49)), some (kI v_4), some (kI (i + 1))]) dX11_row_67 rfl (by decide) rfl rfl ?_
              refine ww_goto hX (pc := 70) (tgt := 23) dX11_row_70 (by decide) ?_
              exact ih_23 _ (by have hm9 := Sh0_e hq_23; omega) (i + 1) I_66 J23 rfl ⟨bkI_66, tkI_66, ⟨kI_66, cI_66, kJ23, by omega, by omega, by omega, by omega, ⟨by omega, by omega⟩, w66, t66⟩⟩
            · simp only [w32_mod] at h_53
              have k_50 := h_50.2.mp (by omega)
              clear h_50
              refine ww_aload_n hX (pc := 56) dX11_row_56 rfl ?_
              refine ww_getR hX (pc := 57) fX11_34 (by decide) (xs_49 hL) (xr_49_8 hL) dX11_row_57 ?_
              refine ww_iload_n hX (pc := 60) dX11_row_60 rfl ?_
              refine ww_bald hX (pc := 61) (xs_55 hL) (by decide) (by omega) (by omega) dX11_row_61 ?_
              refine ww_goto hX (pc := 62) (tgt := 66) dX11_row_62 (by decide) ?_
              refine ww_iast hX (pc := 66) (xs_51 hL) (by decide) (by omega) (by omega) dX11_row_66 ?_
              refine ww_nmH (fun I_66 eI_66 => ?_)
              have kI_66 : Ch [50, 51] [0, 1, 6, 10] Ia I_66 := by rw [eI_66]; exact Ch_r kI23 (by decide) (by decide)
              have cI_66 : RX I_66 := by rw [eI_66]; exact RX_lo cI23 (by omega)
              have qI_66 := RX_o cI_66
              have r304_I_66 : I_66 51 304 = I23 51 304 := by rw [eI_66, up2_n _ _ (Or.inr (by omega))]
              have r305_I_66 : I_66 51 305 = I23 51 305 := by rw [eI_66, up2_n _ _ (Or.inr (by omega))]
              have f6_I_66 : I_66 49 6 = I23 49 6 := by rw [eI_66, up2_off _ _ _ (by decide)]
              have f10_I_66 : I_66 49 10 = I23 49 10 := by rw [eI_66, up2_off _ _ _ (by decide)]
              have rf_I_66 : FU (I_66 51 304) = FU (I23 51 304) := by rw [r304_I_66]
              have w66 : I_66 55 = Ia 55 := by rw [eI_66, up2_off _ _ _ (by decide)]; exact wj
              have t66 : ∀ j : Nat, I_66 51 j = if (j : Int) < i + 1 then RWv (Ia 55) (Ia 49 10) (Ia 51 305) j else Ia 51 j := fun j => by
                rw [eI_66, up2_row]
                by_cases e9 : j = (0 + i).toNat
                · rw [e9, up1_s, if_pos (by omega)]
                  unfold RWv
                  rw [← wj, show (0 + i).toNat = i.toNat by omega]
                  first
                  | rw [if_pos ⟨by omega, by omega, by omega⟩]
                  | rw [if_neg (by omega)]
                · rw [up1_n _ _ e9, hej j]
                  by_cases e8 : (j : Int) < i
                  · rw [if_pos e8, if_pos (by omega)]
                  · rw [if_neg e8, if_neg (by omega)]
              have bkI_66 : BK9 Ia I_66 := by rw [eI_66]; exact BK9_up bkl23 (by decide)
              have tkI_66 : TK9 Ia I_66 Ja J23 := by rw [eI_66]; exact TK9_up tkl23 (by decide)
              refine ww_iinc hX (pc := 67) (lv' := [some (kR (some 49)), some (kI v_4), some (kI (i + 1))]) dX11_row_67 rfl (by decide) rfl rfl ?_
              refine ww_goto hX (pc := 70) (tgt := 23) dX11_row_70 (by decide) ?_
              exact ih_23 _ (by have hm9 := Sh0_e hq_23; omega) (i + 1) I_66 J23 rfl ⟨bkI_66, tkI_66, ⟨kI_66, cI_66, kJ23, by omega, by omega, by omega, by omega, ⟨by omega, by omega⟩, w66, t66⟩⟩
    exact hl_23 _ 0 I_7 Ja rfl ⟨bkI_7, tkI_7, ⟨kI_7, cI_7, (Kp_rf (a := 49) (b := 73)), rfl, rfl, rfl, rfl, ⟨by omega, by omega⟩, w7, fun j => by rw [if_neg (by omega), g7]⟩⟩
  · simp only [w32_mod] at h_11
    refine ww_aload_n hX (pc := 14) dX11_row_14 rfl ?_
    refine ww_bipush hX (pc := 15) (x := (-6)) dX11_row_15 (by decide) ?_
    refine vI1 hX (pc := 17) sX11_105 (xs_49 hL) (n9_X11_refuses l0 hL cI_7 (by omega) (by omega)) (by decide) (Nat.le_refl 0) (Nat.le_refl 0) (Nat.le_of_ble_eq_true rfl) dX11_row_17 (fun x_17 I_17 J_17 h_17 => ?_)
    obtain ⟨h_17, qxI_17⟩ := h_17
    have kJ_17 : Kp 49 73 Ja J_17 := Kp_tr (Kp_rf (a := 49) (b := 73)) h_17.2.1
    have kI_17 : Ch [50, 51] [0, 1, 6, 10] Ia I_17 := Ch_tr kI_7 (Ch_wd h_17.1 (by decide) (by decide))
    have cI_17 : RX I_17 := h_17.2.2.1
    have qI_17 := RX_o cI_17
    have r304_I_17 : I_17 51 304 = I_7 51 304 := by rw [h_17.1.1 51 (by decide) (by decide)]
    have r305_I_17 : I_17 51 305 = I_7 51 305 := by rw [h_17.1.1 51 (by decide) (by decide)]
    have f6_I_17 : I_17 49 6 = I_7 49 6 := h_17.1.2 6 (by decide)
    have f10_I_17 : I_17 49 10 = I_7 49 10 := h_17.1.2 10 (by decide)
    have rf_I_17 : FU (I_17 51 304) = FU (I_7 51 304) := by rw [r304_I_17]
    have xv17 := h_17.2.2.2
    refine rI hX (pc := 20) hT (Nat.le_refl 0) (Nat.le_refl 0) dX11_row_20 ?_
    exact ⟨⟨kI_17, kJ_17, cI_17, by omega, (fun _ => ⟨by omega, by omega, (h_17.1.1 51 (by decide) (by decide)).trans g7⟩), (fun h9 => absurd (by omega) h9)⟩, ⟨(fun h9 => absurd h9 (by omega)), (fun _ => RQ9_tr bkI_7 tkI_7 qxI_17)⟩⟩
set_option maxHeartbeats 4000000 in
set_option maxRecDepth 20000 in
theorem c9_X11_oil (l0 : Launch) {Ia Ja : aI1} {Ra : aR1} {Sa : aS1} (hL : LY Ra Sa) (hQ : RX Ia) {a b : Int} (ha0 : -2147483648 ≤ a) (ha1 : a < 2147483648) (hb0 : -2147483648 ≤ b) (hb1 : b < 2147483648)  : CT l0 2 0 0 mX11_oil [kR (some 49), kI a, kI b] Ia Ja Ra Sa (cI (fun x I' J' => (Ch [50, 51] [0, 1] Ia I' ∧ Kp 49 73 Ja J' ∧ RX I' ∧ (¬ (0 ≤ a ∧ a < Ia 51 304 ∧ 0 ≤ b ∧ b ≤ 99) → x = -1 ∧ I' 51 = Ia 51) ∧ ((0 ≤ a ∧ a < Ia 51 304 ∧ 0 ≤ b ∧ b ≤ 99) → x = Ia 51 (256 + a.toNat) ∧ I' 51 = up1 (Ia 51) (256 + a.toNat) b)) ∧ ((0 ≤ a ∧ a < Ia 51 304 ∧ 0 ≤ b ∧ b ≤ 99) → GQ9 Ia I') ∧ (¬ (0 ≤ a ∧ a < Ia 51 304 ∧ 0 ≤ b ∧ b ≤ 99) → RQ9 x Ia I' Ja J')) Ra Sa) := by
  refine ct_in pn_X11 (Nat.le_of_ble_eq_true rfl) (fun X hX hT hIn => ?_)
  have hX : aK l0 X cX11_oil 4 RX11 (some .int) 2 0 0 := hX
  change WW X 0 [some (kR (some 49)), some (kI a), some (kI b), none] [] Ia Ja Ra Sa 0 0
  have qIa := RX_o hQ
  refine ww_aload_n hX (pc := 0) dX11_oil_0 rfl ?_
  refine ww_iload_n hX (pc := 1) dX11_oil_1 rfl ?_
  refine vI1 hX (pc := 2) sX11_116 (xs_49 hL) (c_X11_isLamp l0 hL hQ (by omega) (by omega)) (by decide) (Nat.le_refl 0) (Nat.le_refl 0) (Nat.le_of_ble_eq_true rfl) dX11_oil_2 (fun x_2 I_2 J_2 h_2 => ?_)
  obtain ⟨rfl, rfl, h_2⟩ := h_2
  refine ww_if_eq hX (pc := 5) (tgt := 18) dX11_oil_5 (by decide) (fun h_5 => ?_) (fun h_5 => ?_)
  · simp only [w32_mod] at h_5
    refine ww_aload_n hX (pc := 18) dX11_oil_18 rfl ?_
    refine ww_iconst hX (pc := 19) (x := (-1)) dX11_oil_19 rfl ?_
    refine vI1 hX (pc := 20) sX11_105 (xs_49 hL) (n9_X11_refuses l0 hL hQ (by omega) (by omega)) (by decide) (Nat.le_refl 0) (Nat.le_refl 0) (Nat.le_of_ble_eq_true rfl) dX11_oil_20 (fun x_20 I_20 J_20 h_20 => ?_)
    obtain ⟨h_20, qxI_20⟩ := h_20
    have kJ_20 : Kp 49 73 Ja J_20 := Kp_tr (Kp_rf (a := 49) (b := 73)) h_20.2.1
    have kI_20 : Ch [50, 51] [0, 1] Ia I_20 := Ch_tr Ch_rf (Ch_wd h_20.1 (by decide) (by decide))
    have cI_20 : RX I_20 := h_20.2.2.1
    have qI_20 := RX_o cI_20
    have r304_I_20 : I_20 51 304 = Ia 51 304 := by rw [h_20.1.1 51 (by decide) (by decide)]
    have r305_I_20 : I_20 51 305 = Ia 51 305 := by rw [h_20.1.1 51 (by decide) (by decide)]
    have rf_I_20 : FU (I_20 51 304) = FU (Ia 51 304) := by rw [r304_I_20]
    have xv20 := h_20.2.2.2
    refine rI hX (pc := 23) hT (Nat.le_refl 0) (Nat.le_refl 0) dX11_oil_23 ?_
    exact ⟨⟨kI_20, kJ_20, cI_20, (fun _ => ⟨xv20, h_20.1.1 51 (by decide) (by decide)⟩), (fun h9 => absurd h9 (by omega))⟩, ⟨(fun h9 => absurd h9 (by omega)), (fun _ => RQ9_tr BK9_rf TK9_rf qxI_20)⟩⟩
  · simp only [w32_mod] at h_5
    have k_2 := h_2.2.mp (by omega)
    clear h_2
    refine ww_iload_n hX (pc := 8) dX11_oil_8 rfl ?_
    refine ww_iconst hX (pc := 9) (x := 0) dX11_oil_9 rfl ?_
    refine ww_bipush hX (pc := 10) (x := 99) dX11_oil_10 (by decide) ?_
    refine sI3 hX (pc := 12) sX11_101 (c_X11_lies l0 (by omega) (by omega) (by omega) (by omega) (by omega) (by omega)) (by decide) (Nat.le_refl 0) (Nat.le_refl 0) (Nat.le_of_ble_eq_true rfl) dX11_oil_12 (fun x_12 I_12 J_12 h_12 => ?_)
    obtain ⟨rfl, rfl, h_12⟩ := h_12
    refine ww_if_ne hX (pc := 15) (tgt := 24) dX11_oil_15 (by decide) (fun h_15 => ?_) (fun h_15 => ?_)
    · simp only [w32_mod] at h_15
      have k_12 := h_12.2.mp (by omega)
      clear h_12
      refine ww_aload_n hX (pc := 24) dX11_oil_24 rfl ?_
      refine ww_getR hX (pc := 25) fX11_20 (by decide) (xs_49 hL) (xr_49_3 hL) dX11_oil_25 ?_
      refine ww_sipush hX (pc := 28) (x := 256) dX11_oil_28 (by decide) ?_
      refine ww_iload_n hX (pc := 31) dX11_oil_31 rfl ?_
      refine ww_iadd hX (pc := 32) dX11_oil_32 ?_
      refine ww_iald hX (pc := 33) (xs_51 hL) (by decide) (by omega) (by omega) dX11_oil_33 ?_
      refine ww_nmI (fun v_34 hv_34 => ?_)
      refine ww_istore_n hX (pc := 34) (lv' := [some (kR (some 49)), some (kI a), some (kI b), some (kI v_34)]) dX11_oil_34 (by decide) rfl rfl ?_
      refine ww_aload_n hX (pc := 35) dX11_oil_35 rfl ?_
      refine ww_getR hX (pc := 36) fX11_20 (by decide) (xs_49 hL) (xr_49_3 hL) dX11_oil_36 ?_
      refine ww_sipush hX (pc := 39) (x := 256) dX11_oil_39 (by decide) ?_
      refine ww_iload_n hX (pc := 42) dX11_oil_42 rfl ?_
      refine ww_iadd hX (pc := 43) dX11_oil_43 ?_
      refine ww_iload_n hX (pc := 44) dX11_oil_44 rfl ?_
      refine ww_iast hX (pc := 45) (xs_51 hL) (by decide) (by omega) (by omega) dX11_oil_45 ?_
      refine ww_nmH (fun I_45 eI_45 => ?_)
      have kI_45 : Ch [50, 51] [0, 1] Ia I_45 := by rw [eI_45]; exact Ch_r Ch_rf (by decide) (by decide)
      have cI_45 : RX I_45 := by rw [eI_45]; exact RX_lo hQ (by omega)
      have qI_45 := RX_o cI_45
      have r304_I_45 : I_45 51 304 = Ia 51 304 := by rw [eI_45, up2_n _ _ (Or.inr (by omega))]
      have r305_I_45 : I_45 51 305 = Ia 51 305 := by rw [eI_45, up2_n _ _ (Or.inr (by omega))]
      have rf_I_45 : FU (I_45 51 304) = FU (Ia 51 304) := by rw [r304_I_45]
      have g45 : I_45 51 = up1 (Ia 51) (256 + a.toNat) b := by rw [eI_45, up2_row, show (256 + a).toNat = 256 + a.toNat by omega]
      have bkI_45 : BK9 Ia I_45 := by rw [eI_45]; exact BK9_up BK9_rf (by decide)
      have tkI_45 : TK9 Ia I_45 Ja Ja := by rw [eI_45]; exact TK9_up TK9_rf (by decide)
      refine ww_aload_n hX (pc := 46) dX11_oil_46 rfl ?_
      refine ww_iload_n hX (pc := 47) dX11_oil_47 rfl ?_
      refine vI1 hX (pc := 48) sX11_109 (xs_49 hL) (n9_X11_good l0 hL cI_45) (by decide) (Nat.le_refl 0) (Nat.le_refl 0) (Nat.le_of_ble_eq_true rfl) dX11_oil_48 (fun x_48 I_48 J_48 h_48 => ?_)
      obtain ⟨h_48, qxI_48⟩ := h_48
      have kJ_48 : Kp 49 73 Ja J_48 := Kp_tr (Kp_rf (a := 49) (b := 73)) h_48.2.1
      have kI_48 : Ch [50, 51] [0, 1] Ia I_48 := Ch_tr kI_45 (Ch_wd h_48.1 (by decide) (by decide))
      have cI_48 : RX I_48 := h_48.2.2.1
      have qI_48 := RX_o cI_48
      have r304_I_48 : I_48 51 304 = I_45 51 304 := by rw [h_48.1.1 51 (by decide) (by decide)]
      have r305_I_48 : I_48 51 305 = I_45 51 305 := by rw [h_48.1.1 51 (by decide) (by decide)]
      have rf_I_48 : FU (I_48 51 304) = FU (I_45 51 304) := by rw [r304_I_48]
      have xv48 := h_48.2.2.2
      refine rI hX (pc := 51) hT (Nat.le_refl 0) (Nat.le_refl 0) dX11_oil_51 ?_
      exact ⟨⟨kI_48, kJ_48, cI_48, (fun h9 => absurd (by omega) h9), (fun _ => ⟨by rw [xv48, hv_34]; exact congrArg _ (by omega), by rw [h_48.1.1 51 (by decide) (by decide), g45]⟩)⟩, ⟨(fun _ => GQ9_tr bkI_45 qxI_48), (fun h9 => absurd (by omega) h9)⟩⟩
    · simp only [w32_mod] at h_15
      refine ww_aload_n hX (pc := 18) dX11_oil_18 rfl ?_
      refine ww_iconst hX (pc := 19) (x := (-1)) dX11_oil_19 rfl ?_
      refine vI1 hX (pc := 20) sX11_105 (xs_49 hL) (n9_X11_refuses l0 hL hQ (by omega) (by omega)) (by decide) (Nat.le_refl 0) (Nat.le_refl 0) (Nat.le_of_ble_eq_true rfl) dX11_oil_20 (fun x_20 I_20 J_20 h_20 => ?_)
      obtain ⟨h_20, qxI_20⟩ := h_20
      have kJ_20 : Kp 49 73 Ja J_20 := Kp_tr (Kp_rf (a := 49) (b := 73)) h_20.2.1
      have kI_20 : Ch [50, 51] [0, 1] Ia I_20 := Ch_tr Ch_rf (Ch_wd h_20.1 (by decide) (by decide))
      have cI_20 : RX I_20 := h_20.2.2.1
      have qI_20 := RX_o cI_20
      have r304_I_20 : I_20 51 304 = Ia 51 304 := by rw [h_20.1.1 51 (by decide) (by decide)]
      have r305_I_20 : I_20 51 305 = Ia 51 305 := by rw [h_20.1.1 51 (by decide) (by decide)]
      have rf_I_20 : FU (I_20 51 304) = FU (Ia 51 304) := by rw [r304_I_20]
      have xv20 := h_20.2.2.2
      refine rI hX (pc := 23) hT (Nat.le_refl 0) (Nat.le_refl 0) dX11_oil_23 ?_
      exact ⟨⟨kI_20, kJ_20, cI_20, (fun _ => ⟨xv20, h_20.1.1 51 (by decide) (by decide)⟩), (fun h9 => absurd h9 (by omega))⟩, ⟨(fun h9 => absurd h9 (by omega)), (fun _ => RQ9_tr BK9_rf TK9_rf qxI_20)⟩⟩
set_option maxHeartbeats 4000000 in
set_option maxRecDepth 20000 in
theorem c9_X11_broken (l0 : Launch) {Ia Ja : aI1} {Ra : aR1} {Sa : aS1} (hL : LY Ra Sa) (hQ : RX Ia) {a b : Int} (ha0 : -2147483648 ≤ a) (ha1 : a < 2147483648) (hb0 : -2147483648 ≤ b) (hb1 : b < 2147483648)  : CT l0 2 0 0 mX11_broken [kR (some 49), kI a, kI b] Ia Ja Ra Sa (cI (fun x I' J' => (Ch [50, 51] [0, 1] Ia I' ∧ Kp 49 73 Ja J' ∧ RX I' ∧ (¬ (0 ≤ a ∧ a < Ia 51 304 ∧ 0 ≤ b ∧ b ≤ 1) → x = -1 ∧ I' 51 = Ia 51) ∧ ((0 ≤ a ∧ a < Ia 51 304 ∧ 0 ≤ b ∧ b ≤ 1) → x = i_and (i_shr (Ia 51 306) a) 1 ∧ I' 51 = up1 (Ia 51) 306 (i_or (i_and (Ia 51 306) (i_xor (i_shl 1 a) (-1))) (i_shl b a)))) ∧ ((0 ≤ a ∧ a < Ia 51 304 ∧ 0 ≤ b ∧ b ≤ 1) → GQ9 Ia I') ∧ (¬ (0 ≤ a ∧ a < Ia 51 304 ∧ 0 ≤ b ∧ b ≤ 1) → RQ9 x Ia I' Ja J')) Ra Sa) := by
  refine ct_in pn_X11 (Nat.le_of_ble_eq_true rfl) (fun X hX hT hIn => ?_)
  have hX : aK l0 X cX11_broken 4 RX11 (some .int) 2 0 0 := hX
  change WW X 0 [some (kR (some 49)), some (kI a), some (kI b), none] [] Ia Ja Ra Sa 0 0
  have qIa := RX_o hQ
  refine ww_aload_n hX (pc := 0) dX11_broken_0 rfl ?_
  refine ww_iload_n hX (pc := 1) dX11_broken_1 rfl ?_
  refine vI1 hX (pc := 2) sX11_116 (xs_49 hL) (c_X11_isLamp l0 hL hQ (by omega) (by omega)) (by decide) (Nat.le_refl 0) (Nat.le_refl 0) (Nat.le_of_ble_eq_true rfl) dX11_broken_2 (fun x_2 I_2 J_2 h_2 => ?_)
  obtain ⟨rfl, rfl, h_2⟩ := h_2
  refine ww_if_eq hX (pc := 5) (tgt := 17) dX11_broken_5 (by decide) (fun h_5 => ?_) (fun h_5 => ?_)
  · simp only [w32_mod] at h_5
    refine ww_aload_n hX (pc := 17) dX11_broken_17 rfl ?_
    refine ww_iconst hX (pc := 18) (x := (-1)) dX11_broken_18 rfl ?_
    refine vI1 hX (pc := 19) sX11_105 (xs_49 hL) (n9_X11_refuses l0 hL hQ (by omega) (by omega)) (by decide) (Nat.le_refl 0) (Nat.le_refl 0) (Nat.le_of_ble_eq_true rfl) dX11_broken_19 (fun x_19 I_19 J_19 h_19 => ?_)
    obtain ⟨h_19, qxI_19⟩ := h_19
    have kJ_19 : Kp 49 73 Ja J_19 := Kp_tr (Kp_rf (a := 49) (b := 73)) h_19.2.1
    have kI_19 : Ch [50, 51] [0, 1] Ia I_19 := Ch_tr Ch_rf (Ch_wd h_19.1 (by decide) (by decide))
    have cI_19 : RX I_19 := h_19.2.2.1
    have qI_19 := RX_o cI_19
    have r304_I_19 : I_19 51 304 = Ia 51 304 := by rw [h_19.1.1 51 (by decide) (by decide)]
    have r305_I_19 : I_19 51 305 = Ia 51 305 := by rw [h_19.1.1 51 (by decide) (by decide)]
    have rf_I_19 : FU (I_19 51 304) = FU (Ia 51 304) := by rw [r304_I_19]
    have xv19 := h_19.2.2.2
    refine rI hX (pc := 22) hT (Nat.le_refl 0) (Nat.le_refl 0) dX11_broken_22 ?_
    exact ⟨⟨kI_19, kJ_19, cI_19, (fun _ => ⟨xv19, h_19.1.1 51 (by decide) (by decide)⟩), (fun h9 => absurd h9 (by omega))⟩, ⟨(fun h9 => absurd h9 (by omega)), (fun _ => RQ9_tr BK9_rf TK9_rf qxI_19)⟩⟩
  · simp only [w32_mod] at h_5
    have k_2 := h_2.2.mp (by omega)
    clear h_2
    refine ww_iload_n hX (pc := 8) dX11_broken_8 rfl ?_
    refine ww_iconst hX (pc := 9) (x := 0) dX11_broken_9 rfl ?_
    refine ww_iconst hX (pc := 10) (x := 1) dX11_broken_10 rfl ?_
    refine sI3 hX (pc := 11) sX11_101 (c_X11_lies l0 (by omega) (by omega) (by omega) (by omega) (by omega) (by omega)) (by decide) (Nat.le_refl 0) (Nat.le_refl 0) (Nat.le_of_ble_eq_true rfl) dX11_broken_11 (fun x_11 I_11 J_11 h_11 => ?_)
    obtain ⟨rfl, rfl, h_11⟩ := h_11
    refine ww_if_ne hX (pc := 14) (tgt := 23) dX11_broken_14 (by decide) (fun h_14 => ?_) (fun h_14 => ?_)
    · simp only [w32_mod] at h_14
      have k_11 := h_11.2.mp (by omega)
      clear h_11
      refine ww_aload_n hX (pc := 23) dX11_broken_23 rfl ?_
      refine ww_getR hX (pc := 24) fX11_20 (by decide) (xs_49 hL) (xr_49_3 hL) dX11_broken_24 ?_
      refine ww_sipush hX (pc := 27) (x := 306) dX11_broken_27 (by decide) ?_
      refine ww_iald hX (pc := 30) (xs_51 hL) (by decide) (by omega) (by omega) dX11_broken_30 ?_
      refine ww_toI (b := Ia 51 306) rfl ?_
      refine ww_iload_n hX (pc := 31) dX11_broken_31 rfl ?_
      refine ww_ishr hX (pc := 32) dX11_broken_32 ?_
      refine ww_iconst hX (pc := 33) (x := 1) dX11_broken_33 rfl ?_
      refine ww_iand hX (pc := 34) dX11_broken_34 ?_
      refine ww_nmI (fun v_35 hv_35 => ?_)
      refine ww_istore_n hX (pc := 35) (lv' := [some (kR (some 49)), some (kI a), some (kI b), some (kI v_35)]) dX11_broken_35 (by decide) rfl rfl ?_
      refine ww_aload_n hX (pc := 36) dX11_broken_36 rfl ?_
      refine ww_getR hX (pc := 37) fX11_20 (by decide) (xs_49 hL) (xr_49_3 hL) dX11_broken_37 ?_
      refine ww_sipush hX (pc := 40) (x := 306) dX11_broken_40 (by decide) ?_
      refine ww_aload_n hX (pc := 43) dX11_broken_43 rfl ?_
      refine ww_getR hX (pc := 44) fX11_20 (by decide) (xs_49 hL) (xr_49_3 hL) dX11_broken_44 ?_
      refine ww_sipush hX (pc := 47) (x := 306) dX11_broken_47 (by decide) ?_
      refine ww_iald hX (pc := 50) (xs_51 hL) (by decide) (by omega) (by omega) dX11_broken_50 ?_
      refine ww_toI (b := Ia 51 306) rfl ?_
      refine ww_iconst hX (pc := 51) (x := 1) dX11_broken_51 rfl ?_
      refine ww_iload_n hX (pc := 52) dX11_broken_52 rfl ?_
      refine ww_ishl hX (pc := 53) dX11_broken_53 ?_
      refine ww_iconst hX (pc := 54) (x := (-1)) dX11_broken_54 rfl ?_
      refine ww_ixor hX (pc := 55) dX11_broken_55 ?_
      refine ww_iand hX (pc := 56) dX11_broken_56 ?_
      refine ww_iload_n hX (pc := 57) dX11_broken_57 rfl ?_
      refine ww_iload_n hX (pc := 58) dX11_broken_58 rfl ?_
      refine ww_ishl hX (pc := 59) dX11_broken_59 ?_
      refine ww_ior hX (pc := 60) dX11_broken_60 ?_
      refine ww_iast hX (pc := 61) (xs_51 hL) (by decide) (by omega) (by omega) dX11_broken_61 ?_
      refine ww_nmH (fun I_61 eI_61 => ?_)
      have kI_61 : Ch [50, 51] [0, 1] Ia I_61 := by rw [eI_61]; exact Ch_r Ch_rf (by decide) (by decide)
      have cI_61 : RX I_61 := by rw [eI_61]; exact RX_lo hQ (by decide)
      have qI_61 := RX_o cI_61
      have r304_I_61 : I_61 51 304 = Ia 51 304 := by rw [eI_61, up2_n _ _ (Or.inr (by decide))]
      have r305_I_61 : I_61 51 305 = Ia 51 305 := by rw [eI_61, up2_n _ _ (Or.inr (by decide))]
      have rf_I_61 : FU (I_61 51 304) = FU (Ia 51 304) := by rw [r304_I_61]
      have g61 : I_61 51 = up1 (Ia 51) 306 (i_or (i_and (Ia 51 306) (i_xor (i_shl 1 a) (-1))) (i_shl b a)) := by rw [eI_61, up2_row]; rfl
      have bkI_61 : BK9 Ia I_61 := by rw [eI_61]; exact BK9_up BK9_rf (by decide)
      have tkI_61 : TK9 Ia I_61 Ja Ja := by rw [eI_61]; exact TK9_up TK9_rf (by decide)
      refine ww_aload_n hX (pc := 62) dX11_broken_62 rfl ?_
      refine ww_iload_n hX (pc := 63) dX11_broken_63 rfl ?_
      refine vI1 hX (pc := 64) sX11_109 (xs_49 hL) (n9_X11_good l0 hL cI_61) (by decide) (Nat.le_refl 0) (Nat.le_refl 0) (Nat.le_of_ble_eq_true rfl) dX11_broken_64 (fun x_64 I_64 J_64 h_64 => ?_)
      obtain ⟨h_64, qxI_64⟩ := h_64
      have kJ_64 : Kp 49 73 Ja J_64 := Kp_tr (Kp_rf (a := 49) (b := 73)) h_64.2.1
      have kI_64 : Ch [50, 51] [0, 1] Ia I_64 := Ch_tr kI_61 (Ch_wd h_64.1 (by decide) (by decide))
      have cI_64 : RX I_64 := h_64.2.2.1
      have qI_64 := RX_o cI_64
      have r304_I_64 : I_64 51 304 = I_61 51 304 := by rw [h_64.1.1 51 (by decide) (by decide)]
      have r305_I_64 : I_64 51 305 = I_61 51 305 := by rw [h_64.1.1 51 (by decide) (by decide)]
      have rf_I_64 : FU (I_64 51 304) = FU (I_61 51 304) := by rw [r304_I_64]
      have xv64 := h_64.2.2.2
      refine rI hX (pc := 67) hT (Nat.le_refl 0) (Nat.le_refl 0) dX11_broken_67 ?_
      exact ⟨⟨kI_64, kJ_64, cI_64, (fun h9 => absurd (by omega) h9), (fun _ => ⟨by rw [xv64, hv_35], by rw [h_64.1.1 51 (by decide) (by decide), g61]⟩)⟩, ⟨(fun _ => GQ9_tr bkI_61 qxI_64), (fun h9 => absurd (by omega) h9)⟩⟩
    · simp only [w32_mod] at h_14
      refine ww_aload_n hX (pc := 17) dX11_broken_17 rfl ?_
      refine ww_iconst hX (pc := 18) (x := (-1)) dX11_broken_18 rfl ?_
      refine vI1 hX (pc := 19) sX11_105 (xs_49 hL) (n9_X11_refuses l0 hL hQ (by omega) (by omega)) (by decide) (Nat.le_refl 0) (Nat.le_refl 0) (Nat.le_of_ble_eq_true rfl) dX11_broken_19 (fun x_19 I_19 J_19 h_19 => ?_)
      obtain ⟨h_19, qxI_19⟩ := h_19
      have kJ_19 : Kp 49 73 Ja J_19 := Kp_tr (Kp_rf (a := 49) (b := 73)) h_19.2.1
      have kI_19 : Ch [50, 51] [0, 1] Ia I_19 := Ch_tr Ch_rf (Ch_wd h_19.1 (by decide) (by decide))
      have cI_19 : RX I_19 := h_19.2.2.1
      have qI_19 := RX_o cI_19
      have r304_I_19 : I_19 51 304 = Ia 51 304 := by rw [h_19.1.1 51 (by decide) (by decide)]
      have r305_I_19 : I_19 51 305 = Ia 51 305 := by rw [h_19.1.1 51 (by decide) (by decide)]
      have rf_I_19 : FU (I_19 51 304) = FU (Ia 51 304) := by rw [r304_I_19]
      have xv19 := h_19.2.2.2
      refine rI hX (pc := 22) hT (Nat.le_refl 0) (Nat.le_refl 0) dX11_broken_22 ?_
      exact ⟨⟨kI_19, kJ_19, cI_19, (fun _ => ⟨xv19, h_19.1.1 51 (by decide) (by decide)⟩), (fun h9 => absurd h9 (by omega))⟩, ⟨(fun h9 => absurd h9 (by omega)), (fun _ => RQ9_tr BK9_rf TK9_rf qxI_19)⟩⟩
set_option maxHeartbeats 4000000 in
set_option maxRecDepth 20000 in
theorem c9_X11_read (l0 : Launch) {Ia Ja : aI1} {Ra : aR1} {Sa : aS1} (hL : LY Ra Sa) (hQ : RX Ia) {a b : Int} (ha0 : -2147483648 ≤ a) (ha1 : a < 2147483648) (hb0 : -2147483648 ≤ b) (hb1 : b < 2147483648)  : CT l0 2 0 0 mX11_read [kR (some 49), kI a, kI b] Ia Ja Ra Sa (cI (fun x I' J' => (Ch [50, 51] [0, 1] Ia I' ∧ Kp 49 73 Ja J' ∧ RX I' ∧ (¬ (0 ≤ a ∧ a ≤ FU (Ia 51 304) ∧ (b = -1 ∨ (0 ≤ b ∧ b < Ia 51 305))) → x = -1 ∧ I' 51 = Ia 51) ∧ ((0 ≤ a ∧ a ≤ FU (Ia 51 304) ∧ (b = -1 ∨ (0 ≤ b ∧ b < Ia 51 305))) → x = Ia 51 a.toNat ∧ I' 51 = up1 (Ia 51) a.toNat b)) ∧ ((0 ≤ a ∧ a ≤ FU (Ia 51 304) ∧ (b = -1 ∨ (0 ≤ b ∧ b < Ia 51 305))) → GQ9 Ia I') ∧ (¬ (0 ≤ a ∧ a ≤ FU (Ia 51 304) ∧ (b = -1 ∨ (0 ≤ b ∧ b < Ia 51 305))) → RQ9 x Ia I' Ja J')) Ra Sa) := by
  refine ct_in pn_X11 (Nat.le_of_ble_eq_true rfl) (fun X hX hT hIn => ?_)
  have hX : aK l0 X cX11_read 4 RX11 (some .int) 2 0 0 := hX
  change WW X 0 [some (kR (some 49)), some (kI a), some (kI b), none] [] Ia Ja Ra Sa 0 0
  have qIa := RX_o hQ
  refine ww_aload_n hX (pc := 0) dX11_read_0 rfl ?_
  refine ww_iload_n hX (pc := 1) dX11_read_1 rfl ?_
  refine vI1 hX (pc := 2) sX11_120 (xs_49 hL) (c_X11_isState l0 hL hQ (by omega) (by omega)) (by decide) (Nat.le_refl 0) (Nat.le_refl 0) (Nat.le_of_ble_eq_true rfl) dX11_read_2 (fun x_2 I_2 J_2 h_2 => ?_)
  obtain ⟨rfl, rfl, h_2⟩ := h_2
  refine ww_if_eq hX (pc := 5) (tgt := 21) dX11_read_5 (by decide) (fun h_5 => ?_) (fun h_5 => ?_)
  · simp only [w32_mod] at h_5
    refine ww_aload_n hX (pc := 21) dX11_read_21 rfl ?_
    refine ww_iconst hX (pc := 22) (x := (-1)) dX11_read_22 rfl ?_
    refine vI1 hX (pc := 23) sX11_105 (xs_49 hL) (n9_X11_refuses l0 hL hQ (by omega) (by omega)) (by decide) (Nat.le_refl 0) (Nat.le_refl 0) (Nat.le_of_ble_eq_true rfl) dX11_read_23 (fun x_23 I_23 J_23 h_23 => ?_)
    obtain ⟨h_23, qxI_23⟩ := h_23
    have kJ_23 : Kp 49 73 Ja J_23 := Kp_tr (Kp_rf (a := 49) (b := 73)) h_23.2.1
    have kI_23 : Ch [50, 51] [0, 1] Ia I_23 := Ch_tr Ch_rf (Ch_wd h_23.1 (by decide) (by decide))
    have cI_23 : RX I_23 := h_23.2.2.1
    have qI_23 := RX_o cI_23
    have r304_I_23 : I_23 51 304 = Ia 51 304 := by rw [h_23.1.1 51 (by decide) (by decide)]
    have r305_I_23 : I_23 51 305 = Ia 51 305 := by rw [h_23.1.1 51 (by decide) (by decide)]
    have rf_I_23 : FU (I_23 51 304) = FU (Ia 51 304) := by rw [r304_I_23]
    have xv23 := h_23.2.2.2
    refine rI hX (pc := 26) hT (Nat.le_refl 0) (Nat.le_refl 0) dX11_read_26 ?_
    exact ⟨⟨kI_23, kJ_23, cI_23, (fun _ => ⟨xv23, h_23.1.1 51 (by decide) (by decide)⟩), (fun h9 => absurd h9 (by omega))⟩, ⟨(fun h9 => absurd h9 (by omega)), (fun _ => RQ9_tr BK9_rf TK9_rf qxI_23)⟩⟩
  · simp only [w32_mod] at h_5
    have k_2 := h_2.2.mp (by omega)
    clear h_2
    refine ww_iload_n hX (pc := 8) dX11_read_8 rfl ?_
    refine ww_iconst hX (pc := 9) (x := (-1)) dX11_read_9 rfl ?_
    refine ww_icmp_eq hX (pc := 10) (tgt := 27) dX11_read_10 (by decide) (fun h_10 => ?_) (fun h_10 => ?_)
    · simp only [w32_mod] at h_10
      refine ww_aload_n hX (pc := 27) dX11_read_27 rfl ?_
      refine ww_iload_n hX (pc := 28) dX11_read_28 rfl ?_
      refine vI1 hX (pc := 29) sX11_126 (xs_49 hL) (c_X11_readOf l0 hL hQ (by omega) (by omega)) (by decide) (Nat.le_refl 0) (Nat.le_refl 0) (Nat.le_of_ble_eq_true rfl) dX11_read_29 (fun x_29 I_29 J_29 h_29 => ?_)
      obtain ⟨rfl, rfl, h_29⟩ := h_29
      refine ww_istore_n hX (pc := 32) (lv' := [some (kR (some 49)), some (kI a), some (kI b), some (kI x_29)]) dX11_read_32 (by decide) rfl rfl ?_
      refine ww_aload_n hX (pc := 33) dX11_read_33 rfl ?_
      refine ww_getR hX (pc := 34) fX11_20 (by decide) (xs_49 hL) (xr_49_3 hL) dX11_read_34 ?_
      refine ww_iconst hX (pc := 37) (x := 0) dX11_read_37 rfl ?_
      refine ww_iload_n hX (pc := 38) dX11_read_38 rfl ?_
      refine ww_iadd hX (pc := 39) dX11_read_39 ?_
      refine ww_iload_n hX (pc := 40) dX11_read_40 rfl ?_
      refine ww_iast hX (pc := 41) (xs_51 hL) (by decide) (by omega) (by omega) dX11_read_41 ?_
      refine ww_nmH (fun I_41 eI_41 => ?_)
      have kI_41 : Ch [50, 51] [0, 1] Ia I_41 := by rw [eI_41]; exact Ch_r Ch_rf (by decide) (by decide)
      have cI_41 : RX I_41 := by rw [eI_41]; exact RX_lo hQ (by omega)
      have qI_41 := RX_o cI_41
      have r304_I_41 : I_41 51 304 = Ia 51 304 := by rw [eI_41, up2_n _ _ (Or.inr (by omega))]
      have r305_I_41 : I_41 51 305 = Ia 51 305 := by rw [eI_41, up2_n _ _ (Or.inr (by omega))]
      have rf_I_41 : FU (I_41 51 304) = FU (Ia 51 304) := by rw [r304_I_41]
      have g41 : I_41 51 = up1 (Ia 51) a.toNat b := by rw [eI_41, up2_row, show (0 + a).toNat = a.toNat by omega]
      have bkI_41 : BK9 Ia I_41 := by rw [eI_41]; exact BK9_up BK9_rf (by decide)
      have tkI_41 : TK9 Ia I_41 Ja Ja := by rw [eI_41]; exact TK9_up TK9_rf (by decide)
      refine ww_aload_n hX (pc := 42) dX11_read_42 rfl ?_
      refine ww_iload_n hX (pc := 43) dX11_read_43 rfl ?_
      refine vI1 hX (pc := 44) sX11_109 (xs_49 hL) (n9_X11_good l0 hL cI_41) (by decide) (Nat.le_refl 0) (Nat.le_refl 0) (Nat.le_of_ble_eq_true rfl) dX11_read_44 (fun x_44 I_44 J_44 h_44 => ?_)
      obtain ⟨h_44, qxI_44⟩ := h_44
      have kJ_44 : Kp 49 73 Ja J_44 := Kp_tr (Kp_rf (a := 49) (b := 73)) h_44.2.1
      have kI_44 : Ch [50, 51] [0, 1] Ia I_44 := Ch_tr kI_41 (Ch_wd h_44.1 (by decide) (by decide))
      have cI_44 : RX I_44 := h_44.2.2.1
      have qI_44 := RX_o cI_44
      have r304_I_44 : I_44 51 304 = I_41 51 304 := by rw [h_44.1.1 51 (by decide) (by decide)]
      have r305_I_44 : I_44 51 305 = I_41 51 305 := by rw [h_44.1.1 51 (by decide) (by decide)]
      have rf_I_44 : FU (I_44 51 304) = FU (I_41 51 304) := by rw [r304_I_44]
      have xv44 := h_44.2.2.2
      refine rI hX (pc := 47) hT (Nat.le_refl 0) (Nat.le_refl 0) dX11_read_47 ?_
      exact ⟨⟨kI_44, kJ_44, cI_44, (fun h9 => absurd (by omega) h9), (fun _ => ⟨by rw [xv44]; exact h_29, by rw [h_44.1.1 51 (by decide) (by decide), g41]⟩)⟩, ⟨(fun _ => GQ9_tr bkI_41 qxI_44), (fun h9 => absurd (by omega) h9)⟩⟩
    · simp only [w32_mod] at h_10
      refine ww_aload_n hX (pc := 13) dX11_read_13 rfl ?_
      refine ww_iload_n hX (pc := 14) dX11_read_14 rfl ?_
      refine vI1 hX (pc := 15) sX11_123 (xs_49 hL) (c_X11_isNews l0 hL hQ (by omega) (by omega)) (by decide) (Nat.le_refl 0) (Nat.le_refl 0) (Nat.le_of_ble_eq_true rfl) dX11_read_15 (fun x_15 I_15 J_15 h_15 => ?_)
      obtain ⟨rfl, rfl, h_15⟩ := h_15
      refine ww_if_ne hX (pc := 18) (tgt := 27) dX11_read_18 (by decide) (fun h_18 => ?_) (fun h_18 => ?_)
      · simp only [w32_mod] at h_18
        have k_15 := h_15.2.mp (by omega)
        clear h_15
        refine ww_aload_n hX (pc := 27) dX11_read_27 rfl ?_
        refine ww_iload_n hX (pc := 28) dX11_read_28 rfl ?_
        refine vI1 hX (pc := 29) sX11_126 (xs_49 hL) (c_X11_readOf l0 hL hQ (by omega) (by omega)) (by decide) (Nat.le_refl 0) (Nat.le_refl 0) (Nat.le_of_ble_eq_true rfl) dX11_read_29 (fun x_29 I_29 J_29 h_29 => ?_)
        obtain ⟨rfl, rfl, h_29⟩ := h_29
        refine ww_istore_n hX (pc := 32) (lv' := [some (kR (some 49)), some (kI a), some (kI b), some (kI x_29)]) dX11_read_32 (by decide) rfl rfl ?_
        refine ww_aload_n hX (pc := 33) dX11_read_33 rfl ?_
        refine ww_getR hX (pc := 34) fX11_20 (by decide) (xs_49 hL) (xr_49_3 hL) dX11_read_34 ?_
        refine ww_iconst hX (pc := 37) (x := 0) dX11_read_37 rfl ?_
        refine ww_iload_n hX (pc := 38) dX11_read_38 rfl ?_
        refine ww_iadd hX (pc := 39) dX11_read_39 ?_
        refine ww_iload_n hX (pc := 40) dX11_read_40 rfl ?_
        refine ww_iast hX (pc := 41) (xs_51 hL) (by decide) (by omega) (by omega) dX11_read_41 ?_
        refine ww_nmH (fun I_41 eI_41 => ?_)
        have kI_41 : Ch [50, 51] [0, 1] Ia I_41 := by rw [eI_41]; exact Ch_r Ch_rf (by decide) (by decide)
        have cI_41 : RX I_41 := by rw [eI_41]; exact RX_lo hQ (by omega)
        have qI_41 := RX_o cI_41
        have r304_I_41 : I_41 51 304 = Ia 51 304 := by rw [eI_41, up2_n _ _ (Or.inr (by omega))]
        have r305_I_41 : I_41 51 305 = Ia 51 305 := by rw [eI_41, up2_n _ _ (Or.inr (by omega))]
        have rf_I_41 : FU (I_41 51 304) = FU (Ia 51 304) := by rw [r304_I_41]
        have g41 : I_41 51 = up1 (Ia 51) a.toNat b := by rw [eI_41, up2_row, show (0 + a).toNat = a.toNat by omega]
        have bkI_41 : BK9 Ia I_41 := by rw [eI_41]; exact BK9_up BK9_rf (by decide)
        have tkI_41 : TK9 Ia I_41 Ja Ja := by rw [eI_41]; exact TK9_up TK9_rf (by decide)
        refine ww_aload_n hX (pc := 42) dX11_read_42 rfl ?_
        refine ww_iload_n hX (pc := 43) dX11_read_43 rfl ?_
        refine vI1 hX (pc := 44) sX11_109 (xs_49 hL) (n9_X11_good l0 hL cI_41) (by decide) (Nat.le_refl 0) (Nat.le_refl 0) (Nat.le_of_ble_eq_true rfl) dX11_read_44 (fun x_44 I_44 J_44 h_44 => ?_)
        obtain ⟨h_44, qxI_44⟩ := h_44
        have kJ_44 : Kp 49 73 Ja J_44 := Kp_tr (Kp_rf (a := 49) (b := 73)) h_44.2.1
        have kI_44 : Ch [50, 51] [0, 1] Ia I_44 := Ch_tr kI_41 (Ch_wd h_44.1 (by decide) (by decide))
        have cI_44 : RX I_44 := h_44.2.2.1
        have qI_44 := RX_o cI_44
        have r304_I_44 : I_44 51 304 = I_41 51 304 := by rw [h_44.1.1 51 (by decide) (by decide)]
        have r305_I_44 : I_44 51 305 = I_41 51 305 := by rw [h_44.1.1 51 (by decide) (by decide)]
        have rf_I_44 : FU (I_44 51 304) = FU (I_41 51 304) := by rw [r304_I_44]
        have xv44 := h_44.2.2.2
        refine rI hX (pc := 47) hT (Nat.le_refl 0) (Nat.le_refl 0) dX11_read_47 ?_
        exact ⟨⟨kI_44, kJ_44, cI_44, (fun h9 => absurd (by omega) h9), (fun _ => ⟨by rw [xv44]; exact h_29, by rw [h_44.1.1 51 (by decide) (by decide), g41]⟩)⟩, ⟨(fun _ => GQ9_tr bkI_41 qxI_44), (fun h9 => absurd (by omega) h9)⟩⟩
      · simp only [w32_mod] at h_18
        refine ww_aload_n hX (pc := 21) dX11_read_21 rfl ?_
        refine ww_iconst hX (pc := 22) (x := (-1)) dX11_read_22 rfl ?_
        refine vI1 hX (pc := 23) sX11_105 (xs_49 hL) (n9_X11_refuses l0 hL hQ (by omega) (by omega)) (by decide) (Nat.le_refl 0) (Nat.le_refl 0) (Nat.le_of_ble_eq_true rfl) dX11_read_23 (fun x_23 I_23 J_23 h_23 => ?_)
        obtain ⟨h_23, qxI_23⟩ := h_23
        have kJ_23 : Kp 49 73 Ja J_23 := Kp_tr (Kp_rf (a := 49) (b := 73)) h_23.2.1
        have kI_23 : Ch [50, 51] [0, 1] Ia I_23 := Ch_tr Ch_rf (Ch_wd h_23.1 (by decide) (by decide))
        have cI_23 : RX I_23 := h_23.2.2.1
        have qI_23 := RX_o cI_23
        have r304_I_23 : I_23 51 304 = Ia 51 304 := by rw [h_23.1.1 51 (by decide) (by decide)]
        have r305_I_23 : I_23 51 305 = Ia 51 305 := by rw [h_23.1.1 51 (by decide) (by decide)]
        have rf_I_23 : FU (I_23 51 304) = FU (Ia 51 304) := by rw [r304_I_23]
        have xv23 := h_23.2.2.2
        refine rI hX (pc := 26) hT (Nat.le_refl 0) (Nat.le_refl 0) dX11_read_26 ?_
        exact ⟨⟨kI_23, kJ_23, cI_23, (fun _ => ⟨xv23, h_23.1.1 51 (by decide) (by decide)⟩), (fun h9 => absurd h9 (by omega))⟩, ⟨(fun h9 => absurd h9 (by omega)), (fun _ => RQ9_tr BK9_rf TK9_rf qxI_23)⟩⟩
set_option maxHeartbeats 4000000 in
set_option maxRecDepth 20000 in
theorem c9_X11_empties (l0 : Launch) {Ia Ja : aI1} {Ra : aR1} {Sa : aS1} (hL : LY Ra Sa) (hQ : RX Ia)  : CT l0 0 0 0 mX11_empties [kR (some 49)] Ia Ja Ra Sa (cV (fun I' J' => (Ch [51] [] Ia I' ∧ Kp 49 73 Ja J' ∧ RX I' ∧ I' 51 = EMr (Ia 51)) ∧ QK9 Ia I' Ja J') Ra Sa) := by
  refine ct_in pn_X11 (Nat.le_of_ble_eq_true rfl) (fun X hX hT hIn => ?_)
  have hX : aK l0 X cX11_empties 2 RX11 none 0 0 0 := hX
  change WW X 0 [some (kR (some 49)), none] [] Ia Ja Ra Sa 0 0
  have qIa := RX_o hQ
  refine ww_iconst hX (pc := 0) (x := 0) dX11_empties_0 rfl ?_
  refine ww_istore_n hX (pc := 1) (lv' := [some (kR (some 49)), some (kI 0)]) dX11_empties_1 (by decide) rfl rfl ?_
  have hl_2 : ∀ (n_2 : Nat) (i : Int) (I2 : aI1) (J2 : aI1), (256 - i).toNat = n_2 → (BK9 Ia I2 ∧ TK9 Ia I2 Ja J2 ∧ (Ch [51] [] Ia I2 ∧ RX I2 ∧ Kp 49 73 Ja J2 ∧ I2 51 304 = Ia 51 304 ∧ I2 51 305 = Ia 51 305 ∧ (0 ≤ i ∧ i ≤ 256) ∧ (∀ j : Nat, I2 51 j = if (j : Int) < i then -1 else Ia 51 j))) → WW X 2 [some (kR (some 49)), some (kI i)] [] I2 J2 Ra Sa 0 0 := by
    intro n_2
    induction n_2 using Nat.strongRecOn with
    | ind n_2 ih_2 =>
      intro i I2 J2 hm_2 hv_2
      have hq_2 := Sh0_i hm_2
      clear hm_2
      obtain ⟨bkl2, tkl2, hv_2⟩ := hv_2
      obtain ⟨kI2, cI2, kJ2, r304_I2, r305_I2, hv, hej⟩ := hv_2
      have qI2 := RX_o cI2
      have rf_I2 : FU (I2 51 304) = FU (Ia 51 304) := by rw [r304_I2]
      refine ww_iload_n hX (pc := 2) dX11_empties_2 rfl ?_
      refine ww_sipush hX (pc := 3) (x := 256) dX11_empties_3 (by decide) ?_
      refine ww_icmp_ge hX (pc := 6) (tgt := 24) dX11_empties_6 (by decide) (fun h_6 => ?_) (fun h_6 => ?_)
      · simp only [w32_mod] at h_6
        refine ww_aload_n hX (pc := 24) dX11_empties_24 rfl ?_
        refine ww_getR hX (pc := 25) fX11_20 (by decide) (xs_49 hL) (xr_49_3 hL) dX11_empties_25 ?_
        refine ww_sipush hX (pc := 28) (x := 307) dX11_empties_28 (by decide) ?_
        refine ww_iconst hX (pc := 31) (x := 0) dX11_empties_31 rfl ?_
        refine ww_iast hX (pc := 32) (xs_51 hL) (by decide) (by omega) (by omega) dX11_empties_32 ?_
        refine ww_nmH (fun I_32 eI_32 => ?_)
        have kI_32 : Ch [51] [] Ia I_32 := by rw [eI_32]; exact Ch_r kI2 (by decide) (by decide)
        have cI_32 : RX I_32 := by rw [eI_32]; exact RX_307 cI2 (by omega) (by omega)
        have qI_32 := RX_o cI_32
        have r304_I_32 : I_32 51 304 = I2 51 304 := by rw [eI_32, up2_n _ _ (Or.inr (by decide))]
        have r305_I_32 : I_32 51 305 = I2 51 305 := by rw [eI_32, up2_n _ _ (Or.inr (by decide))]
        have rf_I_32 : FU (I_32 51 304) = FU (I2 51 304) := by rw [r304_I_32]
        have bkI_32 : BK9 Ia I_32 := by rw [eI_32]; exact BK9_up bkl2 (by decide)
        have tkI_32 : TK9 Ia I_32 Ja J2 := by rw [eI_32]; exact TK9_up tkl2 (by decide)
        refine ww_aload_n hX (pc := 33) dX11_empties_33 rfl ?_
        refine ww_getR hX (pc := 34) fX11_20 (by decide) (xs_49 hL) (xr_49_3 hL) dX11_empties_34 ?_
        refine ww_sipush hX (pc := 37) (x := 308) dX11_empties_37 (by decide) ?_
        refine ww_iconst hX (pc := 40) (x := 0) dX11_empties_40 rfl ?_
        refine ww_iast hX (pc := 41) (xs_51 hL) (by decide) (by omega) (by omega) dX11_empties_41 ?_
        refine ww_nmH (fun I_41 eI_41 => ?_)
        have kI_41 : Ch [51] [] Ia I_41 := by rw [eI_41]; exact Ch_r kI_32 (by decide) (by decide)
        have cI_41 : RX I_41 := by rw [eI_41]; exact RX_308 cI_32 (by omega) (by omega)
        have qI_41 := RX_o cI_41
        have r304_I_41 : I_41 51 304 = I_32 51 304 := by rw [eI_41, up2_n _ _ (Or.inr (by decide))]
        have r305_I_41 : I_41 51 305 = I_32 51 305 := by rw [eI_41, up2_n _ _ (Or.inr (by decide))]
        have rf_I_41 : FU (I_41 51 304) = FU (I_32 51 304) := by rw [r304_I_41]
        have bkI_41 : BK9 Ia I_41 := by rw [eI_41]; exact BK9_up bkI_32 (by decide)
        have tkI_41 : TK9 Ia I_41 Ja J2 := by rw [eI_41]; exact TK9_up tkI_32 (by decide)
        refine ww_aload_n hX (pc := 42) dX11_empties_42 rfl ?_
        refine ww_getR hX (pc := 43) fX11_20 (by decide) (xs_49 hL) (xr_49_3 hL) dX11_empties_43 ?_
        refine ww_sipush hX (pc := 46) (x := 309) dX11_empties_46 (by decide) ?_
        refine ww_iconst hX (pc := 49) (x := 0) dX11_empties_49 rfl ?_
        refine ww_iast hX (pc := 50) (xs_51 hL) (by decide) (by omega) (by omega) dX11_empties_50 ?_
        refine ww_nmH (fun I_50 eI_50 => ?_)
        have kI_50 : Ch [51] [] Ia I_50 := by rw [eI_50]; exact Ch_r kI_41 (by decide) (by decide)
        have cI_50 : RX I_50 := by rw [eI_50]; exact RX_309 cI_41 (by omega) (by omega)
        have qI_50 := RX_o cI_50
        have r304_I_50 : I_50 51 304 = I_41 51 304 := by rw [eI_50, up2_n _ _ (Or.inr (by decide))]
        have r305_I_50 : I_50 51 305 = I_41 51 305 := by rw [eI_50, up2_n _ _ (Or.inr (by decide))]
        have rf_I_50 : FU (I_50 51 304) = FU (I_41 51 304) := by rw [r304_I_50]
        have bkI_50 : BK9 Ia I_50 := by rw [eI_50]; exact BK9_up bkI_41 (by decide)
        have tkI_50 : TK9 Ia I_50 Ja J2 := by rw [eI_50]; exact TK9_up tkI_41 (by decide)
        refine rV hX (pc := 51) hT (Nat.le_refl 0) (Nat.le_refl 0) dX11_empties_51 ?_
        exact ⟨⟨kI_50, kJ2, cI_50, (by
            rw [eI_50, up2_row, eI_41, up2_row, eI_32, up2_row]
            funext j
            by_cases e1 : j = 309
            · subst e1; exact (up1_s _ _ _).trans (EMr_z (by decide)).symm
            · by_cases e2 : j = 308
              · subst e2; exact (up1_n _ _ (by decide)).trans ((up1_s _ _ _).trans (EMr_z (by decide)).symm)
              · by_cases e3 : j = 307
                · subst e3; exact (up1_n _ _ (by decide)).trans ((up1_n _ _ (by decide)).trans ((up1_s _ _ _).trans (EMr_z (by decide)).symm))
                · refine (up1_n _ _ e1).trans ((up1_n _ _ e2).trans ((up1_n _ _ e3).trans ?_))
                  rw [hej j]
                  by_cases e4 : j < 256
                  · rw [if_pos (by omega), EMr_c e4]
                  · rw [if_neg (by omega), EMr_o (by omega) (by omega)])⟩, bkI_50, tkI_50⟩
      · simp only [w32_mod] at h_6
        refine ww_aload_n hX (pc := 9) dX11_empties_9 rfl ?_
        refine ww_getR hX (pc := 10) fX11_20 (by decide) (xs_49 hL) (xr_49_3 hL) dX11_empties_10 ?_
        refine ww_iconst hX (pc := 13) (x := 0) dX11_empties_13 rfl ?_
        refine ww_iload_n hX (pc := 14) dX11_empties_14 rfl ?_
        refine ww_iadd hX (pc := 15) dX11_empties_15 ?_
        refine ww_iconst hX (pc := 16) (x := (-1)) dX11_empties_16 rfl ?_
        refine ww_iast hX (pc := 17) (xs_51 hL) (by decide) (by omega) (by omega) dX11_empties_17 ?_
        refine ww_nmH (fun I_17 eI_17 => ?_)
        have kI_17 : Ch [51] [] Ia I_17 := by rw [eI_17]; exact Ch_r kI2 (by decide) (by decide)
        have cI_17 : RX I_17 := by rw [eI_17]; exact RX_lo cI2 (by omega)
        have qI_17 := RX_o cI_17
        have r304_I_17 : I_17 51 304 = I2 51 304 := by rw [eI_17, up2_n _ _ (Or.inr (by omega))]
        have r305_I_17 : I_17 51 305 = I2 51 305 := by rw [eI_17, up2_n _ _ (Or.inr (by omega))]
        have rf_I_17 : FU (I_17 51 304) = FU (I2 51 304) := by rw [r304_I_17]
        have t17 : ∀ j : Nat, I_17 51 j = if (j : Int) < i + 1 then -1 else Ia 51 j := fun j => by
          rw [eI_17, up2_row]
          by_cases e9 : j = (0 + i).toNat
          · rw [e9, up1_s, if_pos (by omega)]
          · rw [up1_n _ _ e9, hej j]
            by_cases e8 : (j : Int) < i
            · rw [if_pos e8, if_pos (by omega)]
            · rw [if_neg e8, if_neg (by omega)]
        have bkI_17 : BK9 Ia I_17 := by rw [eI_17]; exact BK9_up bkl2 (by decide)
        have tkI_17 : TK9 Ia I_17 Ja J2 := by rw [eI_17]; exact TK9_up tkl2 (by decide)
        refine ww_iinc hX (pc := 18) (lv' := [some (kR (some 49)), some (kI (i + 1))]) dX11_empties_18 rfl (by decide) rfl rfl ?_
        refine ww_goto hX (pc := 21) (tgt := 2) dX11_empties_21 (by decide) ?_
        exact ih_2 _ (by have hm9 := Sh0_e hq_2; omega) (i + 1) I_17 J2 rfl ⟨bkI_17, tkI_17, ⟨kI_17, cI_17, kJ2, by omega, by omega, ⟨by omega, by omega⟩, t17⟩⟩
  exact hl_2 _ 0 Ia Ja rfl ⟨BK9_rf, TK9_rf, ⟨Ch_rf, hQ, (Kp_rf (a := 49) (b := 73)), rfl, rfl, ⟨by omega, by omega⟩, fun j => by rw [if_neg (by omega)]⟩⟩
set_option maxHeartbeats 4000000 in
set_option maxRecDepth 20000 in
theorem c9_X11_lamps (l0 : Launch) {Ia Ja : aI1} {Ra : aR1} {Sa : aS1} (hL : LY Ra Sa) (hQ : RX Ia) {a : Int} (ha0 : -2147483648 ≤ a) (ha1 : a < 2147483648)  : CT l0 1 0 0 mX11_lamps [kR (some 49), kI a] Ia Ja Ra Sa (cI (fun x I' J' => (Ch [50, 51] [0, 1] Ia I' ∧ Kp 49 73 Ja J' ∧ RX I' ∧ (¬ (1 ≤ a ∧ a ≤ 8) → x = -1 ∧ I' 51 = Ia 51) ∧ ((1 ≤ a ∧ a ≤ 8) → x = Ia 51 304 ∧ I' 51 304 = a ∧ I' 51 306 = 0 ∧ I' 51 307 = 0 ∧ I' 51 308 = 0 ∧ I' 51 309 = 0 ∧ (∀ j, j < 8 → I' 51 (256 + j) = 1) ∧ (∀ s, s < 256 → I' 51 s = -1) ∧ (∀ j : Nat, 264 ≤ j → j ≠ 304 → j ≠ 306 → j ≠ 307 → j ≠ 308 → j ≠ 309 → I' 51 j = Ia 51 j))) ∧ RGQ9 x Ia I' Ja J') Ra Sa) := by
  refine ct_in pn_X11 (Nat.le_of_ble_eq_true rfl) (fun X hX hT hIn => ?_)
  have hX : aK l0 X cX11_lamps 4 RX11 (some .int) 1 0 0 := hX
  change WW X 0 [some (kR (some 49)), some (kI a), none, none] [] Ia Ja Ra Sa 0 0
  have qIa := RX_o hQ
  refine ww_iload_n hX (pc := 0) dX11_lamps_0 rfl ?_
  refine ww_iconst hX (pc := 1) (x := 1) dX11_lamps_1 rfl ?_
  refine ww_bipush hX (pc := 2) (x := 8) dX11_lamps_2 (by decide) ?_
  refine sI3 hX (pc := 4) sX11_101 (c_X11_lies l0 (by omega) (by omega) (by omega) (by omega) (by omega) (by omega)) (by decide) (Nat.le_refl 0) (Nat.le_refl 0) (Nat.le_of_ble_eq_true rfl) dX11_lamps_4 (fun x_4 I_4 J_4 h_4 => ?_)
  obtain ⟨rfl, rfl, h_4⟩ := h_4
  refine ww_if_ne hX (pc := 7) (tgt := 16) dX11_lamps_7 (by decide) (fun h_7 => ?_) (fun h_7 => ?_)
  · simp only [w32_mod] at h_7
    have k_4 := h_4.2.mp (by omega)
    clear h_4
    refine ww_aload_n hX (pc := 16) dX11_lamps_16 rfl ?_
    refine ww_getR hX (pc := 17) fX11_20 (by decide) (xs_49 hL) (xr_49_3 hL) dX11_lamps_17 ?_
    refine ww_sipush hX (pc := 20) (x := 304) dX11_lamps_20 (by decide) ?_
    refine ww_iald hX (pc := 23) (xs_51 hL) (by decide) (by omega) (by omega) dX11_lamps_23 ?_
    refine ww_toI (b := Ia 51 304) rfl ?_
    refine ww_nmI (fun v_24 hv_24 => ?_)
    refine ww_istore_n hX (pc := 24) (lv' := [some (kR (some 49)), some (kI a), some (kI v_24), none]) dX11_lamps_24 (by decide) rfl rfl ?_
    refine ww_aload_n hX (pc := 25) dX11_lamps_25 rfl ?_
    refine ww_getR hX (pc := 26) fX11_20 (by decide) (xs_49 hL) (xr_49_3 hL) dX11_lamps_26 ?_
    refine ww_sipush hX (pc := 29) (x := 304) dX11_lamps_29 (by decide) ?_
    refine ww_iload_n hX (pc := 32) dX11_lamps_32 rfl ?_
    refine ww_iast hX (pc := 33) (xs_51 hL) (by decide) (by omega) (by omega) dX11_lamps_33 ?_
    refine ww_nmH (fun I_33 eI_33 => ?_)
    have kI_33 : Ch [50, 51] [0, 1] Ia I_33 := by rw [eI_33]; exact Ch_r Ch_rf (by decide) (by decide)
    have cI_33 : RX I_33 := by rw [eI_33]; exact RX_304 hQ (by omega) (by omega)
    have qI_33 := RX_o cI_33
    have r305_I_33 : I_33 51 305 = Ia 51 305 := by rw [eI_33, up2_n _ _ (Or.inr (by decide))]
    have g33 : I_33 51 = up1 (Ia 51) 304 a := by rw [eI_33, up2_row]; rfl
    have bkI_33 : BK9 Ia I_33 := by rw [eI_33]; exact BK9_up BK9_rf (by decide)
    have tkI_33 : TK9 Ia I_33 Ja Ja := by rw [eI_33]; exact TK9_up TK9_rf (by decide)
    refine ww_aload_n hX (pc := 34) dX11_lamps_34 rfl ?_
    refine ww_getR hX (pc := 35) fX11_20 (by decide) (xs_49 hL) (xr_49_3 hL) dX11_lamps_35 ?_
    refine ww_sipush hX (pc := 38) (x := 306) dX11_lamps_38 (by decide) ?_
    refine ww_iconst hX (pc := 41) (x := 0) dX11_lamps_41 rfl ?_
    refine ww_iast hX (pc := 42) (xs_51 hL) (by decide) (by omega) (by omega) dX11_lamps_42 ?_
    refine ww_nmH (fun I_42 eI_42 => ?_)
    have kI_42 : Ch [50, 51] [0, 1] Ia I_42 := by rw [eI_42]; exact Ch_r kI_33 (by decide) (by decide)
    have cI_42 : RX I_42 := by rw [eI_42]; exact RX_lo cI_33 (by decide)
    have qI_42 := RX_o cI_42
    have r304_I_42 : I_42 51 304 = I_33 51 304 := by rw [eI_42, up2_n _ _ (Or.inr (by decide))]
    have r305_I_42 : I_42 51 305 = I_33 51 305 := by rw [eI_42, up2_n _ _ (Or.inr (by decide))]
    have rf_I_42 : FU (I_42 51 304) = FU (I_33 51 304) := by rw [r304_I_42]
    have g42 : I_42 51 = up1 (up1 (Ia 51) 304 a) 306 0 := by rw [eI_42, up2_row, g33]; rfl
    have bkI_42 : BK9 Ia I_42 := by rw [eI_42]; exact BK9_up bkI_33 (by decide)
    have tkI_42 : TK9 Ia I_42 Ja Ja := by rw [eI_42]; exact TK9_up tkI_33 (by decide)
    refine ww_iconst hX (pc := 43) (x := 0) dX11_lamps_43 rfl ?_
    refine ww_istore_n hX (pc := 44) (lv' := [some (kR (some 49)), some (kI a), some (kI v_24), some (kI 0)]) dX11_lamps_44 (by decide) rfl rfl ?_
    have hl_45 : ∀ (n_45 : Nat) (i : Int) (I45 : aI1) (J45 : aI1), (8 - i).toNat = n_45 → (BK9 Ia I45 ∧ TK9 Ia I45 Ja J45 ∧ (Ch [50, 51] [0, 1] Ia I45 ∧ RX I45 ∧ Kp 49 73 Ja J45 ∧ I45 51 304 = I_42 51 304 ∧ I45 51 305 = I_42 51 305 ∧ (0 ≤ i ∧ i ≤ 8) ∧ (∀ j : Nat, I45 51 j = if 256 ≤ (j : Int) ∧ (j : Int) < 256 + i then 1 else up1 (up1 (Ia 51) 304 a) 306 0 j))) → WW X 45 [some (kR (some 49)), some (kI a), some (kI v_24), some (kI i)] [] I45 J45 Ra Sa 0 0 := by
      intro n_45
      induction n_45 using Nat.strongRecOn with
      | ind n_45 ih_45 =>
        intro i I45 J45 hm_45 hv_45
        have hq_45 := Sh0_i hm_45
        clear hm_45
        obtain ⟨bkl45, tkl45, hv_45⟩ := hv_45
        obtain ⟨kI45, cI45, kJ45, r304_I45, r305_I45, hv, hoj⟩ := hv_45
        have qI45 := RX_o cI45
        have rf_I45 : FU (I45 51 304) = FU (I_42 51 304) := by rw [r304_I45]
        refine ww_iload_n hX (pc := 45) dX11_lamps_45 rfl ?_
        refine ww_bipush hX (pc := 46) (x := 8) dX11_lamps_46 (by decide) ?_
        refine ww_icmp_ge hX (pc := 48) (tgt := 68) dX11_lamps_48 (by decide) (fun h_48 => ?_) (fun h_48 => ?_)
        · simp only [w32_mod] at h_48
          refine ww_aload_n hX (pc := 68) dX11_lamps_68 rfl ?_
          refine vV0 hX (pc := 69) sX11_98 (xs_49 hL) (c9_X11_empties l0 hL cI45 ) (by decide) (Nat.le_refl 0) (Nat.le_refl 0) (Nat.le_of_ble_eq_true rfl) dX11_lamps_69 (fun I_69 J_69 h_69 => ?_)
          obtain ⟨h_69, qxI_69⟩ := h_69
          have kJ_69 : Kp 49 73 Ja J_69 := Kp_tr kJ45 h_69.2.1
          have kI_69 : Ch [50, 51] [0, 1] Ia I_69 := Ch_tr kI45 (Ch_wd h_69.1 (by decide) (by decide))
          have cI_69 : RX I_69 := h_69.2.2.1
          have qI_69 := RX_o cI_69
          have xv69 := h_69.2.2.2
          have bkI_69 : BK9 Ia I_69 := BK9_tr bkl45 qxI_69.1
          have tkI_69 : TK9 Ia I_69 Ja J_69 := TK9_tr tkl45 qxI_69.2
          refine ww_aload_n hX (pc := 72) dX11_lamps_72 rfl ?_
          refine ww_iload_n hX (pc := 73) dX11_lamps_73 rfl ?_
          refine vI1 hX (pc := 74) sX11_109 (xs_49 hL) (n9_X11_good l0 hL cI_69) (by decide) (Nat.le_refl 0) (Nat.le_refl 0) (Nat.le_of_ble_eq_true rfl) dX11_lamps_74 (fun x_74 I_74 J_74 h_74 => ?_)
          obtain ⟨h_74, qxI_74⟩ := h_74
          have kJ_74 : Kp 49 73 Ja J_74 := Kp_tr kJ_69 h_74.2.1
          have kI_74 : Ch [50, 51] [0, 1] Ia I_74 := Ch_tr kI_69 (Ch_wd h_74.1 (by decide) (by decide))
          have cI_74 : RX I_74 := h_74.2.2.1
          have qI_74 := RX_o cI_74
          have r304_I_74 : I_74 51 304 = I_69 51 304 := by rw [h_74.1.1 51 (by decide) (by decide)]
          have r305_I_74 : I_74 51 305 = I_69 51 305 := by rw [h_74.1.1 51 (by decide) (by decide)]
          have rf_I_74 : FU (I_74 51 304) = FU (I_69 51 304) := by rw [r304_I_74]
          have xv74 := h_74.2.2.2
          refine rI hX (pc := 77) hT (Nat.le_refl 0) (Nat.le_refl 0) dX11_lamps_77 ?_
          exact ⟨⟨kI_74, kJ_74, cI_74, (fun h9 => absurd (by omega) h9), (fun _ => (by
                have y9 : I_74 51 = EMr (I45 51) := (h_74.1.1 51 (by decide) (by decide)).trans xv69
                rw [y9]
                refine ⟨by rw [xv74, hv_24], ?_, ?_, EMr_z (by decide), EMr_z (by decide), EMr_z (by decide), fun j hj => ?_, fun s hs => EMr_c hs, fun j h1 h2 h3 h4 h5 h6 => ?_⟩
                · rw [EMr_o (by decide) (by decide), hoj 304, if_neg (by omega), up1_n _ _ (by decide), up1_s]
                · rw [EMr_o (by decide) (by decide), hoj 306, if_neg (by omega), up1_s]
                · rw [EMr_o (by omega) (by omega), hoj (256 + j), if_pos (by omega)]
                · rw [EMr_o (by omega) (by omega), hoj j, if_neg (by omega), up1_n _ _ h3, up1_n _ _ h2]))⟩, ⟨(fun h9 => absurd h9 (by have := h_74.2.2.2; omega)), (fun _ => GQ9_tr bkI_69 qxI_74)⟩⟩
        · simp only [w32_mod] at h_48
          refine ww_aload_n hX (pc := 51) dX11_lamps_51 rfl ?_
          refine ww_getR hX (pc := 52) fX11_20 (by decide) (xs_49 hL) (xr_49_3 hL) dX11_lamps_52 ?_
          refine ww_sipush hX (pc := 55) (x := 256) dX11_lamps_55 (by decide) ?_
          refine ww_iload_n hX (pc := 58) dX11_lamps_58 rfl ?_
          refine ww_iadd hX (pc := 59) dX11_lamps_59 ?_
          refine ww_iconst hX (pc := 60) (x := 1) dX11_lamps_60 rfl ?_
          refine ww_iast hX (pc := 61) (xs_51 hL) (by decide) (by omega) (by omega) dX11_lamps_61 ?_
          refine ww_nmH (fun I_61 eI_61 => ?_)
          have kI_61 : Ch [50, 51] [0, 1] Ia I_61 := by rw [eI_61]; exact Ch_r kI45 (by decide) (by decide)
          have cI_61 : RX I_61 := by rw [eI_61]; exact RX_lo cI45 (by omega)
          have qI_61 := RX_o cI_61
          have r304_I_61 : I_61 51 304 = I45 51 304 := by rw [eI_61, up2_n _ _ (Or.inr (by omega))]
          have r305_I_61 : I_61 51 305 = I45 51 305 := by rw [eI_61, up2_n _ _ (Or.inr (by omega))]
          have rf_I_61 : FU (I_61 51 304) = FU (I45 51 304) := by rw [r304_I_61]
          have t61 : ∀ j : Nat, I_61 51 j = if 256 ≤ (j : Int) ∧ (j : Int) < 256 + (i + 1) then 1 else up1 (up1 (Ia 51) 304 a) 306 0 j := fun j => by
            rw [eI_61, up2_row]
            by_cases e9 : j = (256 + i).toNat
            · rw [e9, up1_s, if_pos (by omega)]
            · rw [up1_n _ _ e9, hoj j]
              by_cases e8 : 256 ≤ (j : Int) ∧ (j : Int) < 256 + i
              · rw [if_pos e8, if_pos (by omega)]
              · rw [if_neg e8, if_neg (by omega)]
          have bkI_61 : BK9 Ia I_61 := by rw [eI_61]; exact BK9_up bkl45 (by decide)
          have tkI_61 : TK9 Ia I_61 Ja J45 := by rw [eI_61]; exact TK9_up tkl45 (by decide)
          refine ww_iinc hX (pc := 62) (lv' := [some (kR (some 49)), some (kI a), some (kI v_24), some (kI (i + 1))]) dX11_lamps_62 rfl (by decide) rfl rfl ?_
          refine ww_goto hX (pc := 65) (tgt := 45) dX11_lamps_65 (by decide) ?_
          exact ih_45 _ (by have hm9 := Sh0_e hq_45; omega) (i + 1) I_61 J45 rfl ⟨bkI_61, tkI_61, ⟨kI_61, cI_61, kJ45, by omega, by omega, ⟨by omega, by omega⟩, t61⟩⟩
    exact hl_45 _ 0 I_42 Ja rfl ⟨bkI_42, tkI_42, ⟨kI_42, cI_42, (Kp_rf (a := 49) (b := 73)), rfl, rfl, ⟨by omega, by omega⟩, fun j => by rw [if_neg (by omega), g42]⟩⟩
  · simp only [w32_mod] at h_7
    refine ww_aload_n hX (pc := 10) dX11_lamps_10 rfl ?_
    refine ww_iconst hX (pc := 11) (x := (-1)) dX11_lamps_11 rfl ?_
    refine vI1 hX (pc := 12) sX11_105 (xs_49 hL) (n9_X11_refuses l0 hL hQ (by omega) (by omega)) (by decide) (Nat.le_refl 0) (Nat.le_refl 0) (Nat.le_of_ble_eq_true rfl) dX11_lamps_12 (fun x_12 I_12 J_12 h_12 => ?_)
    obtain ⟨h_12, qxI_12⟩ := h_12
    have kJ_12 : Kp 49 73 Ja J_12 := Kp_tr (Kp_rf (a := 49) (b := 73)) h_12.2.1
    have kI_12 : Ch [50, 51] [0, 1] Ia I_12 := Ch_tr Ch_rf (Ch_wd h_12.1 (by decide) (by decide))
    have cI_12 : RX I_12 := h_12.2.2.1
    have qI_12 := RX_o cI_12
    have r304_I_12 : I_12 51 304 = Ia 51 304 := by rw [h_12.1.1 51 (by decide) (by decide)]
    have r305_I_12 : I_12 51 305 = Ia 51 305 := by rw [h_12.1.1 51 (by decide) (by decide)]
    have rf_I_12 : FU (I_12 51 304) = FU (Ia 51 304) := by rw [r304_I_12]
    have xv12 := h_12.2.2.2
    refine rI hX (pc := 15) hT (Nat.le_refl 0) (Nat.le_refl 0) dX11_lamps_15 ?_
    exact ⟨⟨kI_12, kJ_12, cI_12, (fun _ => ⟨xv12, h_12.1.1 51 (by decide) (by decide)⟩), (fun h9 => absurd h9 (by omega))⟩, ⟨(fun _ => RQ9_tr BK9_rf TK9_rf qxI_12), (fun h9 => absurd h9 (by have := h_12.2.2.2; omega))⟩⟩
set_option maxHeartbeats 4000000 in
set_option maxRecDepth 20000 in
theorem c9_X11_news (l0 : Launch) {Ia Ja : aI1} {Ra : aR1} {Sa : aS1} (hL : LY Ra Sa) (hQ : RX Ia) {a : Int} (ha0 : -2147483648 ≤ a) (ha1 : a < 2147483648)  : CT l0 1 0 0 mX11_news [kR (some 49), kI a] Ia Ja Ra Sa (cI (fun x I' J' => (Ch [50, 51] [0, 1] Ia I' ∧ Kp 49 73 Ja J' ∧ RX I' ∧ (¬ (2 ≤ a ∧ a ≤ 8) → x = -1 ∧ I' 51 = Ia 51) ∧ ((2 ≤ a ∧ a ≤ 8) → x = Ia 51 305 ∧ I' 51 = EMr (up1 (Ia 51) 305 a))) ∧ RGQ9 x Ia I' Ja J') Ra Sa) := by
  refine ct_in pn_X11 (Nat.le_of_ble_eq_true rfl) (fun X hX hT hIn => ?_)
  have hX : aK l0 X cX11_news 3 RX11 (some .int) 1 0 0 := hX
  change WW X 0 [some (kR (some 49)), some (kI a), none] [] Ia Ja Ra Sa 0 0
  have qIa := RX_o hQ
  refine ww_iload_n hX (pc := 0) dX11_news_0 rfl ?_
  refine ww_iconst hX (pc := 1) (x := 2) dX11_news_1 rfl ?_
  refine ww_bipush hX (pc := 2) (x := 8) dX11_news_2 (by decide) ?_
  refine sI3 hX (pc := 4) sX11_101 (c_X11_lies l0 (by omega) (by omega) (by omega) (by omega) (by omega) (by omega)) (by decide) (Nat.le_refl 0) (Nat.le_refl 0) (Nat.le_of_ble_eq_true rfl) dX11_news_4 (fun x_4 I_4 J_4 h_4 => ?_)
  obtain ⟨rfl, rfl, h_4⟩ := h_4
  refine ww_if_ne hX (pc := 7) (tgt := 16) dX11_news_7 (by decide) (fun h_7 => ?_) (fun h_7 => ?_)
  · simp only [w32_mod] at h_7
    have k_4 := h_4.2.mp (by omega)
    clear h_4
    refine ww_aload_n hX (pc := 16) dX11_news_16 rfl ?_
    refine ww_getR hX (pc := 17) fX11_20 (by decide) (xs_49 hL) (xr_49_3 hL) dX11_news_17 ?_
    refine ww_sipush hX (pc := 20) (x := 305) dX11_news_20 (by decide) ?_
    refine ww_iald hX (pc := 23) (xs_51 hL) (by decide) (by omega) (by omega) dX11_news_23 ?_
    refine ww_toI (b := Ia 51 305) rfl ?_
    refine ww_nmI (fun v_24 hv_24 => ?_)
    refine ww_istore_n hX (pc := 24) (lv' := [some (kR (some 49)), some (kI a), some (kI v_24)]) dX11_news_24 (by decide) rfl rfl ?_
    refine ww_aload_n hX (pc := 25) dX11_news_25 rfl ?_
    refine ww_getR hX (pc := 26) fX11_20 (by decide) (xs_49 hL) (xr_49_3 hL) dX11_news_26 ?_
    refine ww_sipush hX (pc := 29) (x := 305) dX11_news_29 (by decide) ?_
    refine ww_iload_n hX (pc := 32) dX11_news_32 rfl ?_
    refine ww_iast hX (pc := 33) (xs_51 hL) (by decide) (by omega) (by omega) dX11_news_33 ?_
    refine ww_nmH (fun I_33 eI_33 => ?_)
    have kI_33 : Ch [50, 51] [0, 1] Ia I_33 := by rw [eI_33]; exact Ch_r Ch_rf (by decide) (by decide)
    have cI_33 : RX I_33 := by rw [eI_33]; exact RX_305 hQ (by omega) (by omega)
    have qI_33 := RX_o cI_33
    have r304_I_33 : I_33 51 304 = Ia 51 304 := by rw [eI_33, up2_n _ _ (Or.inr (by decide))]
    have rf_I_33 : FU (I_33 51 304) = FU (Ia 51 304) := by rw [r304_I_33]
    have g33 : I_33 51 = up1 (Ia 51) 305 a := by rw [eI_33, up2_row]; rfl
    have bkI_33 : BK9 Ia I_33 := by rw [eI_33]; exact BK9_up BK9_rf (by decide)
    have tkI_33 : TK9 Ia I_33 Ja Ja := by rw [eI_33]; exact TK9_up TK9_rf (by decide)
    refine ww_aload_n hX (pc := 34) dX11_news_34 rfl ?_
    refine vV0 hX (pc := 35) sX11_98 (xs_49 hL) (c9_X11_empties l0 hL cI_33 ) (by decide) (Nat.le_refl 0) (Nat.le_refl 0) (Nat.le_of_ble_eq_true rfl) dX11_news_35 (fun I_35 J_35 h_35 => ?_)
    obtain ⟨h_35, qxI_35⟩ := h_35
    have kJ_35 : Kp 49 73 Ja J_35 := Kp_tr (Kp_rf (a := 49) (b := 73)) h_35.2.1
    have kI_35 : Ch [50, 51] [0, 1] Ia I_35 := Ch_tr kI_33 (Ch_wd h_35.1 (by decide) (by decide))
    have cI_35 : RX I_35 := h_35.2.2.1
    have qI_35 := RX_o cI_35
    have xv35 := h_35.2.2.2
    have bkI_35 : BK9 Ia I_35 := BK9_tr bkI_33 qxI_35.1
    have tkI_35 : TK9 Ia I_35 Ja J_35 := TK9_tr tkI_33 qxI_35.2
    refine ww_aload_n hX (pc := 38) dX11_news_38 rfl ?_
    refine ww_iload_n hX (pc := 39) dX11_news_39 rfl ?_
    refine vI1 hX (pc := 40) sX11_109 (xs_49 hL) (n9_X11_good l0 hL cI_35) (by decide) (Nat.le_refl 0) (Nat.le_refl 0) (Nat.le_of_ble_eq_true rfl) dX11_news_40 (fun x_40 I_40 J_40 h_40 => ?_)
    obtain ⟨h_40, qxI_40⟩ := h_40
    have kJ_40 : Kp 49 73 Ja J_40 := Kp_tr kJ_35 h_40.2.1
    have kI_40 : Ch [50, 51] [0, 1] Ia I_40 := Ch_tr kI_35 (Ch_wd h_40.1 (by decide) (by decide))
    have cI_40 : RX I_40 := h_40.2.2.1
    have qI_40 := RX_o cI_40
    have r304_I_40 : I_40 51 304 = I_35 51 304 := by rw [h_40.1.1 51 (by decide) (by decide)]
    have r305_I_40 : I_40 51 305 = I_35 51 305 := by rw [h_40.1.1 51 (by decide) (by decide)]
    have rf_I_40 : FU (I_40 51 304) = FU (I_35 51 304) := by rw [r304_I_40]
    have xv40 := h_40.2.2.2
    refine rI hX (pc := 43) hT (Nat.le_refl 0) (Nat.le_refl 0) dX11_news_43 ?_
    exact ⟨⟨kI_40, kJ_40, cI_40, (fun h9 => absurd (by omega) h9), (fun _ => ⟨by rw [xv40, hv_24], by rw [h_40.1.1 51 (by decide) (by decide), xv35, g33]⟩)⟩, ⟨(fun h9 => absurd h9 (by have := h_40.2.2.2; omega)), (fun _ => GQ9_tr bkI_35 qxI_40)⟩⟩
  · simp only [w32_mod] at h_7
    refine ww_aload_n hX (pc := 10) dX11_news_10 rfl ?_
    refine ww_iconst hX (pc := 11) (x := (-1)) dX11_news_11 rfl ?_
    refine vI1 hX (pc := 12) sX11_105 (xs_49 hL) (n9_X11_refuses l0 hL hQ (by omega) (by omega)) (by decide) (Nat.le_refl 0) (Nat.le_refl 0) (Nat.le_of_ble_eq_true rfl) dX11_news_12 (fun x_12 I_12 J_12 h_12 => ?_)
    obtain ⟨h_12, qxI_12⟩ := h_12
    have kJ_12 : Kp 49 73 Ja J_12 := Kp_tr (Kp_rf (a := 49) (b := 73)) h_12.2.1
    have kI_12 : Ch [50, 51] [0, 1] Ia I_12 := Ch_tr Ch_rf (Ch_wd h_12.1 (by decide) (by decide))
    have cI_12 : RX I_12 := h_12.2.2.1
    have qI_12 := RX_o cI_12
    have r304_I_12 : I_12 51 304 = Ia 51 304 := by rw [h_12.1.1 51 (by decide) (by decide)]
    have r305_I_12 : I_12 51 305 = Ia 51 305 := by rw [h_12.1.1 51 (by decide) (by decide)]
    have rf_I_12 : FU (I_12 51 304) = FU (Ia 51 304) := by rw [r304_I_12]
    have xv12 := h_12.2.2.2
    refine rI hX (pc := 15) hT (Nat.le_refl 0) (Nat.le_refl 0) dX11_news_15 ?_
    exact ⟨⟨kI_12, kJ_12, cI_12, (fun _ => ⟨xv12, h_12.1.1 51 (by decide) (by decide)⟩), (fun h9 => absurd h9 (by omega))⟩, ⟨(fun _ => RQ9_tr BK9_rf TK9_rf qxI_12), (fun h9 => absurd h9 (by have := h_12.2.2.2; omega))⟩⟩
