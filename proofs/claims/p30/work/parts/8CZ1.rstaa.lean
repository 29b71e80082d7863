/-- what status and the refusals speak of is kept, and the version -/
def FK9 (I I' : aI1) : Prop := I' 49 25 = -1 ∨ I' 49 25 = I 49 25
def BK9 (I I' : aI1) : Prop := I' 50 = I 50 ∧ I' 49 0 = I 49 0 ∧ I' 49 1 = I 49 1 ∧ FK9 I I'
/-- the tables are of no version, or as they were -/
def TK9 (I I' J J' : aI1) : Prop := I' 49 25 = -1 ∨ (I' 49 25 = I 49 25 ∧ I' 61 = I 61 ∧ J' 62 = J 62)
def QK9 (I I' J J' : aI1) : Prop := BK9 I I' ∧ TK9 I I' J J'
/-- refused by k -/
def RQ9 (k : Int) (I I' J J' : aI1) : Prop := I' 49 0 = k ∧ I' 50 = up1 (I 50) (-k).toNat (I 50 (-k).toNat + 1) ∧ I' 49 1 = I 49 1 ∧ TK9 I I' J J'
/-- accepted -/
def GQ9 (I I' : aI1) : Prop := I' 49 0 = 0 ∧ I' 50 = I 50 ∧ I' 49 1 = I 49 1 + 1 ∧ FK9 I I'
def RGQ9 (x : Int) (I I' J J' : aI1) : Prop := (x < 0 → RQ9 x I I' J J') ∧ (0 ≤ x → GQ9 I I')
def VQ9 (I I' : aI1) : Prop := I' 50 = I 50 ∧ I' 49 0 = I 49 0 ∧ I' 49 1 = I 49 1 + 1 ∧ FK9 I I'
theorem FK9_tr {I I1 I' : aI1} (h : FK9 I I1) (k : FK9 I1 I') : FK9 I I' := by
  rcases k with k | k
  · exact Or.inl k
  · rcases h with h | h
    · exact Or.inl (k.trans h)
    · exact Or.inr (k.trans h)
theorem BK9_rf {I : aI1} : BK9 I I := ⟨rfl, rfl, rfl, Or.inr rfl⟩
theorem TK9_rf {I J : aI1} : TK9 I I J J := Or.inr ⟨rfl, rfl, rfl⟩
theorem BK9_tr {I I1 I' : aI1} (h : BK9 I I1) (k : BK9 I1 I') : BK9 I I' := ⟨k.1.trans h.1, k.2.1.trans h.2.1, k.2.2.1.trans h.2.2.1, FK9_tr h.2.2.2 k.2.2.2⟩
theorem TK9_tr {I I1 I' J J1 J' : aI1} (h : TK9 I I1 J J1) (k : TK9 I1 I' J1 J') : TK9 I I' J J' := by
  rcases k with k | ⟨k1, k2, k3⟩
  · exact Or.inl k
  · rcases h with h | ⟨h1, h2, h3⟩
    · exact Or.inl (k1.trans h)
    · exact Or.inr ⟨k1.trans h1, k2.trans h2, k3.trans h3⟩
theorem BK9_up {I I' : aI1} {k j : Nat} {v : Int} (h : BK9 I I') (hk : k ≠ 49 ∧ k ≠ 50) : BK9 I (up2 I' k j v) := by
  have e : ∀ a, a ≠ k → up2 I' k j v a = I' a := fun a ha => up2_off _ _ _ ha
  unfold BK9 FK9
  rw [e 50 (by omega), e 49 (by omega)]
  exact h
theorem BK9_f {I I' : aI1} {j : Nat} {v : Int} (h : BK9 I I') (hj : j ≠ 0 ∧ j ≠ 1 ∧ j ≠ 25) : BK9 I (up2 I' 49 j v) := by
  have e : ∀ a, a ≠ 49 → up2 I' 49 j v a = I' a := fun a ha => up2_off _ _ _ ha
  have f : ∀ b, b ≠ j → up2 I' 49 j v 49 b = I' 49 b := fun b hb => up2_n _ _ (Or.inr hb)
  unfold BK9 FK9
  rw [e 50 (by decide), f 0 (by omega), f 1 (by omega), f 25 (by omega)]
  exact h
theorem BK9_m {I I' : aI1} (h : BK9 I I') : BK9 I (up2 I' 49 25 (-1)) := by
  have e : ∀ a, a ≠ 49 → up2 I' 49 25 (-1) a = I' a := fun a ha => up2_off _ _ _ ha
  have f : ∀ b, b ≠ 25 → up2 I' 49 25 (-1) 49 b = I' 49 b := fun b hb => up2_n _ _ (Or.inr hb)
  unfold BK9
  rw [e 50 (by decide), f 0 (by omega), f 1 (by omega)]
  exact ⟨h.1, h.2.1, h.2.2.1, Or.inl (up2_s _ _ _ _)⟩
theorem BK9_ch {I I1 I2 : aI1} {rs fs : List Nat} (h : BK9 I I1) (c : Ch rs fs I1 I2) (h1 : 50 ∉ rs) (h2 : 0 ∉ fs ∧ 1 ∉ fs ∧ 25 ∉ fs) : BK9 I I2 :=
  BK9_tr h ⟨c.1 50 (by decide) h1, c.2 0 h2.1, c.2 1 h2.2.1, Or.inr (c.2 25 h2.2.2)⟩
theorem TK9_jc {I I1 I2 J J1 J2 : aI1} {rs fs : List Nat} (h : TK9 I I1 J J1) (c : Ch rs fs I1 I2) (h1 : 61 ∉ rs) (h2 : 25 ∉ fs) (e : J2 = J1) : TK9 I I2 J J2 :=
  TK9_tr h (Or.inr ⟨c.2 25 h2, c.1 61 (by decide) h1, by rw [e]⟩)
theorem TK9_up {I I' J J' : aI1} {k j : Nat} {v : Int} (h : TK9 I I' J J') (hk : k ≠ 49 ∧ k ≠ 61) : TK9 I (up2 I' k j v) J J' := by
  have e : ∀ a, a ≠ k → up2 I' k j v a = I' a := fun a ha => up2_off _ _ _ ha
  unfold TK9
  rw [e 61 (by omega), e 49 (by omega)]
  exact h
theorem TK9_f {I I' J J' : aI1} {j : Nat} {v : Int} (h : TK9 I I' J J') (hj : j ≠ 25) : TK9 I (up2 I' 49 j v) J J' := by
  have e : ∀ a, a ≠ 49 → up2 I' 49 j v a = I' a := fun a ha => up2_off _ _ _ ha
  unfold TK9
  rw [e 61 (by decide), show up2 I' 49 j v 49 25 = I' 49 25 from up2_n _ _ (Or.inr (by omega))]
  exact h
theorem VQ9_of {I I1 I2 : aI1} (b : BK9 I I1) (e : I2 = up2 I1 49 1 (I1 49 1 + 1)) : VQ9 I I2 := by
  refine ⟨by rw [e, up2_off _ _ _ (by decide)]; exact b.1, by rw [e, up2_n _ _ (Or.inr (by decide))]; exact b.2.1, by rw [e, up2_s, b.2.2.1], ?_⟩
  unfold FK9
  rw [e, up2_n _ _ (Or.inr (by decide))]
  exact b.2.2.2
theorem RQ9_of {I I' J J' : aI1} {a x : Int} (h : Ch [50] [0] I I' ∧ Kp 49 73 J J' ∧ RX I' ∧ x = a ∧ I' 49 0 = a ∧ I' 50 = up1 (I 50) (-a).toNat (I 50 (-a).toNat + 1) ∧ J' = J) : RQ9 x I I' J J' := by
  obtain ⟨h1, -, -, rfl, h5, h6, rfl⟩ := h
  exact ⟨h5, h6, h1.2 1 (by decide), Or.inr ⟨h1.2 25 (by decide), h1.1 61 (by decide) (by decide), rfl⟩⟩
theorem GQ9_of {I I' J J' : aI1} {a x : Int} (h : Ch [] [0, 1] I I' ∧ Kp 49 73 J J' ∧ RX I' ∧ x = a ∧ I' 49 0 = 0 ∧ I' 49 1 = I 49 1 + 1 ∧ J' = J) : GQ9 I I' := by
  obtain ⟨h1, -, -, -, h5, h6, rfl⟩ := h
  exact ⟨h5, h1.1 50 (by decide) (by decide), h6, Or.inr (h1.2 25 (by decide))⟩
theorem RQ9_tr {I I1 I' J J1 J' : aI1} {x : Int} (b : BK9 I I1) (t : TK9 I I1 J J1) (r : RQ9 x I1 I' J1 J') : RQ9 x I I' J J' :=
  ⟨r.1, by rw [r.2.1, b.1], r.2.2.1.trans b.2.2.1, TK9_tr t r.2.2.2⟩
theorem GQ9_tr {I I1 I' : aI1} (b : BK9 I I1) (r : GQ9 I1 I') : GQ9 I I' :=
  ⟨r.1, r.2.1.trans b.1, by rw [r.2.2.1, b.2.2.1], FK9_tr b.2.2.2 r.2.2.2⟩
theorem n9_X11_refuses (l0 : Launch) {Ia Ja : aI1} {Ra : aR1} {Sa : aS1} (hL : LY Ra Sa) (hQ : RX Ia) {a : Int} (ha0 : -6 ≤ a) (ha1 : a ≤ -1) : CT l0 0 0 0 mX11_refuses [kR (some 49), kI a] Ia Ja Ra Sa (cI (fun x I' J' => (Ch [50] [0] Ia I' ∧ Kp 49 73 Ja J' ∧ RX I' ∧ x = a) ∧ RQ9 x Ia I' Ja J') Ra Sa) :=
  CT_wI (c8_X11_refuses l0 hL hQ ha0 ha1) (fun x I' J' h => ⟨⟨h.1, h.2.1, h.2.2.1, h.2.2.2.1⟩, RQ9_of h⟩)
theorem n9_X11_good (l0 : Launch) {Ia Ja : aI1} {Ra : aR1} {Sa : aS1} (hL : LY Ra Sa) (hQ : RX Ia) {a : Int} : CT l0 0 0 0 mX11_good [kR (some 49), kI a] Ia Ja Ra Sa (cI (fun x I' J' => (Ch [] [0, 1] Ia I' ∧ Kp 49 73 Ja J' ∧ RX I' ∧ x = a) ∧ GQ9 Ia I') Ra Sa) :=
  CT_wI (c8_X11_good l0 hL hQ) (fun x I' J' h => ⟨⟨h.1, h.2.1, h.2.2.1, h.2.2.2.1⟩, GQ9_of h⟩)
/-- QF after a call -/
theorem QF_tk {I I' J J' : aI1} {v w : Int} (h : QF I J v) (b : I' 49 1 = I 49 1) (t : TK9 I I' J J') (e51 : I' 51 = I 51) (hv : v ≤ w) : QF I' J' w := by
  have h1 := h.1
  rcases t with t | ⟨t1, t2, t3⟩
  · exact ⟨by omega, by omega, fun h9 => absurd h9 (by omega)⟩
  · exact QF_kp h b t1 e51 t2 t3 hv
theorem QF_tu {I I' J J' : aI1} {v w : Int} (h : QF I J v) (b : I' 49 1 = I 49 1 + 1) (t : FK9 I I') (hv : v + 1 ≤ w) : QF I' J' w := by
  have h1 := h.1
  rcases t with t | t1
  · exact ⟨by omega, by omega, fun h9 => absurd h9 (by omega)⟩
  · exact QF_up h b t1 hv

set_option maxHeartbeats 4000000 in
set_option maxRecDepth 20000 in
theorem c9_X11_feed (l0 : Launch) {Ia Ja : aI1} {Ra : aR1} {Sa : aS1} (hL : LY Ra Sa) (hQ : RX Ia) {a b c e g : Int}  : CT l0 0 0 0 mX11_feed [kR (some 49), kI a, kI b, kI c, kI e, kI g] Ia Ja Ra Sa (cI (fun x I' J' => (Ch [55, 56] [10] Ia I' ∧ Kp 49 73 Ja J' ∧ RX I' ∧ (Ia 49 10 ≤ 380 → x = Ia 49 10 + 20 ∧ I' 49 10 = Ia 49 10 + 20 ∧ FDr (Ia 55) (I' 55) (Ia 49 10) a b c e g) ∧ (¬ Ia 49 10 ≤ 380 → x = -1 ∧ I' 49 10 = Ia 49 10 ∧ I' 55 = Ia 55)) ∧ QK9 Ia I' Ja J') Ra Sa) := by
  refine ct_in pn_X11 (Nat.le_of_ble_eq_true rfl) (fun X hX hT hIn => ?_)
  have hX : aK l0 X cX11_feed 7 RX11 (some .int) 0 0 0 := hX
  change WW X 0 [some (kR (some 49)), some (kI a), some (kI b), some (kI c), some (kI e), some (kI g), none] [] Ia Ja Ra Sa 0 0
  have qIa := RX_o hQ
  refine ww_aload_n hX (pc := 0) dX11_feed_0 rfl ?_
  refine ww_getI hX (pc := 1) fX11_129 (by decide) (xs_49 hL) dX11_feed_1 ?_
  refine ww_bipush hX (pc := 4) (x := 20) dX11_feed_4 (by decide) ?_
  refine ww_iadd hX (pc := 6) dX11_feed_6 ?_
  refine ww_sipush hX (pc := 7) (x := 400) dX11_feed_7 (by decide) ?_
  refine ww_icmp_le hX (pc := 10) (tgt := 15) dX11_feed_10 (by decide) (fun h_10 => ?_) (fun h_10 => ?_)
  · simp only [w32_mod] at h_10
    refine ww_aload_n hX (pc := 15) dX11_feed_15 rfl ?_
    refine ww_getR hX (pc := 16) fX11_37 (by decide) (xs_49 hL) (xr_49_9 hL) dX11_feed_16 ?_
    refine ww_iconst hX (pc := 19) (x := 0) dX11_feed_19 rfl ?_
    refine ww_iload_n hX (pc := 20) dX11_feed_20 rfl ?_
    refine ww_iast hX (pc := 21) (xs_56 hL) (by decide) (by omega) (by omega) dX11_feed_21 ?_
    refine ww_nmH (fun I_21 eI_21 => ?_)
    have kI_21 : Ch [55, 56] [10] Ia I_21 := by rw [eI_21]; exact Ch_r Ch_rf (by decide) (by decide)
    have cI_21 : RX I_21 := by rw [eI_21]; exact RX_r hQ (by decide)
    have qI_21 := RX_o cI_21
    have f10_I_21 : I_21 49 10 = Ia 49 10 := by rw [eI_21, up2_off _ _ _ (by decide)]
    have g21 : I_21 56 = up1 (Ia 56) 0 a := by rw [eI_21, up2_row]; rfl
    have h21 : I_21 55 = Ia 55 := by rw [eI_21, up2_off _ _ _ (by decide)]
    have bkI_21 : BK9 Ia I_21 := by rw [eI_21]; exact BK9_up BK9_rf (by decide)
    have tkI_21 : TK9 Ia I_21 Ja Ja := by rw [eI_21]; exact TK9_up TK9_rf (by decide)
    refine ww_aload_n hX (pc := 22) dX11_feed_22 rfl ?_
    refine ww_getR hX (pc := 23) fX11_37 (by decide) (xs_49 hL) (xr_49_9 hL) dX11_feed_23 ?_
    refine ww_iconst hX (pc := 26) (x := 1) dX11_feed_26 rfl ?_
    refine ww_iload_n hX (pc := 27) dX11_feed_27 rfl ?_
    refine ww_iast hX (pc := 28) (xs_56 hL) (by decide) (by omega) (by omega) dX11_feed_28 ?_
    refine ww_nmH (fun I_28 eI_28 => ?_)
    have kI_28 : Ch [55, 56] [10] Ia I_28 := by rw [eI_28]; exact Ch_r kI_21 (by decide) (by decide)
    have cI_28 : RX I_28 := by rw [eI_28]; exact RX_r cI_21 (by decide)
    have qI_28 := RX_o cI_28
    have f10_I_28 : I_28 49 10 = I_21 49 10 := by rw [eI_28, up2_off _ _ _ (by decide)]
    have g28 : I_28 56 = up1 (up1 (Ia 56) 0 a) 1 b := by rw [eI_28, up2_row, g21]; rfl
    have h28 : I_28 55 = Ia 55 := by rw [eI_28, up2_off _ _ _ (by decide)]; exact h21
    have bkI_28 : BK9 Ia I_28 := by rw [eI_28]; exact BK9_up bkI_21 (by decide)
    have tkI_28 : TK9 Ia I_28 Ja Ja := by rw [eI_28]; exact TK9_up tkI_21 (by decide)
    refine ww_aload_n hX (pc := 29) dX11_feed_29 rfl ?_
    refine ww_getR hX (pc := 30) fX11_37 (by decide) (xs_49 hL) (xr_49_9 hL) dX11_feed_30 ?_
    refine ww_iconst hX (pc := 33) (x := 2) dX11_feed_33 rfl ?_
    refine ww_iload_n hX (pc := 34) dX11_feed_34 rfl ?_
    refine ww_iast hX (pc := 35) (xs_56 hL) (by decide) (by omega) (by omega) dX11_feed_35 ?_
    refine ww_nmH (fun I_35 eI_35 => ?_)
    have kI_35 : Ch [55, 56] [10] Ia I_35 := by rw [eI_35]; exact Ch_r kI_28 (by decide) (by decide)
    have cI_35 : RX I_35 := by rw [eI_35]; exact RX_r cI_28 (by decide)
    have qI_35 := RX_o cI_35
    have f10_I_35 : I_35 49 10 = I_28 49 10 := by rw [eI_35, up2_off _ _ _ (by decide)]
    have g35 : I_35 56 = up1 (up1 (up1 (Ia 56) 0 a) 1 b) 2 c := by rw [eI_35, up2_row, g28]; rfl
    have h35 : I_35 55 = Ia 55 := by rw [eI_35, up2_off _ _ _ (by decide)]; exact h28
    have bkI_35 : BK9 Ia I_35 := by rw [eI_35]; exact BK9_up bkI_28 (by decide)
    have tkI_35 : TK9 Ia I_35 Ja Ja := by rw [eI_35]; exact TK9_up tkI_28 (by decide)
    refine ww_aload_n hX (pc := 36) dX11_feed_36 rfl ?_
    refine ww_getR hX (pc := 37) fX11_37 (by decide) (xs_49 hL) (xr_49_9 hL) dX11_feed_37 ?_
    refine ww_iconst hX (pc := 40) (x := 3) dX11_feed_40 rfl ?_
    refine ww_iload hX (pc := 41) dX11_feed_41 rfl ?_
    refine ww_iast hX (pc := 43) (xs_56 hL) (by decide) (by omega) (by omega) dX11_feed_43 ?_
    refine ww_nmH (fun I_43 eI_43 => ?_)
    have kI_43 : Ch [55, 56] [10] Ia I_43 := by rw [eI_43]; exact Ch_r kI_35 (by decide) (by decide)
    have cI_43 : RX I_43 := by rw [eI_43]; exact RX_r cI_35 (by decide)
    have qI_43 := RX_o cI_43
    have f10_I_43 : I_43 49 10 = I_35 49 10 := by rw [eI_43, up2_off _ _ _ (by decide)]
    have g43 : I_43 56 = up1 (up1 (up1 (up1 (Ia 56) 0 a) 1 b) 2 c) 3 e := by rw [eI_43, up2_row, g35]; rfl
    have h43 : I_43 55 = Ia 55 := by rw [eI_43, up2_off _ _ _ (by decide)]; exact h35
    have bkI_43 : BK9 Ia I_43 := by rw [eI_43]; exact BK9_up bkI_35 (by decide)
    have tkI_43 : TK9 Ia I_43 Ja Ja := by rw [eI_43]; exact TK9_up tkI_35 (by decide)
    refine ww_aload_n hX (pc := 44) dX11_feed_44 rfl ?_
    refine ww_getR hX (pc := 45) fX11_37 (by decide) (xs_49 hL) (xr_49_9 hL) dX11_feed_45 ?_
    refine ww_iconst hX (pc := 48) (x := 4) dX11_feed_48 rfl ?_
    refine ww_iload hX (pc := 49) dX11_feed_49 rfl ?_
    refine ww_iast hX (pc := 51) (xs_56 hL) (by decide) (by omega) (by omega) dX11_feed_51 ?_
    refine ww_nmH (fun I_51 eI_51 => ?_)
    have kI_51 : Ch [55, 56] [10] Ia I_51 := by rw [eI_51]; exact Ch_r kI_43 (by decide) (by decide)
    have cI_51 : RX I_51 := by rw [eI_51]; exact RX_r cI_43 (by decide)
    have qI_51 := RX_o cI_51
    have f10_I_51 : I_51 49 10 = I_43 49 10 := by rw [eI_51, up2_off _ _ _ (by decide)]
    have g51 : I_51 56 = up1 (up1 (up1 (up1 (up1 (Ia 56) 0 a) 1 b) 2 c) 3 e) 4 g := by rw [eI_51, up2_row, g43]; rfl
    have h51 : I_51 55 = Ia 55 := by rw [eI_51, up2_off _ _ _ (by decide)]; exact h43
    have bkI_51 : BK9 Ia I_51 := by rw [eI_51]; exact BK9_up bkI_43 (by decide)
    have tkI_51 : TK9 Ia I_51 Ja Ja := by rw [eI_51]; exact TK9_up tkI_43 (by decide)
    refine ww_iconst hX (pc := 52) (x := 0) dX11_feed_52 rfl ?_
    refine ww_istore hX (pc := 53) (lv' := [some (kR (some 49)), some (kI a), some (kI b), some (kI c), some (kI e), some (kI g), some (kI 0)]) dX11_feed_53 (by decide) rfl rfl ?_
    have hl_55 : ∀ (n_55 : Nat) (i : Int) (I55 : aI1) (J55 : aI1), (20 - i).toNat = n_55 → (BK9 Ia I55 ∧ TK9 Ia I55 Ja J55 ∧ (Ch [55, 56] [10] Ia I55 ∧ RX I55 ∧ Kp 49 73 Ja J55 ∧ I55 49 10 = I_51 49 10 ∧ (0 ≤ i ∧ i ≤ 20) ∧ I55 56 = up1 (up1 (up1 (up1 (up1 (Ia 56) 0 a) 1 b) 2 c) 3 e) 4 g ∧ FIr (Ia 55) (I55 55) (Ia 49 10) a b c e g i)) → WW X 55 [some (kR (some 49)), some (kI a), some (kI b), some (kI c), some (kI e), some (kI g), some (kI i)] [] I55 J55 Ra Sa 0 0 := by
      intro n_55
      induction n_55 using Nat.strongRecOn with
      | ind n_55 ih_55 =>
        intro i I55 J55 hm_55 hv_55
        have hq_55 := Sh0_i hm_55
        clear hm_55
        obtain ⟨bkl55, tkl55, hv_55⟩ := hv_55
        obtain ⟨kI55, cI55, kJ55, f10_I55, hv, gj, hfi⟩ := hv_55
        have qI55 := RX_o cI55
        refine ww_iload hX (pc := 55) dX11_feed_55 rfl ?_
        refine ww_bipush hX (pc := 57) (x := 20) dX11_feed_57 (by decide) ?_
        refine ww_icmp_ge hX (pc := 59) (tgt := 101) dX11_feed_59 (by decide) (fun h_59 => ?_) (fun h_59 => ?_)
        · simp only [w32_mod] at h_59
          refine ww_aload_n hX (pc := 101) dX11_feed_101 rfl ?_
          refine ww_dupR hX (pc := 102) dX11_feed_102 ?_
          refine ww_getI hX (pc := 103) fX11_129 (by decide) (xs_49 hL) dX11_feed_103 ?_
          refine ww_bipush hX (pc := 106) (x := 20) dX11_feed_106 (by decide) ?_
          refine ww_iadd hX (pc := 108) dX11_feed_108 ?_
          refine ww_putI hX (pc := 109) (fun h9 => absurd h9 (by decide)) gX11_129 rfl (xs_49 hL) dX11_feed_109 ?_
          refine ww_nmH (fun I_109 eI_109 => ?_)
          have kI_109 : Ch [55, 56] [10] Ia I_109 := by rw [eI_109]; exact Ch_f kI55 (by decide)
          have cI_109 : RX I_109 := by rw [eI_109]; exact RX_10 cI55 (by omega) (by omega)
          have qI_109 := RX_o cI_109
          have z10 : I_109 49 10 = I55 49 10 + 20 := by rw [eI_109, up2_s]
          have h109 : I_109 55 = I55 55 := by rw [eI_109, up2_off _ _ _ (by decide)]
          have bkI_109 : BK9 Ia I_109 := by rw [eI_109]; exact BK9_f bkl55 (by decide)
          have tkI_109 : TK9 Ia I_109 Ja J55 := by rw [eI_109]; exact TK9_f tkl55 (by decide)
          refine ww_aload_n hX (pc := 112) dX11_feed_112 rfl ?_
          refine ww_getI hX (pc := 113) fX11_129 (by decide) (xs_49 hL) dX11_feed_113 ?_
          refine rI hX (pc := 116) hT (Nat.le_refl 0) (Nat.le_refl 0) dX11_feed_116 ?_
          exact ⟨⟨kI_109, kJ55, cI_109, (fun _ => ⟨by omega, by omega, by rw [h109]; exact ⟨hfi.1, fun k hk => hfi.2 k (by omega)⟩⟩), (fun h9 => absurd (by omega) h9)⟩, bkI_109, tkI_109⟩
        · simp only [w32_mod] at h_59
          refine ww_aload_n hX (pc := 62) dX11_feed_62 rfl ?_
          refine ww_getR hX (pc := 63) fX11_34 (by decide) (xs_49 hL) (xr_49_8 hL) dX11_feed_63 ?_
          refine ww_aload_n hX (pc := 66) dX11_feed_66 rfl ?_
          refine ww_getI hX (pc := 67) fX11_129 (by decide) (xs_49 hL) dX11_feed_67 ?_
          refine ww_iload hX (pc := 70) dX11_feed_70 rfl ?_
          refine ww_iadd hX (pc := 72) dX11_feed_72 ?_
          refine ww_aload_n hX (pc := 73) dX11_feed_73 rfl ?_
          refine ww_getR hX (pc := 74) fX11_37 (by decide) (xs_49 hL) (xr_49_9 hL) dX11_feed_74 ?_
          refine ww_iload hX (pc := 77) dX11_feed_77 rfl ?_
          refine ww_iconst hX (pc := 79) (x := 4) dX11_feed_79 rfl ?_
          refine ww_idiv hX (pc := 80) dX11_feed_80 (by decide) ?_
          have hd4 : i_div i 4 = i / 4 := i_div_v (by omega) (by omega) (by decide) (by decide)
          refine ww_iald hX (pc := 81) (xs_56 hL) (by decide) (by omega) (by omega) dX11_feed_81 ?_
          refine ww_bipush hX (pc := 82) (x := 24) dX11_feed_82 (by decide) ?_
          refine ww_bipush hX (pc := 84) (x := 8) dX11_feed_84 (by decide) ?_
          refine ww_iload hX (pc := 86) dX11_feed_86 rfl ?_
          refine ww_iconst hX (pc := 88) (x := 4) dX11_feed_88 rfl ?_
          refine ww_irem hX (pc := 89) dX11_feed_89 (by decide) ?_
          have hr4 : i_rem i 4 = i % 4 := i_rem_v (by omega) (by omega) (by decide) (by decide)
          refine ww_imul hX (pc := 90) dX11_feed_90 ?_
          refine ww_isub hX (pc := 91) dX11_feed_91 ?_
          refine ww_ishr hX (pc := 92) dX11_feed_92 ?_
          refine ww_i2b hX (pc := 93) dX11_feed_93 ?_
          refine ww_bast hX (pc := 94) (xs_55 hL) (by decide) (by omega) (by omega) dX11_feed_94 ?_
          refine ww_nmH (fun I_94 eI_94 => ?_)
          have kI_94 : Ch [55, 56] [10] Ia I_94 := by rw [eI_94]; exact Ch_r kI55 (by decide) (by decide)
          have cI_94 : RX I_94 := by rw [eI_94]; exact RX_r cI55 (by decide)
          have qI_94 := RX_o cI_94
          have f10_I_94 : I_94 49 10 = I55 49 10 := by rw [eI_94, up2_off _ _ _ (by decide)]
          have g94 : I_94 56 = up1 (up1 (up1 (up1 (up1 (Ia 56) 0 a) 1 b) 2 c) 3 e) 4 g := by rw [eI_94, up2_off _ _ _ (by decide)]; exact gj
          have t94 : FIr (Ia 55) (I_94 55) (Ia 49 10) a b c e g (i + 1) := by
            rw [eI_94, up2_row]
            refine FIr_s hfi (by omega) (by omega) (by omega) ?_
            rw [hd4, hr4, gj, U5_v _ _ _ _ _ _ (by omega), ib_ib]
          have bkI_94 : BK9 Ia I_94 := by rw [eI_94]; exact BK9_up bkl55 (by decide)
          have tkI_94 : TK9 Ia I_94 Ja J55 := by rw [eI_94]; exact TK9_up tkl55 (by decide)
          refine ww_iinc hX (pc := 95) (lv' := [some (kR (some 49)), some (kI a), some (kI b), some (kI c), some (kI e), some (kI g), some (kI (i + 1))]) dX11_feed_95 rfl (by decide) rfl rfl ?_
          refine ww_goto hX (pc := 98) (tgt := 55) dX11_feed_98 (by decide) ?_
          exact ih_55 _ (by have hm9 := Sh0_e hq_55; omega) (i + 1) I_94 J55 rfl ⟨bkI_94, tkI_94, ⟨kI_94, cI_94, kJ55, by omega, ⟨by omega, by omega⟩, g94, t94⟩⟩
    exact hl_55 _ 0 I_51 Ja rfl ⟨bkI_51, tkI_51, ⟨kI_51, cI_51, (Kp_rf (a := 49) (b := 73)), rfl, ⟨by omega, by omega⟩, g51, by rw [h51]; exact FIr_0⟩⟩
  · simp only [w32_mod] at h_10
    refine ww_iconst hX (pc := 13) (x := (-1)) dX11_feed_13 rfl ?_
    refine rI hX (pc := 14) hT (Nat.le_refl 0) (Nat.le_refl 0) dX11_feed_14 ?_
    exact ⟨⟨Ch_rf, (Kp_rf (a := 49) (b := 73)), hQ, (fun h9 => absurd h9 (by omega)), (fun _ => ⟨rfl, rfl, rfl⟩)⟩, BK9_rf, TK9_rf⟩
set_option maxHeartbeats 4000000 in
set_option maxRecDepth 20000 in
theorem c9_X11_end (l0 : Launch) {Ia Ja : aI1} {Ra : aR1} {Sa : aS1} (hL : LY Ra Sa) (hQ : RX Ia) {a : Int} (ha0 : -2147483648 ≤ a) (ha1 : a < 2147483648)  : CT l0 1 0 0 mX11_end [kR (some 49), kI a] Ia Ja Ra Sa (cI (fun x I' J' => (Ch [] [10] Ia I' ∧ Kp 49 73 Ja J' ∧ RX I' ∧ ((0 ≤ a ∧ a ≤ Ia 49 10) → x = a ∧ I' 49 10 = a) ∧ (¬ (0 ≤ a ∧ a ≤ Ia 49 10) → x = -1 ∧ I' 49 10 = Ia 49 10)) ∧ QK9 Ia I' Ja J') Ra Sa) := by
  refine ct_in pn_X11 (Nat.le_of_ble_eq_true rfl) (fun X hX hT hIn => ?_)
  have hX : aK l0 X cX11_end 2 RX11 (some .int) 1 0 0 := hX
  change WW X 0 [some (kR (some 49)), some (kI a)] [] Ia Ja Ra Sa 0 0
  have qIa := RX_o hQ
  refine ww_iload_n hX (pc := 0) dX11_end_0 rfl ?_
  refine ww_iconst hX (pc := 1) (x := 0) dX11_end_1 rfl ?_
  refine ww_aload_n hX (pc := 2) dX11_end_2 rfl ?_
  refine ww_getI hX (pc := 3) fX11_129 (by decide) (xs_49 hL) dX11_end_3 ?_
  refine sI3 hX (pc := 6) sX11_101 (c_X11_lies l0 (by omega) (by omega) (by omega) (by omega) (by omega) (by omega)) (by decide) (Nat.le_refl 0) (Nat.le_refl 0) (Nat.le_of_ble_eq_true rfl) dX11_end_6 (fun x_6 I_6 J_6 h_6 => ?_)
  obtain ⟨rfl, rfl, h_6⟩ := h_6
  refine ww_if_ne hX (pc := 9) (tgt := 14) dX11_end_9 (by decide) (fun h_9 => ?_) (fun h_9 => ?_)
  · simp only [w32_mod] at h_9
    have k_6 := h_6.2.mp (by omega)
    clear h_6
    refine ww_aload_n hX (pc := 14) dX11_end_14 rfl ?_
    refine ww_iload_n hX (pc := 15) dX11_end_15 rfl ?_
    refine ww_putI hX (pc := 16) (fun h9 => absurd h9 (by decide)) gX11_129 rfl (xs_49 hL) dX11_end_16 ?_
    refine ww_nmH (fun I_16 eI_16 => ?_)
    have kI_16 : Ch [] [10] Ia I_16 := by rw [eI_16]; exact Ch_f Ch_rf (by decide)
    have cI_16 : RX I_16 := by rw [eI_16]; exact RX_10 hQ (by omega) (by omega)
    have qI_16 := RX_o cI_16
    have r304_I_16 : I_16 51 304 = Ia 51 304 := by rw [eI_16, up2_off _ _ _ (by decide)]
    have r305_I_16 : I_16 51 305 = Ia 51 305 := by rw [eI_16, up2_off _ _ _ (by decide)]
    have rf_I_16 : FU (I_16 51 304) = FU (Ia 51 304) := by rw [r304_I_16]
    have z10 : I_16 49 10 = a := by rw [eI_16, up2_s]
    have bkI_16 : BK9 Ia I_16 := by rw [eI_16]; exact BK9_f BK9_rf (by decide)
    have tkI_16 : TK9 Ia I_16 Ja Ja := by rw [eI_16]; exact TK9_f TK9_rf (by decide)
    refine ww_iload_n hX (pc := 19) dX11_end_19 rfl ?_
    refine rI hX (pc := 20) hT (Nat.le_refl 0) (Nat.le_refl 0) dX11_end_20 ?_
    exact ⟨⟨kI_16, (Kp_rf (a := 49) (b := 73)), cI_16, by omega, by omega⟩, bkI_16, tkI_16⟩
  · simp only [w32_mod] at h_9
    refine ww_iconst hX (pc := 12) (x := (-1)) dX11_end_12 rfl ?_
    refine rI hX (pc := 13) hT (Nat.le_refl 0) (Nat.le_refl 0) dX11_end_13 ?_
    exact ⟨⟨Ch_rf, (Kp_rf (a := 49) (b := 73)), hQ, by omega, by omega⟩, BK9_rf, TK9_rf⟩
set_option maxHeartbeats 4000000 in
set_option maxRecDepth 20000 in
theorem c9_X11_unwant (l0 : Launch) {Ia Ja : aI1} {Ra : aR1} {Sa : aS1} (hL : LY Ra Sa) (hQ : RX Ia)  : CT l0 0 0 0 mX11_unwant [kR (some 49)] Ia Ja Ra Sa (cI (fun x I' J' => (Ch [51] [1] Ia I' ∧ Kp 49 73 Ja J' ∧ RX I' ∧ x = Ia 51 309 ∧ I' 51 = up1 (Ia 51) 309 0) ∧ VQ9 Ia I') Ra Sa) := by
  refine ct_in pn_X11 (Nat.le_of_ble_eq_true rfl) (fun X hX hT hIn => ?_)
  have hX : aK l0 X cX11_unwant 2 RX11 (some .int) 0 0 0 := hX
  change WW X 0 [some (kR (some 49)), none] [] Ia Ja Ra Sa 0 0
  have qIa := RX_o hQ
  refine ww_aload_n hX (pc := 0) dX11_unwant_0 rfl ?_
  refine ww_getR hX (pc := 1) fX11_20 (by decide) (xs_49 hL) (xr_49_3 hL) dX11_unwant_1 ?_
  refine ww_sipush hX (pc := 4) (x := 309) dX11_unwant_4 (by decide) ?_
  refine ww_iald hX (pc := 7) (xs_51 hL) (by decide) (by omega) (by omega) dX11_unwant_7 ?_
  refine ww_toI (b := Ia 51 309) rfl ?_
  refine ww_nmI (fun v_8 hv_8 => ?_)
  refine ww_istore_n hX (pc := 8) (lv' := [some (kR (some 49)), some (kI v_8)]) dX11_unwant_8 (by decide) rfl rfl ?_
  refine ww_aload_n hX (pc := 9) dX11_unwant_9 rfl ?_
  refine ww_getR hX (pc := 10) fX11_20 (by decide) (xs_49 hL) (xr_49_3 hL) dX11_unwant_10 ?_
  refine ww_sipush hX (pc := 13) (x := 309) dX11_unwant_13 (by decide) ?_
  refine ww_iconst hX (pc := 16) (x := 0) dX11_unwant_16 rfl ?_
  refine ww_iast hX (pc := 17) (xs_51 hL) (by decide) (by omega) (by omega) dX11_unwant_17 ?_
  refine ww_nmH (fun I_17 eI_17 => ?_)
  have kI_17 : Ch [51] [1] Ia I_17 := by rw [eI_17]; exact Ch_r Ch_rf (by decide) (by decide)
  have cI_17 : RX I_17 := by rw [eI_17]; exact RX_309 hQ (by omega) (by omega)
  have qI_17 := RX_o cI_17
  have g17 : I_17 51 = up1 (Ia 51) 309 0 := by rw [eI_17, up2_row]; rfl
  have bkI_17 : BK9 Ia I_17 := by rw [eI_17]; exact BK9_up BK9_rf (by decide)
  have tkI_17 : TK9 Ia I_17 Ja Ja := by rw [eI_17]; exact TK9_up TK9_rf (by decide)
  refine ww_aload_n hX (pc := 18) dX11_unwant_18 rfl ?_
  refine ww_dupR hX (pc := 19) dX11_unwant_19 ?_
  refine ww_getI hX (pc := 20) fX11_11 (by decide) (xs_49 hL) dX11_unwant_20 ?_
  refine ww_iconst hX (pc := 23) (x := 1) dX11_unwant_23 rfl ?_
  refine ww_iadd hX (pc := 24) dX11_unwant_24 ?_
  refine ww_putI hX (pc := 25) (fun h9 => absurd h9 (by decide)) gX11_11 rfl (xs_49 hL) dX11_unwant_25 ?_
  refine ww_nmH (fun I_25 eI_25 => ?_)
  have kI_25 : Ch [51] [1] Ia I_25 := by rw [eI_25]; exact Ch_f kI_17 (by decide)
  have cI_25 : RX I_25 := by rw [eI_25]; exact RX_f cI_17 (by decide)
  have qI_25 := RX_o cI_25
  have r309_I_25 : I_25 51 309 = I_17 51 309 := by rw [eI_25, up2_off _ _ _ (by decide)]
  have g25 : I_25 51 = I_17 51 := by rw [eI_25, up2_off _ _ _ (by decide)]
  have vqI_25 : VQ9 Ia I_25 := VQ9_of bkI_17 eI_25
  refine ww_iload_n hX (pc := 28) dX11_unwant_28 rfl ?_
  refine rI hX (pc := 29) hT (Nat.le_refl 0) (Nat.le_refl 0) dX11_unwant_29 ?_
  exact ⟨⟨kI_25, (Kp_rf (a := 49) (b := 73)), cI_25, hv_8, g25.trans g17⟩, vqI_25⟩
set_option maxHeartbeats 4000000 in
set_option maxRecDepth 20000 in
theorem c9_X11_want (l0 : Launch) {Ia Ja : aI1} {Ra : aR1} {Sa : aS1} (hL : LY Ra Sa) (hQ : RX Ia) {a : Int} (ha0 : -2147483648 ≤ a) (ha1 : a < 2147483648)  : CT l0 2 0 0 mX11_want [kR (some 49), kI a] Ia Ja Ra Sa (cI (fun x I' J' => (Ch [50, 51] [0, 1] Ia I' ∧ Kp 49 73 Ja J' ∧ RX I' ∧ (¬ (0 ≤ a ∧ a < Ia 51 305) → x = -1 ∧ I' 51 = Ia 51) ∧ ((0 ≤ a ∧ a < Ia 51 305) → (16 ≤ Ia 51 309 → x = -5 ∧ I' 51 = Ia 51) ∧ (Ia 51 309 < 16 → x = Ia 51 309 + 1 ∧ I' 51 = up1 (up1 (Ia 51) (288 + (Ia 51 309).toNat) a) 309 (Ia 51 309 + 1)))) ∧ RGQ9 x Ia I' Ja J') Ra Sa) := by
  refine ct_in pn_X11 (Nat.le_of_ble_eq_true rfl) (fun X hX hT hIn => ?_)
  have hX : aK l0 X cX11_want 2 RX11 (some .int) 2 0 0 := hX
  change WW X 0 [some (kR (some 49)), some (kI a)] [] Ia Ja Ra Sa 0 0
  have qIa := RX_o hQ
  refine ww_aload_n hX (pc := 0) dX11_want_0 rfl ?_
  refine ww_iload_n hX (pc := 1) dX11_want_1 rfl ?_
  refine vI1 hX (pc := 2) sX11_123 (xs_49 hL) (c_X11_isNews l0 hL hQ (by omega) (by omega)) (by decide) (Nat.le_refl 0) (Nat.le_refl 0) (Nat.le_of_ble_eq_true rfl) dX11_want_2 (fun x_2 I_2 J_2 h_2 => ?_)
  obtain ⟨rfl, rfl, h_2⟩ := h_2
  refine ww_if_ne hX (pc := 5) (tgt := 14) dX11_want_5 (by decide) (fun h_5 => ?_) (fun h_5 => ?_)
  · simp only [w32_mod] at h_5
    have k_2 := h_2.2.mp (by omega)
    clear h_2
    refine ww_aload_n hX (pc := 14) dX11_want_14 rfl ?_
    refine ww_getR hX (pc := 15) fX11_20 (by decide) (xs_49 hL) (xr_49_3 hL) dX11_want_15 ?_
    refine ww_sipush hX (pc := 18) (x := 309) dX11_want_18 (by decide) ?_
    refine ww_iald hX (pc := 21) (xs_51 hL) (by decide) (by omega) (by omega) dX11_want_21 ?_
    refine ww_toI (b := Ia 51 309) rfl ?_
    refine ww_bipush hX (pc := 22) (x := 16) dX11_want_22 (by decide) ?_
    refine ww_icmp_ne hX (pc := 24) (tgt := 34) dX11_want_24 (by decide) (fun h_24 => ?_) (fun h_24 => ?_)
    · simp only [w32_mod] at h_24
      refine ww_aload_n hX (pc := 34) dX11_want_34 rfl ?_
      refine ww_getR hX (pc := 35) fX11_20 (by decide) (xs_49 hL) (xr_49_3 hL) dX11_want_35 ?_
      refine ww_sipush hX (pc := 38) (x := 288) dX11_want_38 (by decide) ?_
      refine ww_aload_n hX (pc := 41) dX11_want_41 rfl ?_
      refine ww_getR hX (pc := 42) fX11_20 (by decide) (xs_49 hL) (xr_49_3 hL) dX11_want_42 ?_
      refine ww_sipush hX (pc := 45) (x := 309) dX11_want_45 (by decide) ?_
      refine ww_iald hX (pc := 48) (xs_51 hL) (by decide) (by omega) (by omega) dX11_want_48 ?_
      refine ww_toI (b := Ia 51 309) rfl ?_
      refine ww_iadd hX (pc := 49) dX11_want_49 ?_
      refine ww_iload_n hX (pc := 50) dX11_want_50 rfl ?_
      refine ww_iast hX (pc := 51) (xs_51 hL) (by decide) (by omega) (by omega) dX11_want_51 ?_
      refine ww_nmH (fun I_51 eI_51 => ?_)
      have kI_51 : Ch [50, 51] [0, 1] Ia I_51 := by rw [eI_51]; exact Ch_r Ch_rf (by decide) (by decide)
      have cI_51 : RX I_51 := by rw [eI_51]; exact RX_lo hQ (by omega)
      have qI_51 := RX_o cI_51
      have r304_I_51 : I_51 51 304 = Ia 51 304 := by rw [eI_51, up2_n _ _ (Or.inr (by omega))]
      have r305_I_51 : I_51 51 305 = Ia 51 305 := by rw [eI_51, up2_n _ _ (Or.inr (by omega))]
      have r309_I_51 : I_51 51 309 = Ia 51 309 := by rw [eI_51, up2_n _ _ (Or.inr (by omega))]
      have rf_I_51 : FU (I_51 51 304) = FU (Ia 51 304) := by rw [r304_I_51]
      have g51 : I_51 51 = up1 (Ia 51) (288 + (Ia 51 309).toNat) a := by rw [eI_51, up2_row]; exact congrArg (fun z => up1 (Ia 51) z a) (by omega)
      have bkI_51 : BK9 Ia I_51 := by rw [eI_51]; exact BK9_up BK9_rf (by decide)
      have tkI_51 : TK9 Ia I_51 Ja Ja := by rw [eI_51]; exact TK9_up TK9_rf (by decide)
      refine ww_aload_n hX (pc := 52) dX11_want_52 rfl ?_
      refine ww_getR hX (pc := 53) fX11_20 (by decide) (xs_49 hL) (xr_49_3 hL) dX11_want_53 ?_
      refine ww_sipush hX (pc := 56) (x := 309) dX11_want_56 (by decide) ?_
      refine ww_dup2 hX (pc := 59) dX11_want_59 ?_
      refine ww_iald hX (pc := 60) (xs_51 hL) (by decide) (by omega) (by omega) dX11_want_60 ?_
      refine ww_toI (b := I_51 51 309) rfl ?_
      refine ww_iconst hX (pc := 61) (x := 1) dX11_want_61 rfl ?_
      refine ww_iadd hX (pc := 62) dX11_want_62 ?_
      refine ww_iast hX (pc := 63) (xs_51 hL) (by decide) (by omega) (by omega) dX11_want_63 ?_
      refine ww_nmH (fun I_63 eI_63 => ?_)
      have kI_63 : Ch [50, 51] [0, 1] Ia I_63 := by rw [eI_63]; exact Ch_r kI_51 (by decide) (by decide)
      have cI_63 : RX I_63 := by rw [eI_63]; exact RX_309 cI_51 (by omega) (by omega)
      have qI_63 := RX_o cI_63
      have r304_I_63 : I_63 51 304 = I_51 51 304 := by rw [eI_63, up2_n _ _ (Or.inr (by decide))]
      have r305_I_63 : I_63 51 305 = I_51 51 305 := by rw [eI_63, up2_n _ _ (Or.inr (by decide))]
      have rf_I_63 : FU (I_63 51 304) = FU (I_51 51 304) := by rw [r304_I_63]
      have g63 : I_63 51 = up1 (up1 (Ia 51) (288 + (Ia 51 309).toNat) a) 309 (Ia 51 309 + 1) := by
        rw [eI_63, up2_row, g51]
        exact congrArg (fun z => up1 (up1 (Ia 51) (288 + (Ia 51 309).toNat) a) 309 (z + 1)) (by rw [← g51]; exact r309_I_51)
      have bkI_63 : BK9 Ia I_63 := by rw [eI_63]; exact BK9_up bkI_51 (by decide)
      have tkI_63 : TK9 Ia I_63 Ja Ja := by rw [eI_63]; exact TK9_up tkI_51 (by decide)
      refine ww_aload_n hX (pc := 64) dX11_want_64 rfl ?_
      refine ww_aload_n hX (pc := 65) dX11_want_65 rfl ?_
      refine ww_getR hX (pc := 66) fX11_20 (by decide) (xs_49 hL) (xr_49_3 hL) dX11_want_66 ?_
      refine ww_sipush hX (pc := 69) (x := 309) dX11_want_69 (by decide) ?_
      refine ww_iald hX (pc := 72) (xs_51 hL) (by decide) (by omega) (by omega) dX11_want_72 ?_
      refine ww_toI (b := I_63 51 309) rfl ?_
      refine vI1 hX (pc := 73) sX11_109 (xs_49 hL) (n9_X11_good l0 hL cI_63) (by decide) (Nat.le_refl 0) (Nat.le_refl 0) (Nat.le_of_ble_eq_true rfl) dX11_want_73 (fun x_73 I_73 J_73 h_73 => ?_)
      obtain ⟨h_73, qxI_73⟩ := h_73
      have kJ_73 : Kp 49 73 Ja J_73 := Kp_tr (Kp_rf (a := 49) (b := 73)) h_73.2.1
      have kI_73 : Ch [50, 51] [0, 1] Ia I_73 := Ch_tr kI_63 (Ch_wd h_73.1 (by decide) (by decide))
      have cI_73 : RX I_73 := h_73.2.2.1
      have qI_73 := RX_o cI_73
      have r304_I_73 : I_73 51 304 = I_63 51 304 := by rw [h_73.1.1 51 (by decide) (by decide)]
      have r305_I_73 : I_73 51 305 = I_63 51 305 := by rw [h_73.1.1 51 (by decide) (by decide)]
      have r309_I_73 : I_73 51 309 = I_63 51 309 := by rw [h_73.1.1 51 (by decide) (by decide)]
      have rf_I_73 : FU (I_73 51 304) = FU (I_63 51 304) := by rw [r304_I_73]
      have xv73 := h_73.2.2.2
      refine rI hX (pc := 76) hT (Nat.le_refl 0) (Nat.le_refl 0) dX11_want_76 ?_
      exact ⟨⟨kI_73, kJ_73, cI_73, (fun h9 => absurd (by omega) h9), (fun _ => ⟨(fun h9 => absurd h9 (by omega)), (fun _ => ⟨by rw [xv73, g63]; exact up1_s _ _ _, by rw [h_73.1.1 51 (by decide) (by decide), g63]⟩)⟩)⟩, ⟨(fun h9 => absurd h9 (by have := h_73.2.2.2; omega)), (fun _ => GQ9_tr bkI_63 qxI_73)⟩⟩
    · simp only [w32_mod] at h_24
      refine ww_aload_n hX (pc := 27) dX11_want_27 rfl ?_
      refine ww_bipush hX (pc := 28) (x := (-5)) dX11_want_28 (by decide) ?_
      refine vI1 hX (pc := 30) sX11_105 (xs_49 hL) (n9_X11_refuses l0 hL hQ (by omega) (by omega)) (by decide) (Nat.le_refl 0) (Nat.le_refl 0) (Nat.le_of_ble_eq_true rfl) dX11_want_30 (fun x_30 I_30 J_30 h_30 => ?_)
      obtain ⟨h_30, qxI_30⟩ := h_30
      have kJ_30 : Kp 49 73 Ja J_30 := Kp_tr (Kp_rf (a := 49) (b := 73)) h_30.2.1
      have kI_30 : Ch [50, 51] [0, 1] Ia I_30 := Ch_tr Ch_rf (Ch_wd h_30.1 (by decide) (by decide))
      have cI_30 : RX I_30 := h_30.2.2.1
      have qI_30 := RX_o cI_30
      have r304_I_30 : I_30 51 304 = Ia 51 304 := by rw [h_30.1.1 51 (by decide) (by decide)]
      have r305_I_30 : I_30 51 305 = Ia 51 305 := by rw [h_30.1.1 51 (by decide) (by decide)]
      have r309_I_30 : I_30 51 309 = Ia 51 309 := by rw [h_30.1.1 51 (by decide) (by decide)]
      have rf_I_30 : FU (I_30 51 304) = FU (Ia 51 304) := by rw [r304_I_30]
      have xv30 := h_30.2.2.2
      refine rI hX (pc := 33) hT (Nat.le_refl 0) (Nat.le_refl 0) dX11_want_33 ?_
      exact ⟨⟨kI_30, kJ_30, cI_30, (fun h9 => absurd (by omega) h9), (fun _ => ⟨(fun _ => ⟨xv30, h_30.1.1 51 (by decide) (by decide)⟩), (fun h9 => absurd h9 (by omega))⟩)⟩, ⟨(fun _ => RQ9_tr BK9_rf TK9_rf qxI_30), (fun h9 => absurd h9 (by have := h_30.2.2.2; omega))⟩⟩
  · simp only [w32_mod] at h_5
    refine ww_aload_n hX (pc := 8) dX11_want_8 rfl ?_
    refine ww_iconst hX (pc := 9) (x := (-1)) dX11_want_9 rfl ?_
    refine vI1 hX (pc := 10) sX11_105 (xs_49 hL) (n9_X11_refuses l0 hL hQ (by omega) (by omega)) (by decide) (Nat.le_refl 0) (Nat.le_refl 0) (Nat.le_of_ble_eq_true rfl) dX11_want_10 (fun x_10 I_10 J_10 h_10 => ?_)
    obtain ⟨h_10, qxI_10⟩ := h_10
    have kJ_10 : Kp 49 73 Ja J_10 := Kp_tr (Kp_rf (a := 49) (b := 73)) h_10.2.1
    have kI_10 : Ch [50, 51] [0, 1] Ia I_10 := Ch_tr Ch_rf (Ch_wd h_10.1 (by decide) (by decide))
    have cI_10 : RX I_10 := h_10.2.2.1
    have qI_10 := RX_o cI_10
    have r304_I_10 : I_10 51 304 = Ia 51 304 := by rw [h_10.1.1 51 (by decide) (by decide)]
    have r305_I_10 : I_10 51 305 = Ia 51 305 := by rw [h_10.1.1 51 (by decide) (by decide)]
    have r309_I_10 : I_10 51 309 = Ia 51 309 := by rw [h_10.1.1 51 (by decide) (by decide)]
    have rf_I_10 : FU (I_10 51 304) = FU (Ia 51 304) := by rw [r304_I_10]
    have xv10 := h_10.2.2.2
    refine rI hX (pc := 13) hT (Nat.le_refl 0) (Nat.le_refl 0) dX11_want_13 ?_
    exact ⟨⟨kI_10, kJ_10, cI_10, (fun _ => ⟨xv10, h_10.1.1 51 (by decide) (by decide)⟩), (fun h9 => absurd h9 (by omega))⟩, ⟨(fun _ => RQ9_tr BK9_rf TK9_rf qxI_10), (fun h9 => absurd h9 (by have := h_10.2.2.2; omega))⟩⟩
