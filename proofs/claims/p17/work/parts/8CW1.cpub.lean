theorem CT_wI {l0 : Launch} {d mc ms : Nat} {M : aM} {av : List aV} {I J : aI1} {R : aR1} {S : aS1} {p q : Int → aI1 → aI1 → Prop} (h : CT l0 d mc ms M av I J R S (cI p R S)) (hw : ∀ x I' J', p x I' J' → q x I' J') : CT l0 d mc ms M av I J R S (cI q R S) := by
  intro E pr e ha hc hk s m args below hf happ hP hK
  obtain ⟨n, o, h1, h2, h3, ⟨⟨r, I', J', R', S', g1, ⟨x, e1, e2, e3, e4⟩, g3⟩, g4⟩, g5⟩ := h E pr e ha hc hk s m args below hf happ hP hK
  exact ⟨n, o, h1, h2, h3, ⟨⟨r, I', J', R', S', g1, ⟨x, e1, e2, e3, hw _ _ _ e4⟩, g3⟩, g4⟩, g5⟩
theorem CT_wJ {l0 : Launch} {d mc ms : Nat} {M : aM} {av : List aV} {I J : aI1} {R : aR1} {S : aS1} {p q : Int → aI1 → aI1 → Prop} (h : CT l0 d mc ms M av I J R S (cJ p R S)) (hw : ∀ x I' J', p x I' J' → q x I' J') : CT l0 d mc ms M av I J R S (cJ q R S) := by
  intro E pr e ha hc hk s m args below hf happ hP hK
  obtain ⟨n, o, h1, h2, h3, ⟨⟨r, I', J', R', S', g1, ⟨x, e1, e2, e3, e4⟩, g3⟩, g4⟩, g5⟩ := h E pr e ha hc hk s m args below hf happ hP hK
  exact ⟨n, o, h1, h2, h3, ⟨⟨r, I', J', R', S', g1, ⟨x, e1, e2, e3, hw _ _ _ e4⟩, g3⟩, g4⟩, g5⟩
theorem CT_wV {l0 : Launch} {d mc ms : Nat} {M : aM} {av : List aV} {I J : aI1} {R : aR1} {S : aS1} {p q : aI1 → aI1 → Prop} (h : CT l0 d mc ms M av I J R S (cV p R S)) (hw : ∀ I' J', p I' J' → q I' J') : CT l0 d mc ms M av I J R S (cV q R S) := by
  intro E pr e ha hc hk s m args below hf happ hP hK
  obtain ⟨n, o, h1, h2, h3, ⟨⟨r, I', J', R', S', g1, ⟨e1, e2, e3, e4⟩, g3⟩, g4⟩, g5⟩ := h E pr e ha hc hk s m args below hf happ hP hK
  exact ⟨n, o, h1, h2, h3, ⟨⟨r, I', J', R', S', g1, ⟨e1, e2, e3, hw _ _ e4⟩, g3⟩, g4⟩, g5⟩
/-- the tables that a MANNER chooses by are right -/
def KT (m : Int) (I : aI1) (o L T : Nat → Int) : Prop := (m = 1 → ∀ s : Nat, (s : Int) ≤ FU (I 1 5) → o s = oilS (I 2) s (I 1 5).toNat) ∧ (m = 2 → zLV (I 3) (I 1 7) (FU (I 1 5) + 1) (I 1 6) (-1) L) ∧ (m = 3 → MTc (I 3) (I 1 7) (I 1 5) (I 1 6) T)
theorem FRk_up {I J : aI1} {k j : Nat} {v : Int} (h : FRk I J) (hk : k ≠ 1 ∧ k ≠ 2 ∧ k ≠ 3 ∧ k ≠ 18 ∧ k ≠ 19 ∧ k ≠ 24) : FRk (up2 I k j v) J := by
  have e : ∀ a, a ≠ k → up2 I k j v a = I a := fun a ha => up2_off _ _ _ ha
  exact FRk_of h (e _ (by omega)) (by rw [e 1 (by omega)]) (by rw [e 1 (by omega)]) (by rw [e 1 (by omega)]) (e _ (by omega)) (e _ (by omega)) (e _ (by omega)) (e _ (by omega)) rfl rfl
theorem FRk_u1 {I J : aI1} {j : Nat} {v : Int} (h : FRk I J) (hk : j ≠ 5 ∧ j ≠ 6 ∧ j ≠ 7) : FRk (up2 I 1 j v) J := by
  have e : ∀ a, a ≠ 1 → up2 I 1 j v a = I a := fun a ha => up2_off _ _ _ ha
  have e1 : ∀ b, b ≠ j → up2 I 1 j v 1 b = I 1 b := fun b hb => up2_n _ _ (Or.inr hb)
  exact FRk_of h (e _ (by decide)) (e1 _ (by omega)) (e1 _ (by omega)) (e1 _ (by omega)) (e _ (by decide)) (e _ (by decide)) (e _ (by decide)) (e _ (by decide)) rfl rfl
theorem FRk_oil {I I1 I2 J : aI1} {j : Nat} {v : Int} (h : FRk I J) (e1 : I1 = up2 I 2 j v) (e2 : I2 = up2 I1 18 10 0) : FRk I2 J := by
  have f : ∀ a, a ≠ 2 → a ≠ 18 → I2 a = I a := fun a h1 h2 => by rw [e2, up2_off _ _ _ h2, e1, up2_off _ _ _ h1]
  have g : I2 18 = up1 (I 18) 10 0 := by rw [e2, up2_row, e1, up2_off _ _ _ (by decide)]
  obtain ⟨h0, h1, h2, h3⟩ := h
  refine ⟨?_, fun h9 => absurd (by rw [g, up1_s]) h9, fun h9 => LT_of (h2 (by rw [g, up1_n _ _ (by decide)] at h9; exact h9)) (by rw [f 1 (by decide) (by decide)]) (by rw [f 1 (by decide) (by decide)]) (by rw [f 1 (by decide) (by decide)]) (f 3 (by decide) (by decide)) (f 24 (by decide) (by decide)), fun h9 => MT_of (h3 (by rw [g, up1_n _ _ (by decide)] at h9; exact h9)) (by rw [f 1 (by decide) (by decide)]) (by rw [f 1 (by decide) (by decide)]) (by rw [f 1 (by decide) (by decide)]) (f 3 (by decide) (by decide)) rfl rfl⟩
  unfold FRf
  rw [g]
  exact ⟨by rw [up1_s]; omega, by rw [up1_n _ _ (by decide)]; exact h0.2.1, by rw [up1_n _ _ (by decide)]; exact h0.2.2⟩
theorem KT_p {m : Int} {I I' J' : aI1} (h1 : m = 1 → OT I') (h2 : m = 2 → LT I') (h3 : m = 3 → MT I' J') (e1 : I' 1 = I 1) (e2 : I' 2 = I 2) (e3 : I' 3 = I 3) : KT m I (I' 19) (I' 24) (J' 28) := by
  refine ⟨fun e s hs => ?_, fun e => ?_, fun e => ?_⟩
  · have h := h1 e s (by rw [e1]; exact hs)
    rw [e1, e2] at h
    exact h
  · have h := h2 e
    unfold LT at h
    rw [e1, e3] at h
    exact h
  · have h := MT_c (h3 e)
    rw [e1, e3] at h
    exact h
/-- how many are SENT in a DRAWN NIGHT, and how -/
def dS (a : Int) : Nat → Int
  | 0 => a
  | i + 1 => (dS a i * 1103 + 12345) % 1000003
def dN (nx : Int → Int → Int) (a K : Int) : Nat → Int
  | 0 => 0
  | i + 1 => nx (dN nx a K i) (dS a (i + 1) % K)
def NGc (nx : Int → Int → Int) (a K b : Int) (F : Nat → Int) (n u : Int) : Prop := (0 ≤ n ∧ n ≤ b) ∧ (∀ j : Nat, (j : Int) < n → F j = dN nx a K (j + 1) ∧ 0 ≤ dN nx a K (j + 1)) ∧ ((n = b ∧ u = -1) ∨ (n < b ∧ dN nx a K (n.toNat + 1) = -1 ∧ u = dS a (n.toNat + 1) % K))
theorem NGc_un {nx : Int → Int → Int} {a K b n m u v : Int} {F G : Nat → Int} (h : NGc nx a K b F n u) (k : NGc nx a K b G m v) : n = m ∧ u = v ∧ ∀ j : Nat, (j : Int) < n → F j = G j := by
  obtain ⟨⟨h0, h1⟩, h2, h3⟩ := h
  obtain ⟨⟨k0, k1⟩, k2, k3⟩ := k
  have e : n = m := by
    refine Decidable.byContradiction (fun hne => ?_)
    by_cases hlt : n < m
    · have g1 := (k2 n.toNat (by omega)).2
      rcases h3 with ⟨h3, -⟩ | ⟨-, h3, -⟩ <;> omega
    · have g1 := (h2 m.toNat (by omega)).2
      rcases k3 with ⟨k3, -⟩ | ⟨-, k3, -⟩ <;> omega
  subst e
  refine ⟨rfl, ?_, fun j hj => by rw [(h2 j hj).1, (k2 j hj).1]⟩
  rcases h3 with ⟨h3, h4⟩ | ⟨h3, h4, h5⟩
  · rcases k3 with ⟨k3, k4⟩ | ⟨k3, k4, k5⟩ <;> omega
  · rcases k3 with ⟨k3, k4⟩ | ⟨k3, k4, k5⟩
    · omega
    · rw [h5, k5]
/-- a TRAIL is JUDGED -/
def JGp (F : Nat → Int) (i : Nat) : Int := if i = 0 then 0 else w32 (F (i - 1))
def JG (ok : Int → Int → Prop) (F : Nat → Int) (n x : Int) : Prop := (x = -1 ∧ ∀ i : Nat, (i : Int) < n → ok (JGp F i) (w32 (F i))) ∨ (0 ≤ x ∧ x < n ∧ (∀ i : Nat, (i : Int) < x → ok (JGp F i) (w32 (F i))) ∧ ¬ ok (JGp F x.toNat) (w32 (F x.toNat)))
theorem n8_X4_oilOf (l0 : Launch) {Ia Ja : aI1} {Ra : aR1} {Sa : aS1} (hL : LY Ra Sa) (hI : XI Ia) (hF : FRk Ia Ja) {a : Int} (ha0 : 0 ≤ a) (ha1 : a ≤ FU (Ia 1 5)) : CT l0 2 0 0 mX4_oilOf [kR (some 18), kI a] Ia Ja Ra Sa (cI (fun x I' J' => Kp 18 31 Ia I' ∧ Kp 18 31 Ja J' ∧ FRk I' J' ∧ x = oilS (Ia 2) a.toNat (Ia 1 5).toNat) Ra Sa) :=
  CT_wI (c8_X4_oilOf l0 hL hI hF ha0 ha1) (fun x I' J' h => ⟨Kp_wd h.1 (by decide) (by decide), h.2.1 ▸ Kp_rf, h.2.1 ▸ h.2.2.1, h.2.2.2⟩)
theorem n8_X4_lastingOf (l0 : Launch) {Ia Ja : aI1} {Ra : aR1} {Sa : aS1} (hL : LY Ra Sa) (hI : XI Ia) (hF : FRk Ia Ja) {a : Int} (ha0 : 0 ≤ a) (ha1 : a ≤ FU (Ia 1 5)) : CT l0 4 0 0 mX4_lastingOf [kR (some 18), kI a] Ia Ja Ra Sa (cI (fun x I' J' => Kp 18 31 Ia I' ∧ Kp 18 31 Ja J' ∧ FRk I' J' ∧ ∃ L, zLV (Ia 3) (Ia 1 7) (FU (Ia 1 5) + 1) (Ia 1 6) (-1) L ∧ x = L a.toNat) Ra Sa) :=
  CT_wI (c8_X4_lastingOf l0 hL hI hF ha0 ha1) (fun x I' J' h => ⟨Kp_wd h.1 (by decide) (by decide), h.2.1 ▸ Kp_rf, h.2.1 ▸ h.2.2.1, h.2.2.2⟩)
theorem n8_X4_lastingWithout (l0 : Launch) {Ia Ja : aI1} {Ra : aR1} {Sa : aS1} (hL : LY Ra Sa) (hI : XI Ia) (hF : FRk Ia Ja) {a : Int} : CT l0 3 0 0 mX4_lastingWithout [kR (some 18), kI a] Ia Ja Ra Sa (cI (fun x I' J' => Kp 18 31 Ia I' ∧ Kp 18 31 Ja J' ∧ FRk I' J' ∧ ∃ L, zLV (Ia 3) (i_or (Ia 1 7) (i_shl 1 a)) (FU (Ia 1 5) + 1) (Ia 1 6) (-1) L ∧ x = L 0) Ra Sa) :=
  CT_wI (c8_X4_lastingWithout l0 hL hI) (fun x I' J' h => ⟨Kp_wd h.1 (by decide) (by decide), Kp_wd h.2.1 (by decide) (by decide), FRk_kp hF h.1 h.2.1 (by decide), h.2.2⟩)
theorem n8_X4_meanPart (l0 : Launch) {Ia Ja : aI1} {Ra : aR1} {Sa : aS1} (hL : LY Ra Sa) (hI : XI Ia) (hF : FRk Ia Ja) (hK : ∀ s : Nat, (s : Int) ≤ FU (Ia 1 5) → Ia 3 s < Ia 1 6) {a b : Int} (ha0 : 0 ≤ a) (ha1 : a ≤ FU (Ia 1 5)) (hb0 : 0 ≤ b) (hb1 : b ≤ 1) : CT l0 4 0 0 mX4_meanPart [kR (some 18), kI a, kI b] Ia Ja Ra Sa (cJ (fun x I' J' => Kp 18 31 Ia I' ∧ Kp 18 31 Ja J' ∧ FRk I' J' ∧ ∃ T, MTc (Ia 3) (Ia 1 7) (Ia 1 5) (Ia 1 6) T ∧ x = mPt (T a.toNat) (blw (Ia 3) (Ia 1 6) a.toNat) b) Ra Sa) :=
  CT_wJ (c8_X4_meanPart l0 hL hI hF hK ha0 ha1 hb0 hb1) (fun x I' J' h => ⟨Kp_wd h.1 (by decide) (by decide), Kp_wd h.2.1 (by decide) (by decide), h.2.2.1, h.2.2.2⟩)
theorem n8_X4_choose (l0 : Launch) {Ia Ja : aI1} {Ra : aR1} {Sa : aS1} (hL : LY Ra Sa) (hI : XI Ia) (hF : FRk Ia Ja) {a w m : Int} (ha0 : 0 ≤ a) (ha1 : a ≤ FU (Ia 1 5)) (hw0 : 0 ≤ w) (hw1 : w < 8) (hm0 : 0 ≤ m) (hm1 : m ≤ 3) (hTR : ∀ t : Nat, (t : Int) ≤ FU (Ia 1 5) → TR m Ia Ja t)  : CT l0 3 0 0 mX4_choose [kR (some 18), kI a, kI w, kI m] Ia Ja Ra Sa (cI (fun x I' J' => Kp 18 31 Ia I' ∧ Kp 18 31 Ja J' ∧ FRk I' J' ∧ (x = NX (bC m (Ia 19) (Ia 24) (Ja 28)) (Ia 3) (Ia 1 7) a (FU (Ia 1 5) + 1) w ∧ Kp 21 22 Ia I' ∧ Ja = J')) Ra Sa) :=
  CT_wI (c8_X4_choose l0 hL hI ha0 ha1 hw0 hw1 hm0 hm1 hTR) (fun x I' J' h => ⟨Kp_wd h.1 (by decide) (by decide), h.2.1 ▸ Kp_rf, FRk_kp (a := 21) (b := 22) hF h.1 (h.2.1 ▸ Kp_rf) (by decide), h.2.2, h.1, h.2.1⟩)
theorem n8_X4_wouldLight (l0 : Launch) {Ia Ja : aI1} {Ra : aR1} {Sa : aS1} (hL : LY Ra Sa) (hI : XI Ia) (hF : FRk Ia Ja) {a b m : Int} (ha0 : -2147483648 ≤ a) (ha1 : a < 2147483648) (hb0 : -2147483648 ≤ b) (hb1 : b < 2147483648) (hm0 : 0 ≤ m) (hm1 : m ≤ 3) (hTR : ∀ t : Nat, (t : Int) ≤ FU (Ia 1 5) → TR m Ia Ja t)  : CT l0 4 0 0 mX4_wouldLight [kR (some 18), kI a, kI b, kI m] Ia Ja Ra Sa (cI (fun x I' J' => Kp 18 31 Ia I' ∧ Kp 18 31 Ja J' ∧ FRk I' J' ∧ (((x = 0 ∨ x = 1) ∧ (x = 1 ↔ (0 ≤ a ∧ a ≤ FU (Ia 1 5) ∧ 0 ≤ b ∧ b ≤ FU (Ia 1 5) ∧ ¬ Ia 3 b.toNat = -1 ∧ NX (bC m (Ia 19) (Ia 24) (Ja 28)) (Ia 3) (Ia 1 7) a (FU (Ia 1 5) + 1) (Ia 3 b.toNat) = b))) ∧ Kp 21 22 Ia I' ∧ Ja = J')) Ra Sa) :=
  CT_wI (c8_X4_wouldLight l0 hL hI ha0 ha1 hb0 hb1 hm0 hm1 hTR) (fun x I' J' h => ⟨Kp_wd h.1 (by decide) (by decide), h.2.1 ▸ Kp_rf, FRk_kp (a := 21) (b := 22) hF h.1 (h.2.1 ▸ Kp_rf) (by decide), h.2.2, h.1, h.2.1⟩)
theorem n8_X4_findFailing (l0 : Launch) {Ia Ja : aI1} {Ra : aR1} {Sa : aS1} (hL : LY Ra Sa) (hI : XI Ia) (hF : FRk Ia Ja) (hTR : ∀ t : Nat, (t : Int) ≤ FU (Ia 1 5) → TR 2 Ia Ja t) : CT l0 3 0 0 mX4_findFailing [kR (some 18)] Ia Ja Ra Sa (cI (fun x I' J' => Kp 18 31 Ia I' ∧ Kp 18 31 Ja J' ∧ FRk I' J' ∧ FLg (fun s x => NX (bC 2 (Ia 19) (Ia 24) (Ja 28)) (Ia 3) (Ia 1 7) s (FU (Ia 1 5) + 1) x) (Ia 24) (Ia 3) (Ia 1 6) (I' 20) x) Ra Sa) :=
  CT_wI (c8_X4_findFailing l0 hL hI hTR) (fun x I' J' h => ⟨Kp_wd h.1 (by decide) (by decide), h.2.1 ▸ Kp_rf, FRk_kp (a := 20) (b := 22) hF h.1 (h.2.1 ▸ Kp_rf) (by decide), h.2.2⟩)
theorem n8_X4_findSafe (l0 : Launch) {Ia Ja : aI1} {Ra : aR1} {Sa : aS1} (hL : LY Ra Sa) (hI : XI Ia) (hF : FRk Ia Ja)  : CT l0 3 0 0 mX4_findSafe [kR (some 18)] Ia Ja Ra Sa (cI (fun x I' J' => Kp 18 31 Ia I' ∧ Kp 18 31 Ja J' ∧ FRk I' J' ∧ SFE (Ia 3) (Ia 1 7) (FU (Ia 1 5) + 1) x) Ra Sa) :=
  CT_wI (c8_X4_findSafe l0 hL hI) (fun x I' J' h => ⟨Kp_wd h.1 (by decide) (by decide), Kp_wd h.2.1 (by decide) (by decide), FRk_kp hF h.1 h.2.1 (by decide), h.2.2⟩)
set_option maxHeartbeats 4000000 in
set_option maxRecDepth 20000 in
theorem c8_X4_forgetTables (l0 : Launch) {Ia Ja : aI1} {Ra : aR1} {Sa : aS1} (hL : LY Ra Sa)  : CT l0 0 0 0 mX4_forgetTables [kR (some 18)] Ia Ja Ra Sa (cV (fun I' J' => Kp 18 31 Ia I' ∧ Kp 18 31 Ja J' ∧ FRk I' J') Ra Sa) := by
  refine ct_in pn_X4 (Nat.le_of_ble_eq_true rfl) (fun X hX hT hIn => ?_)
  have hX : aK l0 X cX4_forgetTables 1 RX4 none 0 0 0 := hX
  change WW X 0 [some (kR (some 18))] [] Ia Ja Ra Sa 0 0
  refine ww_aload_n hX (pc := 0) dX4_forgetTables_0 rfl ?_
  refine ww_iconst hX (pc := 1) (x := 0) dX4_forgetTables_1 rfl ?_
  refine ww_putZ hX (pc := 2) (fun h9 => absurd h9 (by decide)) gX4_51 rfl (by decide) (xs_18 hL) dX4_forgetTables_2 ?_
  refine ww_nmH (fun I_2 eI_2 => ?_)
  have kI_2 : Kp 18 31 Ia I_2 := by rw [eI_2]; exact Kp_up (Kp_rf (a := 18) (b := 31)) _ _ (by decide)
  refine ww_aload_n hX (pc := 5) dX4_forgetTables_5 rfl ?_
  refine ww_iconst hX (pc := 6) (x := 0) dX4_forgetTables_6 rfl ?_
  refine ww_putZ hX (pc := 7) (fun h9 => absurd h9 (by decide)) gX4_55 rfl (by decide) (xs_18 hL) dX4_forgetTables_7 ?_
  refine ww_nmH (fun I_7 eI_7 => ?_)
  have kI_7 : Kp 18 31 Ia I_7 := by rw [eI_7]; exact Kp_up kI_2 _ _ (by decide)
  refine ww_aload_n hX (pc := 10) dX4_forgetTables_10 rfl ?_
  refine ww_iconst hX (pc := 11) (x := 0) dX4_forgetTables_11 rfl ?_
  refine ww_putZ hX (pc := 12) (fun h9 => absurd h9 (by decide)) gX4_58 rfl (by decide) (xs_18 hL) dX4_forgetTables_12 ?_
  refine ww_nmH (fun I_12 eI_12 => ?_)
  have kI_12 : Kp 18 31 Ia I_12 := by rw [eI_12]; exact Kp_up kI_7 _ _ (by decide)
  refine rV hX (pc := 15) hT (Nat.le_refl 0) (Nat.le_refl 0) dX4_forgetTables_15 ?_
  exact ⟨kI_12, (Kp_rf (a := 18) (b := 31)), FRk_0 (by rw [eI_12, up2_n _ _ (Or.inr (by decide)), eI_7, up2_n _ _ (Or.inr (by decide)), eI_2, up2_s]) (by rw [eI_12, up2_n _ _ (Or.inr (by decide)), eI_7, up2_s]) (by rw [eI_12, up2_s])⟩
set_option maxHeartbeats 4000000 in
set_option maxRecDepth 20000 in
theorem c8_X10_accept (l0 : Launch) {Ia Ja : aI1} {Ra : aR1} {Sa : aS1} (hL : LY Ra Sa) (hC : CX Ia) (hF : FRk Ia Ja) {a : Int}   : CT l0 0 0 0 mX10_accept [kR (some 0), kI a] Ia Ja Ra Sa (cI (fun x I' J' => (Kp 0 49 Ia I' ∧ Kp 0 49 Ja J' ∧ CX I' ∧ Fw [] [(0, 16)] Ia I' ∧ x = a ∧ I' 0 16 = 0) ∧ FRk I' J') Ra Sa) := by
  refine ct_in pn_X10 (Nat.le_of_ble_eq_true rfl) (fun X hX hT hIn => ?_)
  have hX : aK l0 X cX10_accept 2 RX10 (some .int) 0 0 0 := hX
  change WW X 0 [some (kR (some 0)), some (kI a)] [] Ia Ja Ra Sa 0 0
  have hI := hC.1
  have hq := XI_o hI
  refine ww_aload_n hX (pc := 0) dX10_accept_0 rfl ?_
  refine ww_iconst hX (pc := 1) (x := 0) dX10_accept_1 rfl ?_
  refine ww_putI hX (pc := 2) (fun h9 => absurd h9 (by decide)) gX10_304 rfl (xs_0 hL) dX10_accept_2 ?_
  refine ww_nmH (fun I_2 eI_2 => ?_)
  have kI_2 : Kp 0 49 Ia I_2 := by rw [eI_2]; exact Kp_up (Kp_rf (a := 0) (b := 49)) _ _ (by decide)
  have cI_2 : CX I_2 := by rw [eI_2]; exact CX_x hC (XI_0 hC.1 (by decide)) (by decide)
  have qI_2 := XI_o cI_2.1
  have r5_I_2 : I_2 1 5 = Ia 1 5 := by rw [eI_2, up2_off _ _ _ (by decide)]
  have r6_I_2 : I_2 1 6 = Ia 1 6 := by rw [eI_2, up2_off _ _ _ (by decide)]
  have r8_I_2 : I_2 1 8 = Ia 1 8 := by rw [eI_2, up2_off _ _ _ (by decide)]
  have r9_I_2 : I_2 1 9 = Ia 1 9 := by rw [eI_2, up2_off _ _ _ (by decide)]
  have r10_I_2 : I_2 1 10 = Ia 1 10 := by rw [eI_2, up2_off _ _ _ (by decide)]
  have r11_I_2 : I_2 1 11 = Ia 1 11 := by rw [eI_2, up2_off _ _ _ (by decide)]
  have rf_I_2 : FU (I_2 1 5) = FU (Ia 1 5) := by rw [r5_I_2]
  have wI_2 : Fw [] [(0, 16)] Ia I_2 := by rw [eI_2]; exact Fw_up Fw_rf (Or.inr (by decide))
  have r7_I_2 : I_2 1 7 = Ia 1 7 := by rw [eI_2, up2_n _ _ (Or.inl (by decide))]
  have z16 : I_2 0 16 = 0 := by rw [eI_2, up2_s]
  have frI_2 : FRk I_2 Ja := by rw [eI_2]; exact FRk_up hF (by decide)
  refine ww_iload_n hX (pc := 5) dX10_accept_5 rfl ?_
  refine rI hX (pc := 6) hT (Nat.le_refl 0) (Nat.le_refl 0) dX10_accept_6 ?_
  exact ⟨⟨kI_2, (Kp_rf (a := 0) (b := 49)), cI_2, (Fw_wd wI_2 (by decide) (by decide)), rfl, z16⟩, frI_2⟩
set_option maxHeartbeats 4000000 in
set_option maxRecDepth 20000 in
theorem c8_X10_refuse (l0 : Launch) {Ia Ja : aI1} {Ra : aR1} {Sa : aS1} (hL : LY Ra Sa) (hC : CX Ia) (hF : FRk Ia Ja) {a : Int} (ha0 : -6 ≤ a) (ha1 : a ≤ -1)  : CT l0 0 0 0 mX10_refuse [kR (some 0), kI a] Ia Ja Ra Sa (cI (fun x I' J' => (Kp 0 49 Ia I' ∧ Kp 0 49 Ja J' ∧ CX I' ∧ Fw [48] [(0, 16)] Ia I' ∧ x = a ∧ I' 0 16 = a ∧ I' 48 = up1 (Ia 48) (-a).toNat (Ia 48 (-a).toNat + 1)) ∧ FRk I' J') Ra Sa) := by
  refine ct_in pn_X10 (Nat.le_of_ble_eq_true rfl) (fun X hX hT hIn => ?_)
  have hX : aK l0 X cX10_refuse 2 RX10 (some .int) 0 0 0 := hX
  change WW X 0 [some (kR (some 0)), some (kI a)] [] Ia Ja Ra Sa 0 0
  have hI := hC.1
  have hq := XI_o hI
  refine ww_aload_n hX (pc := 0) dX10_refuse_0 rfl ?_
  refine ww_iload_n hX (pc := 1) dX10_refuse_1 rfl ?_
  refine ww_putI hX (pc := 2) (fun h9 => absurd h9 (by decide)) gX10_304 rfl (xs_0 hL) dX10_refuse_2 ?_
  refine ww_nmH (fun I_2 eI_2 => ?_)
  have kI_2 : Kp 0 49 Ia I_2 := by rw [eI_2]; exact Kp_up (Kp_rf (a := 0) (b := 49)) _ _ (by decide)
  have cI_2 : CX I_2 := by rw [eI_2]; exact CX_x hC (XI_0 hC.1 (by decide)) (by decide)
  have qI_2 := XI_o cI_2.1
  have r5_I_2 : I_2 1 5 = Ia 1 5 := by rw [eI_2, up2_off _ _ _ (by decide)]
  have r6_I_2 : I_2 1 6 = Ia 1 6 := by rw [eI_2, up2_off _ _ _ (by decide)]
  have r8_I_2 : I_2 1 8 = Ia 1 8 := by rw [eI_2, up2_off _ _ _ (by decide)]
  have r9_I_2 : I_2 1 9 = Ia 1 9 := by rw [eI_2, up2_off _ _ _ (by decide)]
  have r10_I_2 : I_2 1 10 = Ia 1 10 := by rw [eI_2, up2_off _ _ _ (by decide)]
  have r11_I_2 : I_2 1 11 = Ia 1 11 := by rw [eI_2, up2_off _ _ _ (by decide)]
  have rf_I_2 : FU (I_2 1 5) = FU (Ia 1 5) := by rw [r5_I_2]
  have wI_2 : Fw [48] [(0, 16)] Ia I_2 := by rw [eI_2]; exact Fw_up Fw_rf (Or.inr (by decide))
  have r7_I_2 : I_2 1 7 = Ia 1 7 := by rw [eI_2, up2_n _ _ (Or.inl (by decide))]
  have z2 : I_2 0 16 = a := by rw [eI_2, up2_s]
  have y2 : I_2 48 = Ia 48 := by rw [eI_2, up2_off _ _ _ (by decide)]
  have frI_2 : FRk I_2 Ja := by rw [eI_2]; exact FRk_up hF (by decide)
  refine ww_iload_n hX (pc := 5) dX10_refuse_5 rfl ?_
  refine ww_if_ge hX (pc := 6) (tgt := 30) dX10_refuse_6 (by decide) (fun h_6 => ?_) (fun h_6 => ?_)
  · simp only [w32_mod] at h_6
    exfalso
    omega
  · simp only [w32_mod] at h_6
    refine ww_iload_n hX (pc := 9) dX10_refuse_9 rfl ?_
    refine ww_ineg hX (pc := 10) dX10_refuse_10 ?_
    refine ww_aload_n hX (pc := 11) dX10_refuse_11 rfl ?_
    refine ww_getR hX (pc := 12) fX10_82 (by decide) (xs_0 hL) (xr_0_11 hL) dX10_refuse_12 ?_
    refine ww_alen hX (pc := 15) (by decide) (xs_48 hL) dX10_refuse_15 ?_
    refine ww_icmp_ge hX (pc := 16) (tgt := 30) dX10_refuse_16 (by decide) (fun h_16 => ?_) (fun h_16 => ?_)
    · simp only [w32_mod] at h_16
      exfalso
      omega
    · simp only [w32_mod] at h_16
      refine ww_aload_n hX (pc := 19) dX10_refuse_19 rfl ?_
      refine ww_getR hX (pc := 20) fX10_82 (by decide) (xs_0 hL) (xr_0_11 hL) dX10_refuse_20 ?_
      refine ww_iload_n hX (pc := 23) dX10_refuse_23 rfl ?_
      refine ww_ineg hX (pc := 24) dX10_refuse_24 ?_
      refine ww_dup2 hX (pc := 25) dX10_refuse_25 ?_
      refine ww_iald hX (pc := 26) (xs_48 hL) (by decide) (by omega) (by omega) dX10_refuse_26 ?_
      refine ww_iconst hX (pc := 27) (x := 1) dX10_refuse_27 rfl ?_
      refine ww_iadd hX (pc := 28) dX10_refuse_28 ?_
      refine ww_iast hX (pc := 29) (xs_48 hL) (by decide) (by omega) (by omega) dX10_refuse_29 ?_
      refine ww_nmH (fun I_29 eI_29 => ?_)
      have kI_29 : Kp 0 49 Ia I_29 := by rw [eI_29]; exact Kp_up kI_2 _ _ (by decide)
      have cI_29 : CX I_29 := by rw [eI_29]; exact CX_up cI_2 (by decide)
      have qI_29 := XI_o cI_29.1
      have r5_I_29 : I_29 1 5 = I_2 1 5 := by rw [eI_29, up2_off _ _ _ (by decide)]
      have r6_I_29 : I_29 1 6 = I_2 1 6 := by rw [eI_29, up2_off _ _ _ (by decide)]
      have r8_I_29 : I_29 1 8 = I_2 1 8 := by rw [eI_29, up2_off _ _ _ (by decide)]
      have r9_I_29 : I_29 1 9 = I_2 1 9 := by rw [eI_29, up2_off _ _ _ (by decide)]
      have r10_I_29 : I_29 1 10 = I_2 1 10 := by rw [eI_29, up2_off _ _ _ (by decide)]
      have r11_I_29 : I_29 1 11 = I_2 1 11 := by rw [eI_29, up2_off _ _ _ (by decide)]
      have rf_I_29 : FU (I_29 1 5) = FU (I_2 1 5) := by rw [r5_I_29]
      have wI_29 : Fw [48] [(0, 16)] Ia I_29 := by rw [eI_29]; exact Fw_up wI_2 (Or.inl (by decide))
      have r7_I_29 : I_29 1 7 = I_2 1 7 := by rw [eI_29, up2_n _ _ (Or.inl (by decide))]
      have z29 : I_29 0 16 = a := by rw [eI_29, up2_off _ _ _ (by decide)]; exact z2
      have y29 : I_29 48 = up1 (Ia 48) (-a).toNat (Ia 48 (-a).toNat + 1) := by rw [eI_29, up2_row, y2]
      have frI_29 : FRk I_29 Ja := by rw [eI_29]; exact FRk_up frI_2 (by decide)
      refine ww_iload_n hX (pc := 30) dX10_refuse_30 rfl ?_
      refine rI hX (pc := 31) hT (Nat.le_refl 0) (Nat.le_refl 0) dX10_refuse_31 ?_
      exact ⟨⟨kI_29, (Kp_rf (a := 0) (b := 49)), cI_29, (Fw_wd wI_29 (by decide) (by decide)), rfl, z29, y29⟩, frI_29⟩
set_option maxHeartbeats 4000000 in
set_option maxRecDepth 20000 in
theorem c8_X10_codeChanged (l0 : Launch) {Ia Ja : aI1} {Ra : aR1} {Sa : aS1} (hL : LY Ra Sa) (hC : CX Ia)  : CT l0 1 0 0 mX10_codeChanged [kR (some 0)] Ia Ja Ra Sa (cV (fun I' J' => (Kp 0 49 Ia I' ∧ Kp 0 49 Ja J' ∧ CX I' ∧ Fw [18, 19, 20, 21, 22, 23, 24, 25, 26, 27, 28, 29, 30, 33] [] Ia I' ∧ True) ∧ FRk I' J') Ra Sa) := by
  refine ct_in pn_X10 (Nat.le_of_ble_eq_true rfl) (fun X hX hT hIn => ?_)
  have hX : aK l0 X cX10_codeChanged 1 RX10 none 1 0 0 := hX
  change WW X 0 [some (kR (some 0))] [] Ia Ja Ra Sa 0 0
  have hI := hC.1
  have hq := XI_o hI
  refine ww_aload_n hX (pc := 0) dX10_codeChanged_0 rfl ?_
  refine ww_getR hX (pc := 1) fX10_48 (by decide) (xs_0 hL) (xr_0_5 hL) dX10_codeChanged_1 ?_
  refine vV0 hX (pc := 4) sX10_307 (xs_18 hL) (c8_X4_forgetTables l0 hL) (by decide) (Nat.le_refl 0) (Nat.le_refl 0) (Nat.le_of_ble_eq_true rfl) dX10_codeChanged_4 (fun I_4 J_4 h_4 => ?_)
  have kI_4 : Kp 0 49 Ia I_4 := Kp_tr (Kp_rf (a := 0) (b := 49)) (Kp_wd h_4.1 (by decide) (by decide))
  have kJ_4 : Kp 0 49 Ja J_4 := Kp_tr (Kp_rf (a := 0) (b := 49)) (Kp_wd h_4.2.1 (by decide) (by decide))
  have cI_4 : CX I_4 := CX_kp hC h_4.1 (by decide) (by decide)
  have qI_4 := XI_o cI_4.1
  have r5_I_4 : I_4 1 5 = Ia 1 5 := by rw [h_4.1 1 (by decide)]
  have r6_I_4 : I_4 1 6 = Ia 1 6 := by rw [h_4.1 1 (by decide)]
  have r8_I_4 : I_4 1 8 = Ia 1 8 := by rw [h_4.1 1 (by decide)]
  have r9_I_4 : I_4 1 9 = Ia 1 9 := by rw [h_4.1 1 (by decide)]
  have r10_I_4 : I_4 1 10 = Ia 1 10 := by rw [h_4.1 1 (by decide)]
  have r11_I_4 : I_4 1 11 = Ia 1 11 := by rw [h_4.1 1 (by decide)]
  have rf_I_4 : FU (I_4 1 5) = FU (Ia 1 5) := by rw [r5_I_4]
  have wI_4 : Fw [18, 19, 20, 21, 22, 23, 24, 25, 26, 27, 28, 29, 30, 33] [] Ia I_4 := Fw_kp Fw_rf h_4.1 (by decide)
  have r7_I_4 : I_4 1 7 = Ia 1 7 := by rw [h_4.1 1 (by decide)]
  have frI_4 : FRk I_4 J_4 := h_4.2.2
  refine ww_aload_n hX (pc := 7) dX10_codeChanged_7 rfl ?_
  refine ww_getR hX (pc := 8) fX10_64 (by decide) (xs_0 hL) (xr_0_7 hL) dX10_codeChanged_8 ?_
  refine ww_iconst hX (pc := 11) (x := 0) dX10_codeChanged_11 rfl ?_
  refine ww_putZ hX (pc := 12) (fun h9 => absurd h9 (by decide)) gX10_128 rfl (by decide) (xs_33 hL) dX10_codeChanged_12 ?_
  refine ww_nmH (fun I_12 eI_12 => ?_)
  have kI_12 : Kp 0 49 Ia I_12 := by rw [eI_12]; exact Kp_up kI_4 _ _ (by decide)
  have cI_12 : CX I_12 := by rw [eI_12]; exact CX_up cI_4 (by decide)
  have qI_12 := XI_o cI_12.1
  have r5_I_12 : I_12 1 5 = I_4 1 5 := by rw [eI_12, up2_off _ _ _ (by decide)]
  have r6_I_12 : I_12 1 6 = I_4 1 6 := by rw [eI_12, up2_off _ _ _ (by decide)]
  have r8_I_12 : I_12 1 8 = I_4 1 8 := by rw [eI_12, up2_off _ _ _ (by decide)]
  have r9_I_12 : I_12 1 9 = I_4 1 9 := by rw [eI_12, up2_off _ _ _ (by decide)]
  have r10_I_12 : I_12 1 10 = I_4 1 10 := by rw [eI_12, up2_off _ _ _ (by decide)]
  have r11_I_12 : I_12 1 11 = I_4 1 11 := by rw [eI_12, up2_off _ _ _ (by decide)]
  have rf_I_12 : FU (I_12 1 5) = FU (I_4 1 5) := by rw [r5_I_12]
  have wI_12 : Fw [18, 19, 20, 21, 22, 23, 24, 25, 26, 27, 28, 29, 30, 33] [] Ia I_12 := by rw [eI_12]; exact Fw_up wI_4 (Or.inl (by decide))
  have r7_I_12 : I_12 1 7 = I_4 1 7 := by rw [eI_12, up2_n _ _ (Or.inl (by decide))]
  have frI_12 : FRk I_12 J_4 := by rw [eI_12]; exact FRk_up frI_4 (by decide)
  refine rV hX (pc := 15) hT (Nat.le_refl 0) (Nat.le_refl 0) dX10_codeChanged_15 ?_
  exact ⟨⟨kI_12, kJ_4, cI_12, (Fw_wd wI_12 (by decide) (by decide)), trivial⟩, frI_12⟩
set_option maxHeartbeats 4000000 in
set_option maxRecDepth 20000 in
theorem c8_X10_torn (l0 : Launch) {Ia Ja : aI1} {Ra : aR1} {Sa : aS1} (hL : LY Ra Sa) (hC : CX Ia) (hF : FRk Ia Ja)  : CT l0 10 0 0 mX10_torn [kR (some 0)] Ia Ja Ra Sa (cI (fun x I' J' => (Kp 0 49 Ia I' ∧ Kp 0 49 Ja J' ∧ CX I' ∧ Fw [] [] Ia I' ∧ x = Ia 0 15) ∧ FRk I' J') Ra Sa) := by
  refine ct_in pn_X10 (Nat.le_of_ble_eq_true rfl) (fun X hX hT hIn => ?_)
  have hX : aK l0 X cX10_torn 1 RX10 (some .int) 10 0 0 := hX
  change WW X 0 [some (kR (some 0))] [] Ia Ja Ra Sa 0 0
  have hI := hC.1
  have hq := XI_o hI
  refine ww_aload_n hX (pc := 0) dX10_torn_0 rfl ?_
  refine ww_getI hX (pc := 1) fX10_164 (by decide) (xs_0 hL) dX10_torn_1 ?_
  refine rI hX (pc := 4) hT (Nat.le_refl 0) (Nat.le_refl 0) dX10_torn_4 ?_
  exact ⟨⟨(Kp_rf (a := 0) (b := 49)), (Kp_rf (a := 0) (b := 49)), hC, Fw_rf, rfl⟩, hF⟩
set_option maxHeartbeats 4000000 in
set_option maxRecDepth 20000 in
theorem c8_X10_dawn (l0 : Launch) {Ia Ja : aI1} {Ra : aR1} {Sa : aS1} (hL : LY Ra Sa) (hC : CX Ia) (hF : FRk Ia Ja)  : CT l0 10 0 0 mX10_dawn [kR (some 0)] Ia Ja Ra Sa (cI (fun x I' J' => (Kp 0 49 Ia I' ∧ Kp 0 49 Ja J' ∧ CX I' ∧ Fw [] [(1, 8), (1, 10)] Ia I' ∧ x = bc (Ia 1 8) ∧ I' 1 8 = 0 ∧ I' 1 10 = 0) ∧ FRk I' J') Ra Sa) := by
  refine ct_in pn_X10 (Nat.le_of_ble_eq_true rfl) (fun X hX hT hIn => ?_)
  have hX : aK l0 X cX10_dawn 2 RX10 (some .int) 10 0 0 := hX
  change WW X 0 [some (kR (some 0)), none] [] Ia Ja Ra Sa 0 0
  have hI := hC.1
  have hq := XI_o hI
  refine ww_aload_n hX (pc := 0) dX10_dawn_0 rfl ?_
  refine ww_getR hX (pc := 1) fX10_10 (by decide) (xs_0 hL) (xr_0_0 hL) dX10_dawn_1 ?_
  refine ww_getI hX (pc := 4) fX10_236 (by decide) (xs_1 hL) dX10_dawn_4 ?_
  refine sI1 hX (pc := 7) sX10_242 (c_J6_bitCount_0f7a4 l0) (by decide) (Nat.le_refl 0) (Nat.le_refl 0) (Nat.le_of_ble_eq_true rfl) dX10_dawn_7 (fun x_7 I_7 J_7 h_7 => ?_)
  obtain ⟨rfl, rfl, h_7⟩ := h_7
  refine ww_istore_n hX (pc := 10) (lv' := [some (kR (some 0)), some (kI x_7)]) dX10_dawn_10 (by decide) rfl rfl ?_
  refine ww_aload_n hX (pc := 11) dX10_dawn_11 rfl ?_
  refine ww_getR hX (pc := 12) fX10_10 (by decide) (xs_0 hL) (xr_0_0 hL) dX10_dawn_12 ?_
  refine ww_iconst hX (pc := 15) (x := 0) dX10_dawn_15 rfl ?_
  refine ww_putI hX (pc := 16) (fun h9 => absurd h9 (by decide)) gX10_236 rfl (xs_1 hL) dX10_dawn_16 ?_
  refine ww_nmH (fun I_16 eI_16 => ?_)
  have kI_16 : Kp 0 49 Ia I_16 := by rw [eI_16]; exact Kp_up (Kp_rf (a := 0) (b := 49)) _ _ (by decide)
  have cI_16 : CX I_16 := by rw [eI_16]; exact CX_x hC (XI_1_8 hC.1 (by omega) (by omega)) (by decide)
  have qI_16 := XI_o cI_16.1
  have r5_I_16 : I_16 1 5 = Ia 1 5 := by rw [eI_16, up2_n _ _ (Or.inr (by decide))]
  have r6_I_16 : I_16 1 6 = Ia 1 6 := by rw [eI_16, up2_n _ _ (Or.inr (by decide))]
  skip
  have r9_I_16 : I_16 1 9 = Ia 1 9 := by rw [eI_16, up2_n _ _ (Or.inr (by decide))]
  have r10_I_16 : I_16 1 10 = Ia 1 10 := by rw [eI_16, up2_n _ _ (Or.inr (by decide))]
  have r11_I_16 : I_16 1 11 = Ia 1 11 := by rw [eI_16, up2_n _ _ (Or.inr (by decide))]
  have rf_I_16 : FU (I_16 1 5) = FU (Ia 1 5) := by rw [r5_I_16]
  have wI_16 : Fw [] [(1, 8), (1, 10)] Ia I_16 := by rw [eI_16]; exact Fw_up Fw_rf (Or.inr (by decide))
  have r7_I_16 : I_16 1 7 = Ia 1 7 := by rw [eI_16, up2_n _ _ (Or.inr (by decide))]
  have z8_ : I_16 1 8 = 0 := by rw [eI_16, up2_s]
  have frI_16 : FRk I_16 Ja := by rw [eI_16]; exact FRk_u1 hF (by decide)
  refine ww_aload_n hX (pc := 19) dX10_dawn_19 rfl ?_
  refine ww_getR hX (pc := 20) fX10_10 (by decide) (xs_0 hL) (xr_0_0 hL) dX10_dawn_20 ?_
  refine ww_iconst hX (pc := 23) (x := 0) dX10_dawn_23 rfl ?_
  refine ww_putI hX (pc := 24) (fun h9 => absurd h9 (by decide)) gX10_239 rfl (xs_1 hL) dX10_dawn_24 ?_
  refine ww_nmH (fun I_24 eI_24 => ?_)
  have kI_24 : Kp 0 49 Ia I_24 := by rw [eI_24]; exact Kp_up kI_16 _ _ (by decide)
  have cI_24 : CX I_24 := by rw [eI_24]; exact CX_x cI_16 (XI_1_10 cI_16.1 (by omega) (by omega)) (by decide)
  have qI_24 := XI_o cI_24.1
  have r5_I_24 : I_24 1 5 = I_16 1 5 := by rw [eI_24, up2_n _ _ (Or.inr (by decide))]
  have r6_I_24 : I_24 1 6 = I_16 1 6 := by rw [eI_24, up2_n _ _ (Or.inr (by decide))]
  have r8_I_24 : I_24 1 8 = I_16 1 8 := by rw [eI_24, up2_n _ _ (Or.inr (by decide))]
  have r9_I_24 : I_24 1 9 = I_16 1 9 := by rw [eI_24, up2_n _ _ (Or.inr (by decide))]
  skip
  have r11_I_24 : I_24 1 11 = I_16 1 11 := by rw [eI_24, up2_n _ _ (Or.inr (by decide))]
  have rf_I_24 : FU (I_24 1 5) = FU (I_16 1 5) := by rw [r5_I_24]
  have wI_24 : Fw [] [(1, 8), (1, 10)] Ia I_24 := by rw [eI_24]; exact Fw_up wI_16 (Or.inr (by decide))
  have r7_I_24 : I_24 1 7 = I_16 1 7 := by rw [eI_24, up2_n _ _ (Or.inr (by decide))]
  have z10 : I_24 1 10 = 0 := by rw [eI_24, up2_s]
  have z8 : I_24 1 8 = 0 := by rw [eI_24, up2_n _ _ (Or.inr (by decide))]; exact z8_
  have frI_24 : FRk I_24 Ja := by rw [eI_24]; exact FRk_u1 frI_16 (by decide)
  refine ww_iload_n hX (pc := 27) dX10_dawn_27 rfl ?_
  refine rI hX (pc := 28) hT (Nat.le_refl 0) (Nat.le_refl 0) dX10_dawn_28 ?_
  exact ⟨⟨kI_24, (Kp_rf (a := 0) (b := 49)), cI_24, (Fw_wd wI_24 (by decide) (by decide)), h_7, z8, z10⟩, frI_24⟩
set_option maxHeartbeats 4000000 in
set_option maxRecDepth 20000 in
theorem c8_X10_spy (l0 : Launch) {Ia Ja : aI1} {Ra : aR1} {Sa : aS1} (hL : LY Ra Sa) (hC : CX Ia) (hF : FRk Ia Ja) {a : Int} (ha0 : -2147483648 ≤ a) (ha1 : a < 2147483648)  : CT l0 10 0 0 mX10_spy [kR (some 0), kI a] Ia Ja Ra Sa (cI (fun x I' J' => (Kp 0 49 Ia I' ∧ Kp 0 49 Ja J' ∧ CX I' ∧ Fw [] [] Ia I' ∧ True) ∧ FRk I' J') Ra Sa) := by
  refine ct_in pn_X10 (Nat.le_of_ble_eq_true rfl) (fun X hX hT hIn => ?_)
  have hX : aK l0 X cX10_spy 5 RX10 (some .int) 10 0 0 := hX
  change WW X 0 [some (kR (some 0)), some (kI a), none, none, none] [] Ia Ja Ra Sa 0 0
  have hI := hC.1
  have hq := XI_o hI
  refine ww_iload_n hX (pc := 0) dX10_spy_0 rfl ?_
  refine ww_if_lt hX (pc := 1) (tgt := 15) dX10_spy_1 (by decide) (fun h_1 => ?_) (fun h_1 => ?_)
  · simp only [w32_mod] at h_1
    refine ww_iconst hX (pc := 15) (x := (-1)) dX10_spy_15 rfl ?_
    refine rI hX (pc := 16) hT (Nat.le_refl 0) (Nat.le_refl 0) dX10_spy_16 ?_
    exact ⟨⟨(Kp_rf (a := 0) (b := 49)), (Kp_rf (a := 0) (b := 49)), hC, Fw_rf, trivial⟩, hF⟩
  · simp only [w32_mod] at h_1
    refine ww_iload_n hX (pc := 4) dX10_spy_4 rfl ?_
    refine ww_aload_n hX (pc := 5) dX10_spy_5 rfl ?_
    refine ww_getR hX (pc := 6) fX10_10 (by decide) (xs_0 hL) (xr_0_0 hL) dX10_spy_6 ?_
    refine ww_getI hX (pc := 9) fX10_93 (by decide) (xs_1 hL) dX10_spy_9 ?_
    refine ww_icmp_le hX (pc := 12) (tgt := 17) dX10_spy_12 (by decide) (fun h_12 => ?_) (fun h_12 => ?_)
    · simp only [w32_mod] at h_12
      refine ww_iconst hX (pc := 17) (x := 0) dX10_spy_17 rfl ?_
      refine ww_istore_n hX (pc := 18) (lv' := [some (kR (some 0)), some (kI a), some (kI 0), none, none]) dX10_spy_18 (by decide) rfl rfl ?_
      refine ww_aload_n hX (pc := 19) dX10_spy_19 rfl ?_
      refine ww_getR hX (pc := 20) fX10_10 (by decide) (xs_0 hL) (xr_0_0 hL) dX10_spy_20 ?_
      refine vI0 hX (pc := 23) sX10_151 (xs_1 hL) (c_X1_full l0 hL hC.1) (by decide) (Nat.le_refl 0) (Nat.le_refl 0) (Nat.le_of_ble_eq_true rfl) dX10_spy_23 (fun x_23 I_23 J_23 h_23 => ?_)
      obtain ⟨rfl, rfl, h_23⟩ := h_23
      refine ww_istore_n hX (pc := 26) (lv' := [some (kR (some 0)), some (kI a), some (kI 0), some (kI x_23), none]) dX10_spy_26 (by decide) rfl rfl ?_
      refine ww_iconst hX (pc := 27) (x := 0) dX10_spy_27 rfl ?_
      refine ww_istore hX (pc := 28) (lv' := [some (kR (some 0)), some (kI a), some (kI 0), some (kI x_23), some (kI 0)]) dX10_spy_28 (by decide) rfl rfl ?_
      have hl_30 : ∀ (n_30 : Nat) (g : Int) (i : Int), (256 - i).toNat = n_30 → (0 ≤ i ∧ i ≤ 256) → WW X 30 [some (kR (some 0)), some (kI a), some (kI g), some (kI x_23), some (kI i)] [] Ia Ja Ra Sa 0 0 := by
        intro n_30
        induction n_30 using Nat.strongRecOn with
        | ind n_30 ih_30 =>
          intro g i hm_30 hv_30
          have hq_30 := Sh0_i hm_30
          clear hm_30
          obtain ⟨hi0, hi1⟩ := hv_30
          refine ww_iload hX (pc := 30) dX10_spy_30 rfl ?_
          refine ww_iload_n hX (pc := 32) dX10_spy_32 rfl ?_
          refine ww_icmp_gt hX (pc := 33) (tgt := 63) dX10_spy_33 (by decide) (fun h_33 => ?_) (fun h_33 => ?_)
          · simp only [w32_mod] at h_33
            refine ww_iload_n hX (pc := 63) dX10_spy_63 rfl ?_
            refine rI hX (pc := 64) hT (Nat.le_refl 0) (Nat.le_refl 0) dX10_spy_64 ?_
            exact ⟨⟨(Kp_rf (a := 0) (b := 49)), (Kp_rf (a := 0) (b := 49)), hC, Fw_rf, trivial⟩, hF⟩
          · simp only [w32_mod] at h_33
            refine ww_iload hX (pc := 36) dX10_spy_36 rfl ?_
            refine sI1 hX (pc := 38) sX10_242 (c_J6_bitCount_0f7a4 l0) (by decide) (Nat.le_refl 0) (Nat.le_refl 0) (Nat.le_of_ble_eq_true rfl) dX10_spy_38 (fun x_38 I_38 J_38 h_38 => ?_)
            obtain ⟨rfl, rfl, h_38⟩ := h_38
            refine ww_iload_n hX (pc := 41) dX10_spy_41 rfl ?_
            refine ww_icmp_ne hX (pc := 42) (tgt := 57) dX10_spy_42 (by decide) (fun h_42 => ?_) (fun h_42 => ?_)
            · simp only [w32_mod] at h_42
              refine ww_iinc hX (pc := 57) (lv' := [some (kR (some 0)), some (kI a), some (kI g), some (kI x_23), some (kI (i + 1))]) dX10_spy_57 rfl (by decide) rfl rfl ?_
              refine ww_goto hX (pc := 60) (tgt := 30) dX10_spy_60 (by decide) ?_
              exact ih_30 _ (by have hm9 := Sh0_e hq_30; omega) g (i + 1) rfl ⟨by omega, by omega⟩
            · simp only [w32_mod] at h_42
              refine ww_iload_n hX (pc := 45) dX10_spy_45 rfl ?_
              refine ww_aload_n hX (pc := 46) dX10_spy_46 rfl ?_
              refine ww_getR hX (pc := 47) fX10_10 (by decide) (xs_0 hL) (xr_0_0 hL) dX10_spy_47 ?_
              refine ww_iload hX (pc := 50) dX10_spy_50 rfl ?_
              refine vI1 hX (pc := 52) sX10_269 (xs_1 hL) (c_X1_newsBit l0 hL hC.1 (by omega) (by omega)) (by decide) (Nat.le_refl 0) (Nat.le_refl 0) (Nat.le_of_ble_eq_true rfl) dX10_spy_52 (fun x_52 I_52 J_52 h_52 => ?_)
              obtain ⟨rfl, rfl, h_52⟩ := h_52
              refine ww_ior hX (pc := 55) dX10_spy_55 ?_
              refine ww_nmI (fun v_56 hv_56 => ?_)
              refine ww_istore_n hX (pc := 56) (lv' := [some (kR (some 0)), some (kI a), some (kI v_56), some (kI x_23), some (kI i)]) dX10_spy_56 (by decide) rfl rfl ?_
              refine ww_iinc hX (pc := 57) (lv' := [some (kR (some 0)), some (kI a), some (kI v_56), some (kI x_23), some (kI (i + 1))]) dX10_spy_57 rfl (by decide) rfl rfl ?_
              refine ww_goto hX (pc := 60) (tgt := 30) dX10_spy_60 (by decide) ?_
              exact ih_30 _ (by have hm9 := Sh0_e hq_30; omega) v_56 (i + 1) rfl ⟨by omega, by omega⟩
      exact hl_30 _ 0 0 rfl ⟨by omega, by omega⟩
    · simp only [w32_mod] at h_12
      refine ww_iconst hX (pc := 15) (x := (-1)) dX10_spy_15 rfl ?_
      refine rI hX (pc := 16) hT (Nat.le_refl 0) (Nat.le_refl 0) dX10_spy_16 ?_
      exact ⟨⟨(Kp_rf (a := 0) (b := 49)), (Kp_rf (a := 0) (b := 49)), hC, Fw_rf, trivial⟩, hF⟩
set_option maxHeartbeats 4000000 in
set_option maxRecDepth 20000 in
theorem c8_X10_end (l0 : Launch) {Ia Ja : aI1} {Ra : aR1} {Sa : aS1} (hL : LY Ra Sa) (hC : CX Ia) (hF : FRk Ia Ja) {a : Int} (ha0 : -2147483648 ≤ a) (ha1 : a < 2147483648)  : CT l0 10 0 0 mX10_end [kR (some 0), kI a] Ia Ja Ra Sa (cI (fun x I' J' => (Kp 0 49 Ia I' ∧ Kp 0 49 Ja J' ∧ CX I' ∧ Fw [] [(8, 1)] Ia I' ∧ ((0 ≤ a ∧ a ≤ Ia 8 1) → x = a ∧ I' 8 1 = a) ∧ (¬ (0 ≤ a ∧ a ≤ Ia 8 1) → x = -1 ∧ I' 8 1 = Ia 8 1)) ∧ FRk I' J') Ra Sa) := by
  refine ct_in pn_X10 (Nat.le_of_ble_eq_true rfl) (fun X hX hT hIn => ?_)
  have hX : aK l0 X cX10_end 2 RX10 (some .int) 10 0 0 := hX
  change WW X 0 [some (kR (some 0)), some (kI a)] [] Ia Ja Ra Sa 0 0
  have hI := hC.1
  have hq := XI_o hI
  refine ww_iload_n hX (pc := 0) dX10_end_0 rfl ?_
  refine ww_if_lt hX (pc := 1) (tgt := 15) dX10_end_1 (by decide) (fun h_1 => ?_) (fun h_1 => ?_)
  · simp only [w32_mod] at h_1
    refine ww_iconst hX (pc := 15) (x := (-1)) dX10_end_15 rfl ?_
    refine rI hX (pc := 16) hT (Nat.le_refl 0) (Nat.le_refl 0) dX10_end_16 ?_
    exact ⟨⟨(Kp_rf (a := 0) (b := 49)), (Kp_rf (a := 0) (b := 49)), hC, Fw_rf, by omega, by omega⟩, hF⟩
  · simp only [w32_mod] at h_1
    refine ww_iload_n hX (pc := 4) dX10_end_4 rfl ?_
    refine ww_aload_n hX (pc := 5) dX10_end_5 rfl ?_
    refine ww_getR hX (pc := 6) fX10_23 (by decide) (xs_0 hL) (xr_0_2 hL) dX10_end_6 ?_
    refine ww_getI hX (pc := 9) fX10_148 (by decide) (xs_8 hL) dX10_end_9 ?_
    refine ww_icmp_le hX (pc := 12) (tgt := 17) dX10_end_12 (by decide) (fun h_12 => ?_) (fun h_12 => ?_)
    · simp only [w32_mod] at h_12
      refine ww_aload_n hX (pc := 17) dX10_end_17 rfl ?_
      refine ww_getR hX (pc := 18) fX10_23 (by decide) (xs_0 hL) (xr_0_2 hL) dX10_end_18 ?_
      refine ww_iload_n hX (pc := 21) dX10_end_21 rfl ?_
      refine ww_putI hX (pc := 22) (fun h9 => absurd h9 (by decide)) gX10_148 rfl (xs_8 hL) dX10_end_22 ?_
      refine ww_nmH (fun I_22 eI_22 => ?_)
      have kI_22 : Kp 0 49 Ia I_22 := by rw [eI_22]; exact Kp_up (Kp_rf (a := 0) (b := 49)) _ _ (by decide)
      have cI_22 : CX I_22 := by rw [eI_22]; exact CX_x hC (XI_8_1 hC.1 (by omega) (by omega)) (by decide)
      have qI_22 := XI_o cI_22.1
      have r5_I_22 : I_22 1 5 = Ia 1 5 := by rw [eI_22, up2_off _ _ _ (by decide)]
      have r6_I_22 : I_22 1 6 = Ia 1 6 := by rw [eI_22, up2_off _ _ _ (by decide)]
      have r8_I_22 : I_22 1 8 = Ia 1 8 := by rw [eI_22, up2_off _ _ _ (by decide)]
      have r9_I_22 : I_22 1 9 = Ia 1 9 := by rw [eI_22, up2_off _ _ _ (by decide)]
      have r10_I_22 : I_22 1 10 = Ia 1 10 := by rw [eI_22, up2_off _ _ _ (by decide)]
      have r11_I_22 : I_22 1 11 = Ia 1 11 := by rw [eI_22, up2_off _ _ _ (by decide)]
      have rf_I_22 : FU (I_22 1 5) = FU (Ia 1 5) := by rw [r5_I_22]
      have wI_22 : Fw [] [(8, 1)] Ia I_22 := by rw [eI_22]; exact Fw_up Fw_rf (Or.inr (by decide))
      have r7_I_22 : I_22 1 7 = Ia 1 7 := by rw [eI_22, up2_n _ _ (Or.inl (by decide))]
      have z81 : I_22 8 1 = a := by rw [eI_22, up2_s]
      have frI_22 : FRk I_22 Ja := by rw [eI_22]; exact FRk_up hF (by decide)
      refine ww_iload_n hX (pc := 25) dX10_end_25 rfl ?_
      refine rI hX (pc := 26) hT (Nat.le_refl 0) (Nat.le_refl 0) dX10_end_26 ?_
      exact ⟨⟨kI_22, (Kp_rf (a := 0) (b := 49)), cI_22, (Fw_wd wI_22 (by decide) (by decide)), by omega, by omega⟩, frI_22⟩
    · simp only [w32_mod] at h_12
      refine ww_iconst hX (pc := 15) (x := (-1)) dX10_end_15 rfl ?_
      refine rI hX (pc := 16) hT (Nat.le_refl 0) (Nat.le_refl 0) dX10_end_16 ?_
      exact ⟨⟨(Kp_rf (a := 0) (b := 49)), (Kp_rf (a := 0) (b := 49)), hC, Fw_rf, by omega, by omega⟩, hF⟩
set_option maxHeartbeats 4000000 in
set_option maxRecDepth 20000 in
theorem c8_X10_feed (l0 : Launch) {Ia Ja : aI1} {Ra : aR1} {Sa : aS1} (hL : LY Ra Sa) (hC : CX Ia) (hF : FRk Ia Ja) {a b c e f : Int} (ha0 : -2147483648 ≤ a) (ha1 : a < 2147483648) (hb0 : -2147483648 ≤ b) (hb1 : b < 2147483648) (hc0 : -2147483648 ≤ c) (hc1 : c < 2147483648) (he0 : -2147483648 ≤ e) (he1 : e < 2147483648) (hf0 : -2147483648 ≤ f) (hf1 : f < 2147483648)  : CT l0 10 0 0 mX10_feed [kR (some 0), kI a, kI b, kI c, kI e, kI f] Ia Ja Ra Sa (cI (fun x I' J' => (Kp 0 49 Ia I' ∧ Kp 0 49 Ja J' ∧ CX I' ∧ Fw [8, 9] [] Ia I' ∧ (Ia 8 1 ≤ 380 → x = Ia 8 1 + 20 ∧ I' 8 1 = Ia 8 1 + 20 ∧ FDc (Ia 9) (I' 9) (Ia 8 1) a b c e f) ∧ (¬ Ia 8 1 ≤ 380 → x = -1 ∧ I' 8 1 = Ia 8 1 ∧ I' 9 = Ia 9)) ∧ FRk I' J') Ra Sa) := by
  refine ct_in pn_X10 (Nat.le_of_ble_eq_true rfl) (fun X hX hT hIn => ?_)
  have hX : aK l0 X cX10_feed 6 RX10 (some .int) 10 0 0 := hX
  change WW X 0 [some (kR (some 0)), some (kI a), some (kI b), some (kI c), some (kI e), some (kI f)] [] Ia Ja Ra Sa 0 0
  have hI := hC.1
  have hq := XI_o hI
  refine ww_aload_n hX (pc := 0) dX10_feed_0 rfl ?_
  refine ww_getR hX (pc := 1) fX10_23 (by decide) (xs_0 hL) (xr_0_2 hL) dX10_feed_1 ?_
  refine vI0 hX (pc := 4) sX10_140 (xs_8 hL) (c_X9_hasRoom l0 hL hC.1) (by decide) (Nat.le_refl 0) (Nat.le_refl 0) (Nat.le_of_ble_eq_true rfl) dX10_feed_4 (fun x_4 I_4 J_4 h_4 => ?_)
  obtain ⟨rfl, rfl, h_4⟩ := h_4
  refine ww_if_ne hX (pc := 7) (tgt := 12) dX10_feed_7 (by decide) (fun h_7 => ?_) (fun h_7 => ?_)
  · simp only [w32_mod] at h_7
    have k_4 := h_4.2.mp (by omega)
    clear h_4
    refine ww_aload_n hX (pc := 12) dX10_feed_12 rfl ?_
    refine ww_getR hX (pc := 13) fX10_23 (by decide) (xs_0 hL) (xr_0_2 hL) dX10_feed_13 ?_
    refine ww_iload_n hX (pc := 16) dX10_feed_16 rfl ?_
    refine vV1 hX (pc := 17) sX10_144 (xs_8 hL) (c5_X9_put l0 hL (by omega) (by omega) hC.1.2.2.2.2.2.2.2.2.2.2) (by decide) (Nat.le_refl 0) (Nat.le_refl 0) (Nat.le_of_ble_eq_true rfl) dX10_feed_17 (fun I_17 J_17 h_17 => ?_)
    have kI_17 : Kp 0 49 Ia I_17 := Kp_tr (Kp_rf (a := 0) (b := 49)) (Kp_wd h_17.1 (by decide) (by decide))
    have kJ_17 : Kp 0 49 Ja J_17 := Kp_tr (Kp_rf (a := 0) (b := 49)) (Kp_wd h_17.2.1 (by decide) (by decide))
    have l_17 := h_17.2.2.1
    have p_17 := h_17.2.2.2.2
    have cI_17 : CX I_17 := CX_put hC h_17.1 (by omega) (by omega) h_17.2.2.2.1
    have qI_17 := XI_o cI_17.1
    have r5_I_17 : I_17 1 5 = Ia 1 5 := by rw [h_17.1 1 (by decide)]
    have r6_I_17 : I_17 1 6 = Ia 1 6 := by rw [h_17.1 1 (by decide)]
    have r8_I_17 : I_17 1 8 = Ia 1 8 := by rw [h_17.1 1 (by decide)]
    have r9_I_17 : I_17 1 9 = Ia 1 9 := by rw [h_17.1 1 (by decide)]
    have r10_I_17 : I_17 1 10 = Ia 1 10 := by rw [h_17.1 1 (by decide)]
    have r11_I_17 : I_17 1 11 = Ia 1 11 := by rw [h_17.1 1 (by decide)]
    have rf_I_17 : FU (I_17 1 5) = FU (Ia 1 5) := by rw [r5_I_17]
    have wI_17 : Fw [8, 9] [] Ia I_17 := Fw_kp Fw_rf h_17.1 (by decide)
    have r7_I_17 : I_17 1 7 = Ia 1 7 := by rw [h_17.1 1 (by decide)]
    have frI_17 : FRk I_17 J_17 := FRk_kp hF h_17.1 h_17.2.1 (by decide)
    refine ww_aload_n hX (pc := 20) dX10_feed_20 rfl ?_
    refine ww_getR hX (pc := 21) fX10_23 (by decide) (xs_0 hL) (xr_0_2 hL) dX10_feed_21 ?_
    refine ww_iload_n hX (pc := 24) dX10_feed_24 rfl ?_
    refine vV1 hX (pc := 25) sX10_144 (xs_8 hL) (c5_X9_put l0 hL (by omega) (by omega) cI_17.1.2.2.2.2.2.2.2.2.2.2) (by decide) (Nat.le_refl 0) (Nat.le_refl 0) (Nat.le_of_ble_eq_true rfl) dX10_feed_25 (fun I_25 J_25 h_25 => ?_)
    have kI_25 : Kp 0 49 Ia I_25 := Kp_tr kI_17 (Kp_wd h_25.1 (by decide) (by decide))
    have kJ_25 : Kp 0 49 Ja J_25 := Kp_tr kJ_17 (Kp_wd h_25.2.1 (by decide) (by decide))
    have l_25 := h_25.2.2.1
    have p_25 := h_25.2.2.2.2
    have cI_25 : CX I_25 := CX_put cI_17 h_25.1 (by omega) (by omega) h_25.2.2.2.1
    have qI_25 := XI_o cI_25.1
    have r5_I_25 : I_25 1 5 = I_17 1 5 := by rw [h_25.1 1 (by decide)]
    have r6_I_25 : I_25 1 6 = I_17 1 6 := by rw [h_25.1 1 (by decide)]
    have r8_I_25 : I_25 1 8 = I_17 1 8 := by rw [h_25.1 1 (by decide)]
    have r9_I_25 : I_25 1 9 = I_17 1 9 := by rw [h_25.1 1 (by decide)]
    have r10_I_25 : I_25 1 10 = I_17 1 10 := by rw [h_25.1 1 (by decide)]
    have r11_I_25 : I_25 1 11 = I_17 1 11 := by rw [h_25.1 1 (by decide)]
    have rf_I_25 : FU (I_25 1 5) = FU (I_17 1 5) := by rw [r5_I_25]
    have wI_25 : Fw [8, 9] [] Ia I_25 := Fw_kp wI_17 h_25.1 (by decide)
    have r7_I_25 : I_25 1 7 = I_17 1 7 := by rw [h_25.1 1 (by decide)]
    have frI_25 : FRk I_25 J_25 := FRk_kp frI_17 h_25.1 h_25.2.1 (by decide)
    refine ww_aload_n hX (pc := 28) dX10_feed_28 rfl ?_
    refine ww_getR hX (pc := 29) fX10_23 (by decide) (xs_0 hL) (xr_0_2 hL) dX10_feed_29 ?_
    refine ww_iload_n hX (pc := 32) dX10_feed_32 rfl ?_
    refine vV1 hX (pc := 33) sX10_144 (xs_8 hL) (c5_X9_put l0 hL (by omega) (by omega) cI_25.1.2.2.2.2.2.2.2.2.2.2) (by decide) (Nat.le_refl 0) (Nat.le_refl 0) (Nat.le_of_ble_eq_true rfl) dX10_feed_33 (fun I_33 J_33 h_33 => ?_)
    have kI_33 : Kp 0 49 Ia I_33 := Kp_tr kI_25 (Kp_wd h_33.1 (by decide) (by decide))
    have kJ_33 : Kp 0 49 Ja J_33 := Kp_tr kJ_25 (Kp_wd h_33.2.1 (by decide) (by decide))
    have l_33 := h_33.2.2.1
    have p_33 := h_33.2.2.2.2
    have cI_33 : CX I_33 := CX_put cI_25 h_33.1 (by omega) (by omega) h_33.2.2.2.1
    have qI_33 := XI_o cI_33.1
    have r5_I_33 : I_33 1 5 = I_25 1 5 := by rw [h_33.1 1 (by decide)]
    have r6_I_33 : I_33 1 6 = I_25 1 6 := by rw [h_33.1 1 (by decide)]
    have r8_I_33 : I_33 1 8 = I_25 1 8 := by rw [h_33.1 1 (by decide)]
    have r9_I_33 : I_33 1 9 = I_25 1 9 := by rw [h_33.1 1 (by decide)]
    have r10_I_33 : I_33 1 10 = I_25 1 10 := by rw [h_33.1 1 (by decide)]
    have r11_I_33 : I_33 1 11 = I_25 1 11 := by rw [h_33.1 1 (by decide)]
    have rf_I_33 : FU (I_33 1 5) = FU (I_25 1 5) := by rw [r5_I_33]
    have wI_33 : Fw [8, 9] [] Ia I_33 := Fw_kp wI_25 h_33.1 (by decide)
    have r7_I_33 : I_33 1 7 = I_25 1 7 := by rw [h_33.1 1 (by decide)]
    have frI_33 : FRk I_33 J_33 := FRk_kp frI_25 h_33.1 h_33.2.1 (by decide)
    refine ww_aload_n hX (pc := 36) dX10_feed_36 rfl ?_
    refine ww_getR hX (pc := 37) fX10_23 (by decide) (xs_0 hL) (xr_0_2 hL) dX10_feed_37 ?_
    refine ww_iload hX (pc := 40) dX10_feed_40 rfl ?_
    refine vV1 hX (pc := 42) sX10_144 (xs_8 hL) (c5_X9_put l0 hL (by omega) (by omega) cI_33.1.2.2.2.2.2.2.2.2.2.2) (by decide) (Nat.le_refl 0) (Nat.le_refl 0) (Nat.le_of_ble_eq_true rfl) dX10_feed_42 (fun I_42 J_42 h_42 => ?_)
    have kI_42 : Kp 0 49 Ia I_42 := Kp_tr kI_33 (Kp_wd h_42.1 (by decide) (by decide))
    have kJ_42 : Kp 0 49 Ja J_42 := Kp_tr kJ_33 (Kp_wd h_42.2.1 (by decide) (by decide))
    have l_42 := h_42.2.2.1
    have p_42 := h_42.2.2.2.2
    have cI_42 : CX I_42 := CX_put cI_33 h_42.1 (by omega) (by omega) h_42.2.2.2.1
    have qI_42 := XI_o cI_42.1
    have r5_I_42 : I_42 1 5 = I_33 1 5 := by rw [h_42.1 1 (by decide)]
    have r6_I_42 : I_42 1 6 = I_33 1 6 := by rw [h_42.1 1 (by decide)]
    have r8_I_42 : I_42 1 8 = I_33 1 8 := by rw [h_42.1 1 (by decide)]
    have r9_I_42 : I_42 1 9 = I_33 1 9 := by rw [h_42.1 1 (by decide)]
    have r10_I_42 : I_42 1 10 = I_33 1 10 := by rw [h_42.1 1 (by decide)]
    have r11_I_42 : I_42 1 11 = I_33 1 11 := by rw [h_42.1 1 (by decide)]
    have rf_I_42 : FU (I_42 1 5) = FU (I_33 1 5) := by rw [r5_I_42]
    have wI_42 : Fw [8, 9] [] Ia I_42 := Fw_kp wI_33 h_42.1 (by decide)
    have r7_I_42 : I_42 1 7 = I_33 1 7 := by rw [h_42.1 1 (by decide)]
    have frI_42 : FRk I_42 J_42 := FRk_kp frI_33 h_42.1 h_42.2.1 (by decide)
    refine ww_aload_n hX (pc := 45) dX10_feed_45 rfl ?_
    refine ww_getR hX (pc := 46) fX10_23 (by decide) (xs_0 hL) (xr_0_2 hL) dX10_feed_46 ?_
    refine ww_iload hX (pc := 49) dX10_feed_49 rfl ?_
    refine vV1 hX (pc := 51) sX10_144 (xs_8 hL) (c5_X9_put l0 hL (by omega) (by omega) cI_42.1.2.2.2.2.2.2.2.2.2.2) (by decide) (Nat.le_refl 0) (Nat.le_refl 0) (Nat.le_of_ble_eq_true rfl) dX10_feed_51 (fun I_51 J_51 h_51 => ?_)
    have kI_51 : Kp 0 49 Ia I_51 := Kp_tr kI_42 (Kp_wd h_51.1 (by decide) (by decide))
    have kJ_51 : Kp 0 49 Ja J_51 := Kp_tr kJ_42 (Kp_wd h_51.2.1 (by decide) (by decide))
    have l_51 := h_51.2.2.1
    have p_51 := h_51.2.2.2.2
    have cI_51 : CX I_51 := CX_put cI_42 h_51.1 (by omega) (by omega) h_51.2.2.2.1
    have qI_51 := XI_o cI_51.1
    have r5_I_51 : I_51 1 5 = I_42 1 5 := by rw [h_51.1 1 (by decide)]
    have r6_I_51 : I_51 1 6 = I_42 1 6 := by rw [h_51.1 1 (by decide)]
    have r8_I_51 : I_51 1 8 = I_42 1 8 := by rw [h_51.1 1 (by decide)]
    have r9_I_51 : I_51 1 9 = I_42 1 9 := by rw [h_51.1 1 (by decide)]
    have r10_I_51 : I_51 1 10 = I_42 1 10 := by rw [h_51.1 1 (by decide)]
    have r11_I_51 : I_51 1 11 = I_42 1 11 := by rw [h_51.1 1 (by decide)]
    have rf_I_51 : FU (I_51 1 5) = FU (I_42 1 5) := by rw [r5_I_51]
    have wI_51 : Fw [8, 9] [] Ia I_51 := Fw_kp wI_42 h_51.1 (by decide)
    have r7_I_51 : I_51 1 7 = I_42 1 7 := by rw [h_51.1 1 (by decide)]
    have frI_51 : FRk I_51 J_51 := FRk_kp frI_42 h_51.1 h_51.2.1 (by decide)
    refine ww_aload_n hX (pc := 54) dX10_feed_54 rfl ?_
    refine ww_getR hX (pc := 55) fX10_23 (by decide) (xs_0 hL) (xr_0_2 hL) dX10_feed_55 ?_
    refine ww_getI hX (pc := 58) fX10_148 (by decide) (xs_8 hL) dX10_feed_58 ?_
    refine rI hX (pc := 61) hT (Nat.le_refl 0) (Nat.le_refl 0) dX10_feed_61 ?_
    exact ⟨⟨kI_51, kJ_51, cI_51, (Fw_wd wI_51 (by decide) (by decide)), (fun _ => ⟨by omega, by omega, FDc_of (by omega) p_17 (by rw [← l_17]; exact p_25) (by rw [← l_17, ← l_25]; exact p_33) (by rw [← l_17, ← l_25, ← l_33]; exact p_42) (by rw [← l_17, ← l_25, ← l_33, ← l_42]; exact p_51)⟩), (fun h9 => absurd (by omega) h9)⟩, frI_51⟩
  · simp only [w32_mod] at h_7
    refine ww_iconst hX (pc := 10) (x := (-1)) dX10_feed_10 rfl ?_
    refine rI hX (pc := 11) hT (Nat.le_refl 0) (Nat.le_refl 0) dX10_feed_11 ?_
    exact ⟨⟨(Kp_rf (a := 0) (b := 49)), (Kp_rf (a := 0) (b := 49)), hC, Fw_rf, (fun h9 => absurd h9 (by omega)), (fun _ => ⟨rfl, rfl, rfl⟩)⟩, hF⟩
set_option maxHeartbeats 4000000 in
set_option maxRecDepth 20000 in
theorem c8_X10_trail (l0 : Launch) {Ia Ja : aI1} {Ra : aR1} {Sa : aS1} (hL : LY Ra Sa) (hC : CX Ia) (hF : FRk Ia Ja)  : CT l0 10 0 0 mX10_trail [kR (some 0)] Ia Ja Ra Sa (cI (fun x I' J' => (Kp 0 49 Ia I' ∧ Kp 0 49 Ja J' ∧ CX I' ∧ Fw [46, 48] [(0, 12), (0, 16), (8, 1)] Ia I' ∧ (Ia 8 1 = 0 → x = -6 ∧ RFc Ia I' (-6)) ∧ (¬ Ia 8 1 = 0 → x = min (Ia 8 1) 30 ∧ Fw [46] [(0, 12), (0, 16), (8, 1)] Ia I' ∧ I' 0 16 = 0 ∧ I' 0 12 = min (Ia 8 1) 30 ∧ I' 8 1 = 0 ∧ (∀ j : Nat, (j : Int) < min (Ia 8 1) 30 → I' 46 j = Ia 9 j))) ∧ FRk I' J') Ra Sa) := by
  refine ct_in pn_X10 (Nat.le_of_ble_eq_true rfl) (fun X hX hT hIn => ?_)
  have hX : aK l0 X cX10_trail 2 RX10 (some .int) 10 0 0 := hX
  change WW X 0 [some (kR (some 0)), none] [] Ia Ja Ra Sa 0 0
  have hI := hC.1
  have hq := XI_o hI
  refine ww_aload_n hX (pc := 0) dX10_trail_0 rfl ?_
  refine ww_getR hX (pc := 1) fX10_23 (by decide) (xs_0 hL) (xr_0_2 hL) dX10_trail_1 ?_
  refine ww_getI hX (pc := 4) fX10_148 (by decide) (xs_8 hL) dX10_trail_4 ?_
  refine ww_if_ne hX (pc := 7) (tgt := 17) dX10_trail_7 (by decide) (fun h_7 => ?_) (fun h_7 => ?_)
  · simp only [w32_mod] at h_7
    refine ww_aload_n hX (pc := 17) dX10_trail_17 rfl ?_
    refine ww_aload_n hX (pc := 18) dX10_trail_18 rfl ?_
    refine ww_getR hX (pc := 19) fX10_23 (by decide) (xs_0 hL) (xr_0_2 hL) dX10_trail_19 ?_
    refine ww_getI hX (pc := 22) fX10_148 (by decide) (xs_8 hL) dX10_trail_22 ?_
    refine ww_bipush hX (pc := 25) (x := 30) dX10_trail_25 (by decide) ?_
    refine ww_mmin hX (pc := 27) tb_920 tb_579 tb_13 tb_580 (by decide) (Nat.le_refl 0) (Nat.le_refl 0) (Nat.le_of_ble_eq_true rfl) dX10_trail_27 ?_
    refine ww_toI (b := min (Ia 8 1) 30) (by rw [i_min_r (by omega) (by omega) (by omega) (by omega)]) ?_
    refine ww_putI hX (pc := 30) (fun h9 => absurd h9 (by decide)) gX10_256 rfl (xs_0 hL) dX10_trail_30 ?_
    refine ww_nmH (fun I_30 eI_30 => ?_)
    have kI_30 : Kp 0 49 Ia I_30 := by rw [eI_30]; exact Kp_up (Kp_rf (a := 0) (b := 49)) _ _ (by decide)
    have cI_30 : CX I_30 := by rw [eI_30]; exact CX_x hC (XI_0_12 hC.1 (by omega) (by omega)) (by decide)
    have qI_30 := XI_o cI_30.1
    have r5_I_30 : I_30 1 5 = Ia 1 5 := by rw [eI_30, up2_off _ _ _ (by decide)]
    have r6_I_30 : I_30 1 6 = Ia 1 6 := by rw [eI_30, up2_off _ _ _ (by decide)]
    have r8_I_30 : I_30 1 8 = Ia 1 8 := by rw [eI_30, up2_off _ _ _ (by decide)]
    have r9_I_30 : I_30 1 9 = Ia 1 9 := by rw [eI_30, up2_off _ _ _ (by decide)]
    have r10_I_30 : I_30 1 10 = Ia 1 10 := by rw [eI_30, up2_off _ _ _ (by decide)]
    have r11_I_30 : I_30 1 11 = Ia 1 11 := by rw [eI_30, up2_off _ _ _ (by decide)]
    have rf_I_30 : FU (I_30 1 5) = FU (Ia 1 5) := by rw [r5_I_30]
    have wI_30 : Fw [46] [(0, 12), (0, 16), (8, 1)] Ia I_30 := by rw [eI_30]; exact Fw_up Fw_rf (Or.inr (by decide))
    have r7_I_30 : I_30 1 7 = Ia 1 7 := by rw [eI_30, up2_n _ _ (Or.inl (by decide))]
    have y9_I_30 : I_30 9 = Ia 9 := by rw [eI_30, up2_off _ _ _ (by decide)]
    have y46_I_30 : I_30 46 = Ia 46 := by rw [eI_30, up2_off _ _ _ (by decide)]
    have z12 : I_30 0 12 = min (Ia 8 1) 30 := by rw [eI_30, up2_s]
    have q81 : I_30 8 1 = Ia 8 1 := by rw [eI_30, up2_off _ _ _ (by decide)]
    have frI_30 : FRk I_30 Ja := by rw [eI_30]; exact FRk_up hF (by decide)
    refine ww_iconst hX (pc := 33) (x := 0) dX10_trail_33 rfl ?_
    refine ww_istore_n hX (pc := 34) (lv' := [some (kR (some 0)), some (kI 0)]) dX10_trail_34 (by decide) rfl rfl ?_
    have hl_35 : ∀ (n_35 : Nat) (i : Int) (I2 : aI1) (J2 : aI1), (30 - i).toNat = n_35 → (Kp 0 49 Ia I2 ∧ Kp 0 49 Ja J2 ∧ CX I2 ∧ FRk I2 J2 ∧ Fw [46] [(0, 12), (0, 16), (8, 1)] Ia I2 ∧ (I2 1 5 = I_30 1 5 ∧ I2 1 6 = I_30 1 6) ∧ ((0 ≤ i ∧ i ≤ min (Ia 8 1) 30 ∧ I2 0 12 = min (Ia 8 1) 30 ∧ I2 8 1 = Ia 8 1) ∧ I2 9 = Ia 9 ∧ (∀ j : Nat, (j : Int) < i → I2 46 j = Ia 9 j))) → WW X 35 [some (kR (some 0)), some (kI i)] [] I2 J2 Ra Sa 0 0 := by
      intro n_35
      induction n_35 using Nat.strongRecOn with
      | ind n_35 ih_35 =>
        intro i I2 J2 hm_35 hv_35
        have hq_35 := Sh0_i hm_35
        clear hm_35
        obtain ⟨kI2, kJ2, cI2, frI2, wI2, hI20, ⟨hi, i2_9, h46⟩⟩ := hv_35
        have qI2 := XI_o cI2.1
        have rfI2 := congrArg FU hI20.1
        refine ww_iload_n hX (pc := 35) dX10_trail_35 rfl ?_
        refine ww_aload_n hX (pc := 36) dX10_trail_36 rfl ?_
        refine ww_getI hX (pc := 37) fX10_256 (by decide) (xs_0 hL) dX10_trail_37 ?_
        refine ww_icmp_ge hX (pc := 40) (tgt := 63) dX10_trail_40 (by decide) (fun h_40 => ?_) (fun h_40 => ?_)
        · simp only [w32_mod] at h_40
          refine ww_aload_n hX (pc := 63) dX10_trail_63 rfl ?_
          refine ww_getR hX (pc := 64) fX10_23 (by decide) (xs_0 hL) (xr_0_2 hL) dX10_trail_64 ?_
          refine ww_iconst hX (pc := 67) (x := 0) dX10_trail_67 rfl ?_
          refine ww_putI hX (pc := 68) (fun h9 => absurd h9 (by decide)) gX10_148 rfl (xs_8 hL) dX10_trail_68 ?_
          refine ww_nmH (fun I_68 eI_68 => ?_)
          have kI_68 : Kp 0 49 Ia I_68 := by rw [eI_68]; exact Kp_up kI2 _ _ (by decide)
          have cI_68 : CX I_68 := by rw [eI_68]; exact CX_x cI2 (XI_8_1 cI2.1 (by omega) (by omega)) (by decide)
          have qI_68 := XI_o cI_68.1
          have r5_I_68 : I_68 1 5 = I2 1 5 := by rw [eI_68, up2_off _ _ _ (by decide)]
          have r6_I_68 : I_68 1 6 = I2 1 6 := by rw [eI_68, up2_off _ _ _ (by decide)]
          have r8_I_68 : I_68 1 8 = I2 1 8 := by rw [eI_68, up2_off _ _ _ (by decide)]
          have r9_I_68 : I_68 1 9 = I2 1 9 := by rw [eI_68, up2_off _ _ _ (by decide)]
          have r10_I_68 : I_68 1 10 = I2 1 10 := by rw [eI_68, up2_off _ _ _ (by decide)]
          have r11_I_68 : I_68 1 11 = I2 1 11 := by rw [eI_68, up2_off _ _ _ (by decide)]
          have rf_I_68 : FU (I_68 1 5) = FU (I2 1 5) := by rw [r5_I_68]
          have wI_68 : Fw [46] [(0, 12), (0, 16), (8, 1)] Ia I_68 := by rw [eI_68]; exact Fw_up wI2 (Or.inr (by decide))
          have r7_I_68 : I_68 1 7 = I2 1 7 := by rw [eI_68, up2_n _ _ (Or.inl (by decide))]
          have y9_I_68 : I_68 9 = I2 9 := by rw [eI_68, up2_off _ _ _ (by decide)]
          have y46_I_68 : I_68 46 = I2 46 := by rw [eI_68, up2_off _ _ _ (by decide)]
          have z12_ : I_68 0 12 = I2 0 12 := by rw [eI_68, up2_off _ _ _ (by decide)]
          have z81 : I_68 8 1 = 0 := by rw [eI_68, up2_s]
          have frI_68 : FRk I_68 J2 := by rw [eI_68]; exact FRk_up frI2 (by decide)
          refine ww_aload_n hX (pc := 71) dX10_trail_71 rfl ?_
          refine ww_aload_n hX (pc := 72) dX10_trail_72 rfl ?_
          refine ww_getI hX (pc := 73) fX10_256 (by decide) (xs_0 hL) dX10_trail_73 ?_
          refine vI1 hX (pc := 76) sX10_114 (xs_0 hL) (c8_X10_accept l0 hL cI_68 frI_68) (by decide) (Nat.le_refl 0) (Nat.le_refl 0) (Nat.le_of_ble_eq_true rfl) dX10_trail_76 (fun x_76 I_76 J_76 h_76 => ?_)
          obtain ⟨h_76, frI_76⟩ := h_76
          have kI_76 : Kp 0 49 Ia I_76 := Kp_tr kI_68 (Kp_wd h_76.1 (by decide) (by decide))
          have kJ_76 : Kp 0 49 Ja J_76 := Kp_tr kJ2 (Kp_wd h_76.2.1 (by decide) (by decide))
          have cI_76 : CX I_76 := h_76.2.2.1
          have qI_76 := XI_o cI_76.1
          have wI_76 : Fw [46] [(0, 12), (0, 16), (8, 1)] Ia I_76 := Fw_tr wI_68 (Fw_wd h_76.2.2.2.1 (by decide) (by decide))
          have r5_I_76 : I_76 1 5 = I_68 1 5 := h_76.2.2.2.1 1 5 (by decide) (by decide) (by decide)
          have r6_I_76 : I_76 1 6 = I_68 1 6 := h_76.2.2.2.1 1 6 (by decide) (by decide) (by decide)
          have r7_I_76 : I_76 1 7 = I_68 1 7 := h_76.2.2.2.1 1 7 (by decide) (by decide) (by decide)
          have r8_I_76 : I_76 1 8 = I_68 1 8 := h_76.2.2.2.1 1 8 (by decide) (by decide) (by decide)
          have r9_I_76 : I_76 1 9 = I_68 1 9 := h_76.2.2.2.1 1 9 (by decide) (by decide) (by decide)
          have r10_I_76 : I_76 1 10 = I_68 1 10 := h_76.2.2.2.1 1 10 (by decide) (by decide) (by decide)
          have r11_I_76 : I_76 1 11 = I_68 1 11 := h_76.2.2.2.1 1 11 (by decide) (by decide) (by decide)
          have r81_I_76 : I_76 8 1 = I_68 8 1 := h_76.2.2.2.1 8 1 (by decide) (by decide) (by decide)
          have rf_I_76 : FU (I_76 1 5) = FU (I_68 1 5) := by rw [r5_I_76]
          have y9_I_76 : I_76 9 = I_68 9 := Fw_row h_76.2.2.2.1 9 (by decide) (by decide) (by decide)
          have y46_I_76 : I_76 46 = I_68 46 := Fw_row h_76.2.2.2.1 46 (by decide) (by decide) (by decide)
          have xv_I_76 := h_76.2.2.2.2
          refine rI hX (pc := 79) hT (Nat.le_refl 0) (Nat.le_refl 0) dX10_trail_79 ?_
          exact ⟨⟨kI_76, kJ_76, cI_76, (Fw_wd wI_76 (by decide) (by decide)), (fun h9 => absurd h9 (by omega)), (fun _ => ⟨by omega, wI_76, xv_I_76.2, by rw [h_76.2.2.2.1 0 12 (by decide) (by decide) (by decide)]; omega, by omega, (fun j hj => by rw [y46_I_76, y46_I_68]; exact h46 j (by omega))⟩)⟩, frI_76⟩
        · simp only [w32_mod] at h_40
          refine ww_aload_n hX (pc := 43) dX10_trail_43 rfl ?_
          refine ww_getR hX (pc := 44) fX10_75 (by decide) (xs_0 hL) (xr_0_9 hL) dX10_trail_44 ?_
          refine ww_iload_n hX (pc := 47) dX10_trail_47 rfl ?_
          refine ww_aload_n hX (pc := 48) dX10_trail_48 rfl ?_
          refine ww_getR hX (pc := 49) fX10_23 (by decide) (xs_0 hL) (xr_0_2 hL) dX10_trail_49 ?_
          refine ww_iload_n hX (pc := 52) dX10_trail_52 rfl ?_
          refine vI1 hX (pc := 53) sX10_155 (xs_8 hL) (c_X9_byteAt l0 hL cI2.1 (by omega) (by omega)) (by decide) (Nat.le_refl 0) (Nat.le_refl 0) (Nat.le_of_ble_eq_true rfl) dX10_trail_53 (fun x_53 I_53 J_53 h_53 => ?_)
          obtain ⟨rfl, rfl, h_53⟩ := h_53
          refine ww_iast hX (pc := 56) (xs_46 hL) (by decide) (by omega) (by omega) dX10_trail_56 ?_
          refine ww_nmH (fun I_56 eI_56 => ?_)
          have kI_56 : Kp 0 49 Ia I_56 := by rw [eI_56]; exact Kp_up kI2 _ _ (by decide)
          have cI_56 : CX I_56 := by rw [eI_56]; exact CX_up cI2 (by decide)
          have qI_56 := XI_o cI_56.1
          have r5_I_56 : I_56 1 5 = I2 1 5 := by rw [eI_56, up2_off _ _ _ (by decide)]
          have r6_I_56 : I_56 1 6 = I2 1 6 := by rw [eI_56, up2_off _ _ _ (by decide)]
          have r8_I_56 : I_56 1 8 = I2 1 8 := by rw [eI_56, up2_off _ _ _ (by decide)]
          have r9_I_56 : I_56 1 9 = I2 1 9 := by rw [eI_56, up2_off _ _ _ (by decide)]
          have r10_I_56 : I_56 1 10 = I2 1 10 := by rw [eI_56, up2_off _ _ _ (by decide)]
          have r11_I_56 : I_56 1 11 = I2 1 11 := by rw [eI_56, up2_off _ _ _ (by decide)]
          have rf_I_56 : FU (I_56 1 5) = FU (I2 1 5) := by rw [r5_I_56]
          have wI_56 : Fw [46] [(0, 12), (0, 16), (8, 1)] Ia I_56 := by rw [eI_56]; exact Fw_up wI2 (Or.inl (by decide))
          have r7_I_56 : I_56 1 7 = I2 1 7 := by rw [eI_56, up2_n _ _ (Or.inl (by decide))]
          have y9_I_56 : I_56 9 = I2 9 := by rw [eI_56, up2_off _ _ _ (by decide)]
          have z12_ : I_56 0 12 = I2 0 12 := by rw [eI_56, up2_off _ _ _ (by decide)]
          have q81_ : I_56 8 1 = I2 8 1 := by rw [eI_56, up2_off _ _ _ (by decide)]
          have t46 : ∀ j : Nat, (j : Int) < i + 1 → I_56 46 j = Ia 9 j := fun j hj => by
            rw [eI_56, up2_row]
            by_cases e9 : j = i.toNat
            · rw [e9, up1_s, h_53.2.1 (by omega), i2_9]
            · rw [up1_n _ _ e9]; exact h46 j (by omega)
          have frI_56 : FRk I_56 J2 := by rw [eI_56]; exact FRk_up frI2 (by decide)
          refine ww_iinc hX (pc := 57) (lv' := [some (kR (some 0)), some (kI (i + 1))]) dX10_trail_57 rfl (by decide) rfl rfl ?_
          refine ww_goto hX (pc := 60) (tgt := 35) dX10_trail_60 (by decide) ?_
          exact ih_35 _ (by have hm9 := Sh0_e hq_35; omega) (i + 1) I_56 J2 rfl ⟨kI_56, kJ2, cI_56, frI_56, wI_56, ⟨by omega, by omega⟩, ⟨by omega, by rw [y9_I_56]; exact i2_9, t46⟩⟩
    exact hl_35 _ 0 I_30 Ja rfl ⟨kI_30, (Kp_rf (a := 0) (b := 49)), cI_30, frI_30, wI_30, ⟨by omega, by omega⟩, ⟨by omega, y9_I_30, fun j hj => absurd hj (by omega)⟩⟩
  · simp only [w32_mod] at h_7
    refine ww_aload_n hX (pc := 10) dX10_trail_10 rfl ?_
    refine ww_bipush hX (pc := 11) (x := (-6)) dX10_trail_11 (by decide) ?_
    refine vI1 hX (pc := 13) sX10_89 (xs_0 hL) (c8_X10_refuse l0 hL hC hF (by omega) (by omega)) (by decide) (Nat.le_refl 0) (Nat.le_refl 0) (Nat.le_of_ble_eq_true rfl) dX10_trail_13 (fun x_13 I_13 J_13 h_13 => ?_)
    obtain ⟨h_13, frI_13⟩ := h_13
    have kI_13 : Kp 0 49 Ia I_13 := Kp_tr (Kp_rf (a := 0) (b := 49)) (Kp_wd h_13.1 (by decide) (by decide))
    have kJ_13 : Kp 0 49 Ja J_13 := Kp_tr (Kp_rf (a := 0) (b := 49)) (Kp_wd h_13.2.1 (by decide) (by decide))
    have cI_13 : CX I_13 := h_13.2.2.1
    have qI_13 := XI_o cI_13.1
    have wI_13 : Fw [46, 48] [(0, 12), (0, 16), (8, 1)] Ia I_13 := Fw_tr Fw_rf (Fw_wd h_13.2.2.2.1 (by decide) (by decide))
    have r5_I_13 : I_13 1 5 = Ia 1 5 := h_13.2.2.2.1 1 5 (by decide) (by decide) (by decide)
    have r6_I_13 : I_13 1 6 = Ia 1 6 := h_13.2.2.2.1 1 6 (by decide) (by decide) (by decide)
    have r7_I_13 : I_13 1 7 = Ia 1 7 := h_13.2.2.2.1 1 7 (by decide) (by decide) (by decide)
    have r8_I_13 : I_13 1 8 = Ia 1 8 := h_13.2.2.2.1 1 8 (by decide) (by decide) (by decide)
    have r9_I_13 : I_13 1 9 = Ia 1 9 := h_13.2.2.2.1 1 9 (by decide) (by decide) (by decide)
    have r10_I_13 : I_13 1 10 = Ia 1 10 := h_13.2.2.2.1 1 10 (by decide) (by decide) (by decide)
    have r11_I_13 : I_13 1 11 = Ia 1 11 := h_13.2.2.2.1 1 11 (by decide) (by decide) (by decide)
    have r81_I_13 : I_13 8 1 = Ia 8 1 := h_13.2.2.2.1 8 1 (by decide) (by decide) (by decide)
    have rf_I_13 : FU (I_13 1 5) = FU (Ia 1 5) := by rw [r5_I_13]
    have y9_I_13 : I_13 9 = Ia 9 := Fw_row h_13.2.2.2.1 9 (by decide) (by decide) (by decide)
    have y46_I_13 : I_13 46 = Ia 46 := Fw_row h_13.2.2.2.1 46 (by decide) (by decide) (by decide)
    have xv_I_13 := h_13.2.2.2.2
    refine rI hX (pc := 16) hT (Nat.le_refl 0) (Nat.le_refl 0) dX10_trail_16 ?_
    exact ⟨⟨kI_13, kJ_13, cI_13, (Fw_wd wI_13 (by decide) (by decide)), (fun _ => ⟨xv_I_13.1, h_13.2.2.2.1, xv_I_13.2⟩), (fun h9 => absurd (by omega) h9)⟩, frI_13⟩
set_option maxHeartbeats 4000000 in
set_option maxRecDepth 20000 in
theorem c8_X10_unwant (l0 : Launch) {Ia Ja : aI1} {Ra : aR1} {Sa : aS1} (hL : LY Ra Sa) (hC : CX Ia) (hF : FRk Ia Ja)  : CT l0 10 0 0 mX10_unwant [kR (some 0)] Ia Ja Ra Sa (cI (fun x I' J' => (Kp 0 49 Ia I' ∧ Kp 0 49 Ja J' ∧ CX I' ∧ Fw [33] [(1, 11)] Ia I' ∧ x = Ia 1 11 ∧ I' 1 11 = 0) ∧ FRk I' J') Ra Sa) := by
  refine ct_in pn_X10 (Nat.le_of_ble_eq_true rfl) (fun X hX hT hIn => ?_)
  have hX : aK l0 X cX10_unwant 2 RX10 (some .int) 10 0 0 := hX
  change WW X 0 [some (kR (some 0)), none] [] Ia Ja Ra Sa 0 0
  have hI := hC.1
  have hq := XI_o hI
  refine ww_aload_n hX (pc := 0) dX10_unwant_0 rfl ?_
  refine ww_getR hX (pc := 1) fX10_10 (by decide) (xs_0 hL) (xr_0_0 hL) dX10_unwant_1 ?_
  refine ww_getI hX (pc := 4) fX10_275 (by decide) (xs_1 hL) dX10_unwant_4 ?_
  refine ww_nmI (fun v_7 hv_7 => ?_)
  refine ww_istore_n hX (pc := 7) (lv' := [some (kR (some 0)), some (kI v_7)]) dX10_unwant_7 (by decide) rfl rfl ?_
  refine ww_aload_n hX (pc := 8) dX10_unwant_8 rfl ?_
  refine ww_getR hX (pc := 9) fX10_10 (by decide) (xs_0 hL) (xr_0_0 hL) dX10_unwant_9 ?_
  refine ww_iconst hX (pc := 12) (x := 0) dX10_unwant_12 rfl ?_
  refine ww_putI hX (pc := 13) (fun h9 => absurd h9 (by decide)) gX10_275 rfl (xs_1 hL) dX10_unwant_13 ?_
  refine ww_nmH (fun I_13 eI_13 => ?_)
  have kI_13 : Kp 0 49 Ia I_13 := by rw [eI_13]; exact Kp_up (Kp_rf (a := 0) (b := 49)) _ _ (by decide)
  have cI_13 : CX I_13 := by rw [eI_13]; exact CX_x hC (XI_1_11 hC.1 (by omega) (by omega)) (by decide)
  have qI_13 := XI_o cI_13.1
  have r5_I_13 : I_13 1 5 = Ia 1 5 := by rw [eI_13, up2_n _ _ (Or.inr (by decide))]
  have r6_I_13 : I_13 1 6 = Ia 1 6 := by rw [eI_13, up2_n _ _ (Or.inr (by decide))]
  have r8_I_13 : I_13 1 8 = Ia 1 8 := by rw [eI_13, up2_n _ _ (Or.inr (by decide))]
  have r9_I_13 : I_13 1 9 = Ia 1 9 := by rw [eI_13, up2_n _ _ (Or.inr (by decide))]
  have r10_I_13 : I_13 1 10 = Ia 1 10 := by rw [eI_13, up2_n _ _ (Or.inr (by decide))]
  skip
  have rf_I_13 : FU (I_13 1 5) = FU (Ia 1 5) := by rw [r5_I_13]
  have wI_13 : Fw [33] [(1, 11)] Ia I_13 := by rw [eI_13]; exact Fw_up Fw_rf (Or.inr (by decide))
  have r7_I_13 : I_13 1 7 = Ia 1 7 := by rw [eI_13, up2_n _ _ (Or.inr (by decide))]
  have z11_ : I_13 1 11 = 0 := by rw [eI_13, up2_s]
  have frI_13 : FRk I_13 Ja := by rw [eI_13]; exact FRk_u1 hF (by decide)
  refine ww_aload_n hX (pc := 16) dX10_unwant_16 rfl ?_
  refine ww_getR hX (pc := 17) fX10_64 (by decide) (xs_0 hL) (xr_0_7 hL) dX10_unwant_17 ?_
  refine ww_iconst hX (pc := 20) (x := 0) dX10_unwant_20 rfl ?_
  refine ww_putZ hX (pc := 21) (fun h9 => absurd h9 (by decide)) gX10_128 rfl (by decide) (xs_33 hL) dX10_unwant_21 ?_
  refine ww_nmH (fun I_21 eI_21 => ?_)
  have kI_21 : Kp 0 49 Ia I_21 := by rw [eI_21]; exact Kp_up kI_13 _ _ (by decide)
  have cI_21 : CX I_21 := by rw [eI_21]; exact CX_up cI_13 (by decide)
  have qI_21 := XI_o cI_21.1
  have r5_I_21 : I_21 1 5 = I_13 1 5 := by rw [eI_21, up2_off _ _ _ (by decide)]
  have r6_I_21 : I_21 1 6 = I_13 1 6 := by rw [eI_21, up2_off _ _ _ (by decide)]
  have r8_I_21 : I_21 1 8 = I_13 1 8 := by rw [eI_21, up2_off _ _ _ (by decide)]
  have r9_I_21 : I_21 1 9 = I_13 1 9 := by rw [eI_21, up2_off _ _ _ (by decide)]
  have r10_I_21 : I_21 1 10 = I_13 1 10 := by rw [eI_21, up2_off _ _ _ (by decide)]
  have r11_I_21 : I_21 1 11 = I_13 1 11 := by rw [eI_21, up2_off _ _ _ (by decide)]
  have rf_I_21 : FU (I_21 1 5) = FU (I_13 1 5) := by rw [r5_I_21]
  have wI_21 : Fw [33] [(1, 11)] Ia I_21 := by rw [eI_21]; exact Fw_up wI_13 (Or.inl (by decide))
  have r7_I_21 : I_21 1 7 = I_13 1 7 := by rw [eI_21, up2_n _ _ (Or.inl (by decide))]
  have z11 : I_21 1 11 = 0 := by rw [eI_21, up2_off _ _ _ (by decide)]; exact z11_
  have frI_21 : FRk I_21 Ja := by rw [eI_21]; exact FRk_up frI_13 (by decide)
  refine ww_iload_n hX (pc := 24) dX10_unwant_24 rfl ?_
  refine rI hX (pc := 25) hT (Nat.le_refl 0) (Nat.le_refl 0) dX10_unwant_25 ?_
  exact ⟨⟨kI_21, (Kp_rf (a := 0) (b := 49)), cI_21, (Fw_wd wI_21 (by decide) (by decide)), hv_7, z11⟩, frI_21⟩
set_option maxHeartbeats 4000000 in
set_option maxRecDepth 20000 in
theorem c8_X10_want (l0 : Launch) {Ia Ja : aI1} {Ra : aR1} {Sa : aS1} (hL : LY Ra Sa) (hC : CX Ia) (hF : FRk Ia Ja) {a : Int} (ha0 : -2147483648 ≤ a) (ha1 : a < 2147483648)  : CT l0 10 0 0 mX10_want [kR (some 0), kI a] Ia Ja Ra Sa (cI (fun x I' J' => (Kp 0 49 Ia I' ∧ Kp 0 49 Ja J' ∧ CX I' ∧ Fw [6, 33, 48] [(0, 16), (1, 11)] Ia I' ∧ (¬ (0 ≤ a ∧ a < Ia 1 6) → x = -1 ∧ RFc Ia I' (-1)) ∧ ((0 ≤ a ∧ a < Ia 1 6) → (16 ≤ Ia 1 11 → x = -5 ∧ RFc Ia I' (-5)) ∧ (Ia 1 11 < 16 → x = Ia 1 11 + 1 ∧ Fw [6, 33] [(0, 16), (1, 11)] Ia I' ∧ I' 0 16 = 0 ∧ I' 1 11 = Ia 1 11 + 1 ∧ I' 6 = up1 (Ia 6) (Ia 1 11).toNat a))) ∧ FRk I' J') Ra Sa) := by
  refine ct_in pn_X10 (Nat.le_of_ble_eq_true rfl) (fun X hX hT hIn => ?_)
  have hX : aK l0 X cX10_want 2 RX10 (some .int) 10 0 0 := hX
  change WW X 0 [some (kR (some 0)), some (kI a)] [] Ia Ja Ra Sa 0 0
  have hI := hC.1
  have hq := XI_o hI
  refine ww_aload_n hX (pc := 0) dX10_want_0 rfl ?_
  refine ww_getR hX (pc := 1) fX10_10 (by decide) (xs_0 hL) (xr_0_0 hL) dX10_want_1 ?_
  refine ww_iload_n hX (pc := 4) dX10_want_4 rfl ?_
  refine vI1 hX (pc := 5) sX10_134 (xs_1 hL) (c_X1_isNews l0 hL hC.1 (by omega)) (by decide) (Nat.le_refl 0) (Nat.le_refl 0) (Nat.le_of_ble_eq_true rfl) dX10_want_5 (fun x_5 I_5 J_5 h_5 => ?_)
  obtain ⟨rfl, rfl, h_5⟩ := h_5
  refine ww_if_ne hX (pc := 8) (tgt := 17) dX10_want_8 (by decide) (fun h_8 => ?_) (fun h_8 => ?_)
  · simp only [w32_mod] at h_8
    have k_5 := h_5.2.mp (by omega)
    clear h_5
    refine ww_aload_n hX (pc := 17) dX10_want_17 rfl ?_
    refine ww_getR hX (pc := 18) fX10_10 (by decide) (xs_0 hL) (xr_0_0 hL) dX10_want_18 ?_
    refine ww_getI hX (pc := 21) fX10_275 (by decide) (xs_1 hL) dX10_want_21 ?_
    refine ww_bipush hX (pc := 24) (x := 16) dX10_want_24 (by decide) ?_
    refine ww_icmp_lt hX (pc := 26) (tgt := 36) dX10_want_26 (by decide) (fun h_26 => ?_) (fun h_26 => ?_)
    · simp only [w32_mod] at h_26
      refine ww_aload_n hX (pc := 36) dX10_want_36 rfl ?_
      refine ww_getR hX (pc := 37) fX10_10 (by decide) (xs_0 hL) (xr_0_0 hL) dX10_want_37 ?_
      refine ww_getR hX (pc := 40) fX10_278 (by decide) (xs_1 hL) (xr_1_4 hL) dX10_want_40 ?_
      refine ww_aload_n hX (pc := 43) dX10_want_43 rfl ?_
      refine ww_getR hX (pc := 44) fX10_10 (by decide) (xs_0 hL) (xr_0_0 hL) dX10_want_44 ?_
      refine ww_getI hX (pc := 47) fX10_275 (by decide) (xs_1 hL) dX10_want_47 ?_
      refine ww_iload_n hX (pc := 50) dX10_want_50 rfl ?_
      refine ww_iast hX (pc := 51) (xs_6 hL) (by decide) (by omega) (by omega) dX10_want_51 ?_
      refine ww_nmH (fun I_51 eI_51 => ?_)
      have kI_51 : Kp 0 49 Ia I_51 := by rw [eI_51]; exact Kp_up (Kp_rf (a := 0) (b := 49)) _ _ (by decide)
      have cI_51 : CX I_51 := by rw [eI_51]; exact CX_up hC (by decide)
      have qI_51 := XI_o cI_51.1
      have r5_I_51 : I_51 1 5 = Ia 1 5 := by rw [eI_51, up2_off _ _ _ (by decide)]
      have r6_I_51 : I_51 1 6 = Ia 1 6 := by rw [eI_51, up2_off _ _ _ (by decide)]
      have r8_I_51 : I_51 1 8 = Ia 1 8 := by rw [eI_51, up2_off _ _ _ (by decide)]
      have r9_I_51 : I_51 1 9 = Ia 1 9 := by rw [eI_51, up2_off _ _ _ (by decide)]
      have r10_I_51 : I_51 1 10 = Ia 1 10 := by rw [eI_51, up2_off _ _ _ (by decide)]
      have r11_I_51 : I_51 1 11 = Ia 1 11 := by rw [eI_51, up2_off _ _ _ (by decide)]
      have rf_I_51 : FU (I_51 1 5) = FU (Ia 1 5) := by rw [r5_I_51]
      have wI_51 : Fw [6, 33] [(0, 16), (1, 11)] Ia I_51 := by rw [eI_51]; exact Fw_up Fw_rf (Or.inl (by decide))
      have r7_I_51 : I_51 1 7 = Ia 1 7 := by rw [eI_51, up2_n _ _ (Or.inl (by decide))]
      have frI_51 : FRk I_51 Ja := by rw [eI_51]; exact FRk_up hF (by decide)
      refine ww_aload_n hX (pc := 52) dX10_want_52 rfl ?_
      refine ww_getR hX (pc := 53) fX10_10 (by decide) (xs_0 hL) (xr_0_0 hL) dX10_want_53 ?_
      refine ww_dupR hX (pc := 56) dX10_want_56 ?_
      refine ww_getI hX (pc := 57) fX10_275 (by decide) (xs_1 hL) dX10_want_57 ?_
      refine ww_iconst hX (pc := 60) (x := 1) dX10_want_60 rfl ?_
      refine ww_iadd hX (pc := 61) dX10_want_61 ?_
      refine ww_putI hX (pc := 62) (fun h9 => absurd h9 (by decide)) gX10_275 rfl (xs_1 hL) dX10_want_62 ?_
      refine ww_nmH (fun I_62 eI_62 => ?_)
      have kI_62 : Kp 0 49 Ia I_62 := by rw [eI_62]; exact Kp_up kI_51 _ _ (by decide)
      have cI_62 : CX I_62 := by rw [eI_62]; exact CX_x cI_51 (XI_1_11 cI_51.1 (by omega) (by omega)) (by decide)
      have qI_62 := XI_o cI_62.1
      have r5_I_62 : I_62 1 5 = I_51 1 5 := by rw [eI_62, up2_n _ _ (Or.inr (by decide))]
      have r6_I_62 : I_62 1 6 = I_51 1 6 := by rw [eI_62, up2_n _ _ (Or.inr (by decide))]
      have r8_I_62 : I_62 1 8 = I_51 1 8 := by rw [eI_62, up2_n _ _ (Or.inr (by decide))]
      have r9_I_62 : I_62 1 9 = I_51 1 9 := by rw [eI_62, up2_n _ _ (Or.inr (by decide))]
      have r10_I_62 : I_62 1 10 = I_51 1 10 := by rw [eI_62, up2_n _ _ (Or.inr (by decide))]
      skip
      have rf_I_62 : FU (I_62 1 5) = FU (I_51 1 5) := by rw [r5_I_62]
      have wI_62 : Fw [6, 33] [(0, 16), (1, 11)] Ia I_62 := by rw [eI_62]; exact Fw_up wI_51 (Or.inr (by decide))
      have r7_I_62 : I_62 1 7 = I_51 1 7 := by rw [eI_62, up2_n _ _ (Or.inr (by decide))]
      have y6_I_62 : I_62 6 = I_51 6 := by rw [eI_62, up2_off _ _ _ (by decide)]
      have z11 : I_62 1 11 = I_51 1 11 + 1 := by rw [eI_62, up2_s]
      have frI_62 : FRk I_62 Ja := by rw [eI_62]; exact FRk_u1 frI_51 (by decide)
      refine ww_aload_n hX (pc := 65) dX10_want_65 rfl ?_
      refine ww_getR hX (pc := 66) fX10_64 (by decide) (xs_0 hL) (xr_0_7 hL) dX10_want_66 ?_
      refine ww_iconst hX (pc := 69) (x := 0) dX10_want_69 rfl ?_
      refine ww_putZ hX (pc := 70) (fun h9 => absurd h9 (by decide)) gX10_128 rfl (by decide) (xs_33 hL) dX10_want_70 ?_
      refine ww_nmH (fun I_70 eI_70 => ?_)
      have kI_70 : Kp 0 49 Ia I_70 := by rw [eI_70]; exact Kp_up kI_62 _ _ (by decide)
      have cI_70 : CX I_70 := by rw [eI_70]; exact CX_up cI_62 (by decide)
      have qI_70 := XI_o cI_70.1
      have r5_I_70 : I_70 1 5 = I_62 1 5 := by rw [eI_70, up2_off _ _ _ (by decide)]
      have r6_I_70 : I_70 1 6 = I_62 1 6 := by rw [eI_70, up2_off _ _ _ (by decide)]
      have r8_I_70 : I_70 1 8 = I_62 1 8 := by rw [eI_70, up2_off _ _ _ (by decide)]
      have r9_I_70 : I_70 1 9 = I_62 1 9 := by rw [eI_70, up2_off _ _ _ (by decide)]
      have r10_I_70 : I_70 1 10 = I_62 1 10 := by rw [eI_70, up2_off _ _ _ (by decide)]
      have r11_I_70 : I_70 1 11 = I_62 1 11 := by rw [eI_70, up2_off _ _ _ (by decide)]
      have rf_I_70 : FU (I_70 1 5) = FU (I_62 1 5) := by rw [r5_I_70]
      have wI_70 : Fw [6, 33] [(0, 16), (1, 11)] Ia I_70 := by rw [eI_70]; exact Fw_up wI_62 (Or.inl (by decide))
      have r7_I_70 : I_70 1 7 = I_62 1 7 := by rw [eI_70, up2_n _ _ (Or.inl (by decide))]
      have y6_I_70 : I_70 6 = I_62 6 := by rw [eI_70, up2_off _ _ _ (by decide)]
      have frI_70 : FRk I_70 Ja := by rw [eI_70]; exact FRk_up frI_62 (by decide)
      refine ww_aload_n hX (pc := 73) dX10_want_73 rfl ?_
      refine ww_aload_n hX (pc := 74) dX10_want_74 rfl ?_
      refine ww_getR hX (pc := 75) fX10_10 (by decide) (xs_0 hL) (xr_0_0 hL) dX10_want_75 ?_
      refine ww_getI hX (pc := 78) fX10_275 (by decide) (xs_1 hL) dX10_want_78 ?_
      refine vI1 hX (pc := 81) sX10_114 (xs_0 hL) (c8_X10_accept l0 hL cI_70 frI_70) (by decide) (Nat.le_refl 0) (Nat.le_refl 0) (Nat.le_of_ble_eq_true rfl) dX10_want_81 (fun x_81 I_81 J_81 h_81 => ?_)
      obtain ⟨h_81, frI_81⟩ := h_81
      have kI_81 : Kp 0 49 Ia I_81 := Kp_tr kI_70 (Kp_wd h_81.1 (by decide) (by decide))
      have kJ_81 : Kp 0 49 Ja J_81 := Kp_tr (Kp_rf (a := 0) (b := 49)) (Kp_wd h_81.2.1 (by decide) (by decide))
      have cI_81 : CX I_81 := h_81.2.2.1
      have qI_81 := XI_o cI_81.1
      have wI_81 : Fw [6, 33] [(0, 16), (1, 11)] Ia I_81 := Fw_tr wI_70 (Fw_wd h_81.2.2.2.1 (by decide) (by decide))
      have r5_I_81 : I_81 1 5 = I_70 1 5 := h_81.2.2.2.1 1 5 (by decide) (by decide) (by decide)
      have r6_I_81 : I_81 1 6 = I_70 1 6 := h_81.2.2.2.1 1 6 (by decide) (by decide) (by decide)
      have r7_I_81 : I_81 1 7 = I_70 1 7 := h_81.2.2.2.1 1 7 (by decide) (by decide) (by decide)
      have r8_I_81 : I_81 1 8 = I_70 1 8 := h_81.2.2.2.1 1 8 (by decide) (by decide) (by decide)
      have r9_I_81 : I_81 1 9 = I_70 1 9 := h_81.2.2.2.1 1 9 (by decide) (by decide) (by decide)
      have r10_I_81 : I_81 1 10 = I_70 1 10 := h_81.2.2.2.1 1 10 (by decide) (by decide) (by decide)
      have r11_I_81 : I_81 1 11 = I_70 1 11 := h_81.2.2.2.1 1 11 (by decide) (by decide) (by decide)
      have r81_I_81 : I_81 8 1 = I_70 8 1 := h_81.2.2.2.1 8 1 (by decide) (by decide) (by decide)
      have rf_I_81 : FU (I_81 1 5) = FU (I_70 1 5) := by rw [r5_I_81]
      have y6_I_81 : I_81 6 = I_70 6 := Fw_row h_81.2.2.2.1 6 (by decide) (by decide) (by decide)
      have xv_I_81 := h_81.2.2.2.2
      refine rI hX (pc := 84) hT (Nat.le_refl 0) (Nat.le_refl 0) dX10_want_84 ?_
      exact ⟨⟨kI_81, kJ_81, cI_81, (Fw_wd wI_81 (by decide) (by decide)), (fun h9 => absurd (by omega) h9), (fun _ => ⟨(fun h9 => absurd h9 (by omega)), (fun _ => ⟨by omega, wI_81, xv_I_81.2, by omega, by rw [y6_I_81, y6_I_70, y6_I_62, eI_51, up2_row]⟩)⟩)⟩, frI_81⟩
    · simp only [w32_mod] at h_26
      refine ww_aload_n hX (pc := 29) dX10_want_29 rfl ?_
      refine ww_bipush hX (pc := 30) (x := (-5)) dX10_want_30 (by decide) ?_
      refine vI1 hX (pc := 32) sX10_89 (xs_0 hL) (c8_X10_refuse l0 hL hC hF (by omega) (by omega)) (by decide) (Nat.le_refl 0) (Nat.le_refl 0) (Nat.le_of_ble_eq_true rfl) dX10_want_32 (fun x_32 I_32 J_32 h_32 => ?_)
      obtain ⟨h_32, frI_32⟩ := h_32
      have kI_32 : Kp 0 49 Ia I_32 := Kp_tr (Kp_rf (a := 0) (b := 49)) (Kp_wd h_32.1 (by decide) (by decide))
      have kJ_32 : Kp 0 49 Ja J_32 := Kp_tr (Kp_rf (a := 0) (b := 49)) (Kp_wd h_32.2.1 (by decide) (by decide))
      have cI_32 : CX I_32 := h_32.2.2.1
      have qI_32 := XI_o cI_32.1
      have wI_32 : Fw [6, 33, 48] [(0, 16), (1, 11)] Ia I_32 := Fw_tr Fw_rf (Fw_wd h_32.2.2.2.1 (by decide) (by decide))
      have r5_I_32 : I_32 1 5 = Ia 1 5 := h_32.2.2.2.1 1 5 (by decide) (by decide) (by decide)
      have r6_I_32 : I_32 1 6 = Ia 1 6 := h_32.2.2.2.1 1 6 (by decide) (by decide) (by decide)
      have r7_I_32 : I_32 1 7 = Ia 1 7 := h_32.2.2.2.1 1 7 (by decide) (by decide) (by decide)
      have r8_I_32 : I_32 1 8 = Ia 1 8 := h_32.2.2.2.1 1 8 (by decide) (by decide) (by decide)
      have r9_I_32 : I_32 1 9 = Ia 1 9 := h_32.2.2.2.1 1 9 (by decide) (by decide) (by decide)
      have r10_I_32 : I_32 1 10 = Ia 1 10 := h_32.2.2.2.1 1 10 (by decide) (by decide) (by decide)
      have r11_I_32 : I_32 1 11 = Ia 1 11 := h_32.2.2.2.1 1 11 (by decide) (by decide) (by decide)
      have r81_I_32 : I_32 8 1 = Ia 8 1 := h_32.2.2.2.1 8 1 (by decide) (by decide) (by decide)
      have rf_I_32 : FU (I_32 1 5) = FU (Ia 1 5) := by rw [r5_I_32]
      have y6_I_32 : I_32 6 = Ia 6 := Fw_row h_32.2.2.2.1 6 (by decide) (by decide) (by decide)
      have xv_I_32 := h_32.2.2.2.2
      refine rI hX (pc := 35) hT (Nat.le_refl 0) (Nat.le_refl 0) dX10_want_35 ?_
      exact ⟨⟨kI_32, kJ_32, cI_32, (Fw_wd wI_32 (by decide) (by decide)), (fun h9 => absurd (by omega) h9), (fun _ => ⟨(fun _ => ⟨xv_I_32.1, h_32.2.2.2.1, xv_I_32.2⟩), (fun h9 => absurd h9 (by omega))⟩)⟩, frI_32⟩
  · simp only [w32_mod] at h_8
    refine ww_aload_n hX (pc := 11) dX10_want_11 rfl ?_
    refine ww_iconst hX (pc := 12) (x := (-1)) dX10_want_12 rfl ?_
    refine vI1 hX (pc := 13) sX10_89 (xs_0 hL) (c8_X10_refuse l0 hL hC hF (by omega) (by omega)) (by decide) (Nat.le_refl 0) (Nat.le_refl 0) (Nat.le_of_ble_eq_true rfl) dX10_want_13 (fun x_13 I_13 J_13 h_13 => ?_)
    obtain ⟨h_13, frI_13⟩ := h_13
    have kI_13 : Kp 0 49 Ia I_13 := Kp_tr (Kp_rf (a := 0) (b := 49)) (Kp_wd h_13.1 (by decide) (by decide))
    have kJ_13 : Kp 0 49 Ja J_13 := Kp_tr (Kp_rf (a := 0) (b := 49)) (Kp_wd h_13.2.1 (by decide) (by decide))
    have cI_13 : CX I_13 := h_13.2.2.1
    have qI_13 := XI_o cI_13.1
    have wI_13 : Fw [6, 33, 48] [(0, 16), (1, 11)] Ia I_13 := Fw_tr Fw_rf (Fw_wd h_13.2.2.2.1 (by decide) (by decide))
    have r5_I_13 : I_13 1 5 = Ia 1 5 := h_13.2.2.2.1 1 5 (by decide) (by decide) (by decide)
    have r6_I_13 : I_13 1 6 = Ia 1 6 := h_13.2.2.2.1 1 6 (by decide) (by decide) (by decide)
    have r7_I_13 : I_13 1 7 = Ia 1 7 := h_13.2.2.2.1 1 7 (by decide) (by decide) (by decide)
    have r8_I_13 : I_13 1 8 = Ia 1 8 := h_13.2.2.2.1 1 8 (by decide) (by decide) (by decide)
    have r9_I_13 : I_13 1 9 = Ia 1 9 := h_13.2.2.2.1 1 9 (by decide) (by decide) (by decide)
    have r10_I_13 : I_13 1 10 = Ia 1 10 := h_13.2.2.2.1 1 10 (by decide) (by decide) (by decide)
    have r11_I_13 : I_13 1 11 = Ia 1 11 := h_13.2.2.2.1 1 11 (by decide) (by decide) (by decide)
    have r81_I_13 : I_13 8 1 = Ia 8 1 := h_13.2.2.2.1 8 1 (by decide) (by decide) (by decide)
    have rf_I_13 : FU (I_13 1 5) = FU (Ia 1 5) := by rw [r5_I_13]
    have y6_I_13 : I_13 6 = Ia 6 := Fw_row h_13.2.2.2.1 6 (by decide) (by decide) (by decide)
    have xv_I_13 := h_13.2.2.2.2
    refine rI hX (pc := 16) hT (Nat.le_refl 0) (Nat.le_refl 0) dX10_want_16 ?_
    exact ⟨⟨kI_13, kJ_13, cI_13, (Fw_wd wI_13 (by decide) (by decide)), (fun _ => ⟨xv_I_13.1, h_13.2.2.2.1, xv_I_13.2⟩), (fun h9 => absurd h9 (by omega))⟩, frI_13⟩
set_option maxHeartbeats 4000000 in
set_option maxRecDepth 20000 in
theorem c8_X10_oil (l0 : Launch) {Ia Ja : aI1} {Ra : aR1} {Sa : aS1} (hL : LY Ra Sa) (hC : CX Ia) (hF : FRk Ia Ja) {a b : Int} (ha0 : -2147483648 ≤ a) (ha1 : a < 2147483648) (hb0 : -2147483648 ≤ b) (hb1 : b < 2147483648)  : CT l0 10 0 0 mX10_oil [kR (some 0), kI a, kI b] Ia Ja Ra Sa (cI (fun x I' J' => (Kp 0 49 Ia I' ∧ Kp 0 49 Ja J' ∧ CX I' ∧ Fw [2, 18, 33, 48] [(0, 16)] Ia I' ∧ (¬ (0 ≤ a ∧ a < Ia 1 5 ∧ 0 ≤ b ∧ b ≤ 99) → x = -1 ∧ RFc Ia I' (-1)) ∧ ((0 ≤ a ∧ a < Ia 1 5 ∧ 0 ≤ b ∧ b ≤ 99) → x = Ia 2 a.toNat ∧ Fw [2, 18, 33] [(0, 16)] Ia I' ∧ I' 0 16 = 0 ∧ I' 2 = up1 (Ia 2) a.toNat b)) ∧ FRk I' J') Ra Sa) := by
  refine ct_in pn_X10 (Nat.le_of_ble_eq_true rfl) (fun X hX hT hIn => ?_)
  have hX : aK l0 X cX10_oil 4 RX10 (some .int) 10 0 0 := hX
  change WW X 0 [some (kR (some 0)), some (kI a), some (kI b), none] [] Ia Ja Ra Sa 0 0
  have hI := hC.1
  have hq := XI_o hI
  refine ww_aload_n hX (pc := 0) dX10_oil_0 rfl ?_
  refine ww_getR hX (pc := 1) fX10_10 (by decide) (xs_0 hL) (xr_0_0 hL) dX10_oil_1 ?_
  refine ww_iload_n hX (pc := 4) dX10_oil_4 rfl ?_
  refine vI1 hX (pc := 5) sX10_120 (xs_1 hL) (c_X1_isLamp l0 hL hC.1 (by omega)) (by decide) (Nat.le_refl 0) (Nat.le_refl 0) (Nat.le_of_ble_eq_true rfl) dX10_oil_5 (fun x_5 I_5 J_5 h_5 => ?_)
  obtain ⟨rfl, rfl, h_5⟩ := h_5
  refine ww_if_eq hX (pc := 8) (tgt := 21) dX10_oil_8 (by decide) (fun h_8 => ?_) (fun h_8 => ?_)
  · simp only [w32_mod] at h_8
    refine ww_aload_n hX (pc := 21) dX10_oil_21 rfl ?_
    refine ww_iconst hX (pc := 22) (x := (-1)) dX10_oil_22 rfl ?_
    refine vI1 hX (pc := 23) sX10_89 (xs_0 hL) (c8_X10_refuse l0 hL hC hF (by omega) (by omega)) (by decide) (Nat.le_refl 0) (Nat.le_refl 0) (Nat.le_of_ble_eq_true rfl) dX10_oil_23 (fun x_23 I_23 J_23 h_23 => ?_)
    obtain ⟨h_23, frI_23⟩ := h_23
    have kI_23 : Kp 0 49 Ia I_23 := Kp_tr (Kp_rf (a := 0) (b := 49)) (Kp_wd h_23.1 (by decide) (by decide))
    have kJ_23 : Kp 0 49 Ja J_23 := Kp_tr (Kp_rf (a := 0) (b := 49)) (Kp_wd h_23.2.1 (by decide) (by decide))
    have cI_23 : CX I_23 := h_23.2.2.1
    have qI_23 := XI_o cI_23.1
    have wI_23 : Fw [2, 18, 33, 48] [(0, 16)] Ia I_23 := Fw_tr Fw_rf (Fw_wd h_23.2.2.2.1 (by decide) (by decide))
    have r5_I_23 : I_23 1 5 = Ia 1 5 := h_23.2.2.2.1 1 5 (by decide) (by decide) (by decide)
    have r6_I_23 : I_23 1 6 = Ia 1 6 := h_23.2.2.2.1 1 6 (by decide) (by decide) (by decide)
    have r7_I_23 : I_23 1 7 = Ia 1 7 := h_23.2.2.2.1 1 7 (by decide) (by decide) (by decide)
    have r8_I_23 : I_23 1 8 = Ia 1 8 := h_23.2.2.2.1 1 8 (by decide) (by decide) (by decide)
    have r9_I_23 : I_23 1 9 = Ia 1 9 := h_23.2.2.2.1 1 9 (by decide) (by decide) (by decide)
    have r10_I_23 : I_23 1 10 = Ia 1 10 := h_23.2.2.2.1 1 10 (by decide) (by decide) (by decide)
    have r11_I_23 : I_23 1 11 = Ia 1 11 := h_23.2.2.2.1 1 11 (by decide) (by decide) (by decide)
    have r81_I_23 : I_23 8 1 = Ia 8 1 := h_23.2.2.2.1 8 1 (by decide) (by decide) (by decide)
    have rf_I_23 : FU (I_23 1 5) = FU (Ia 1 5) := by rw [r5_I_23]
    have y2_I_23 : I_23 2 = Ia 2 := Fw_row h_23.2.2.2.1 2 (by decide) (by decide) (by decide)
    have xv_I_23 := h_23.2.2.2.2
    refine rI hX (pc := 26) hT (Nat.le_refl 0) (Nat.le_refl 0) dX10_oil_26 ?_
    exact ⟨⟨kI_23, kJ_23, cI_23, (Fw_wd wI_23 (by decide) (by decide)), (fun _ => ⟨xv_I_23.1, h_23.2.2.2.1, xv_I_23.2⟩), (fun h9 => absurd h9 (by omega))⟩, frI_23⟩
  · simp only [w32_mod] at h_8
    have k_5 := h_5.2.mp (by omega)
    clear h_5
    refine ww_iload_n hX (pc := 11) dX10_oil_11 rfl ?_
    refine ww_if_lt hX (pc := 12) (tgt := 21) dX10_oil_12 (by decide) (fun h_12 => ?_) (fun h_12 => ?_)
    · simp only [w32_mod] at h_12
      refine ww_aload_n hX (pc := 21) dX10_oil_21 rfl ?_
      refine ww_iconst hX (pc := 22) (x := (-1)) dX10_oil_22 rfl ?_
      refine vI1 hX (pc := 23) sX10_89 (xs_0 hL) (c8_X10_refuse l0 hL hC hF (by omega) (by omega)) (by decide) (Nat.le_refl 0) (Nat.le_refl 0) (Nat.le_of_ble_eq_true rfl) dX10_oil_23 (fun x_23 I_23 J_23 h_23 => ?_)
      obtain ⟨h_23, frI_23⟩ := h_23
      have kI_23 : Kp 0 49 Ia I_23 := Kp_tr (Kp_rf (a := 0) (b := 49)) (Kp_wd h_23.1 (by decide) (by decide))
      have kJ_23 : Kp 0 49 Ja J_23 := Kp_tr (Kp_rf (a := 0) (b := 49)) (Kp_wd h_23.2.1 (by decide) (by decide))
      have cI_23 : CX I_23 := h_23.2.2.1
      have qI_23 := XI_o cI_23.1
      have wI_23 : Fw [2, 18, 33, 48] [(0, 16)] Ia I_23 := Fw_tr Fw_rf (Fw_wd h_23.2.2.2.1 (by decide) (by decide))
      have r5_I_23 : I_23 1 5 = Ia 1 5 := h_23.2.2.2.1 1 5 (by decide) (by decide) (by decide)
      have r6_I_23 : I_23 1 6 = Ia 1 6 := h_23.2.2.2.1 1 6 (by decide) (by decide) (by decide)
      have r7_I_23 : I_23 1 7 = Ia 1 7 := h_23.2.2.2.1 1 7 (by decide) (by decide) (by decide)
      have r8_I_23 : I_23 1 8 = Ia 1 8 := h_23.2.2.2.1 1 8 (by decide) (by decide) (by decide)
      have r9_I_23 : I_23 1 9 = Ia 1 9 := h_23.2.2.2.1 1 9 (by decide) (by decide) (by decide)
      have r10_I_23 : I_23 1 10 = Ia 1 10 := h_23.2.2.2.1 1 10 (by decide) (by decide) (by decide)
      have r11_I_23 : I_23 1 11 = Ia 1 11 := h_23.2.2.2.1 1 11 (by decide) (by decide) (by decide)
      have r81_I_23 : I_23 8 1 = Ia 8 1 := h_23.2.2.2.1 8 1 (by decide) (by decide) (by decide)
      have rf_I_23 : FU (I_23 1 5) = FU (Ia 1 5) := by rw [r5_I_23]
      have y2_I_23 : I_23 2 = Ia 2 := Fw_row h_23.2.2.2.1 2 (by decide) (by decide) (by decide)
      have xv_I_23 := h_23.2.2.2.2
      refine rI hX (pc := 26) hT (Nat.le_refl 0) (Nat.le_refl 0) dX10_oil_26 ?_
      exact ⟨⟨kI_23, kJ_23, cI_23, (Fw_wd wI_23 (by decide) (by decide)), (fun _ => ⟨xv_I_23.1, h_23.2.2.2.1, xv_I_23.2⟩), (fun h9 => absurd h9 (by omega))⟩, frI_23⟩
    · simp only [w32_mod] at h_12
      refine ww_iload_n hX (pc := 15) dX10_oil_15 rfl ?_
      refine ww_bipush hX (pc := 16) (x := 99) dX10_oil_16 (by decide) ?_
      refine ww_icmp_le hX (pc := 18) (tgt := 27) dX10_oil_18 (by decide) (fun h_18 => ?_) (fun h_18 => ?_)
      · simp only [w32_mod] at h_18
        refine ww_aload_n hX (pc := 27) dX10_oil_27 rfl ?_
        refine ww_getR hX (pc := 28) fX10_10 (by decide) (xs_0 hL) (xr_0_0 hL) dX10_oil_28 ?_
        refine ww_getR hX (pc := 31) fX10_99 (by decide) (xs_1 hL) (xr_1_0 hL) dX10_oil_31 ?_
        refine ww_iload_n hX (pc := 34) dX10_oil_34 rfl ?_
        refine ww_iald hX (pc := 35) (xs_2 hL) (by decide) (by omega) (by omega) dX10_oil_35 ?_
        refine ww_nmI (fun v_36 hv_36 => ?_)
        refine ww_istore_n hX (pc := 36) (lv' := [some (kR (some 0)), some (kI a), some (kI b), some (kI v_36)]) dX10_oil_36 (by decide) rfl rfl ?_
        refine ww_aload_n hX (pc := 37) dX10_oil_37 rfl ?_
        refine ww_getR hX (pc := 38) fX10_10 (by decide) (xs_0 hL) (xr_0_0 hL) dX10_oil_38 ?_
        refine ww_getR hX (pc := 41) fX10_99 (by decide) (xs_1 hL) (xr_1_0 hL) dX10_oil_41 ?_
        refine ww_iload_n hX (pc := 44) dX10_oil_44 rfl ?_
        refine ww_iload_n hX (pc := 45) dX10_oil_45 rfl ?_
        refine ww_iast hX (pc := 46) (xs_2 hL) (by decide) (by omega) (by omega) dX10_oil_46 ?_
        refine ww_nmH (fun I_46 eI_46 => ?_)
        have kI_46 : Kp 0 49 Ia I_46 := by rw [eI_46]; exact Kp_up (Kp_rf (a := 0) (b := 49)) _ _ (by decide)
        have cI_46 : CX I_46 := by rw [eI_46]; exact CX_up hC (by decide)
        have qI_46 := XI_o cI_46.1
        have r5_I_46 : I_46 1 5 = Ia 1 5 := by rw [eI_46, up2_off _ _ _ (by decide)]
        have r6_I_46 : I_46 1 6 = Ia 1 6 := by rw [eI_46, up2_off _ _ _ (by decide)]
        have r8_I_46 : I_46 1 8 = Ia 1 8 := by rw [eI_46, up2_off _ _ _ (by decide)]
        have r9_I_46 : I_46 1 9 = Ia 1 9 := by rw [eI_46, up2_off _ _ _ (by decide)]
        have r10_I_46 : I_46 1 10 = Ia 1 10 := by rw [eI_46, up2_off _ _ _ (by decide)]
        have r11_I_46 : I_46 1 11 = Ia 1 11 := by rw [eI_46, up2_off _ _ _ (by decide)]
        have rf_I_46 : FU (I_46 1 5) = FU (Ia 1 5) := by rw [r5_I_46]
        have wI_46 : Fw [2, 18, 33] [(0, 16)] Ia I_46 := by rw [eI_46]; exact Fw_up Fw_rf (Or.inl (by decide))
        have r7_I_46 : I_46 1 7 = Ia 1 7 := by rw [eI_46, up2_n _ _ (Or.inl (by decide))]
        refine ww_aload_n hX (pc := 47) dX10_oil_47 rfl ?_
        refine ww_getR hX (pc := 48) fX10_48 (by decide) (xs_0 hL) (xr_0_5 hL) dX10_oil_48 ?_
        refine ww_iconst hX (pc := 51) (x := 0) dX10_oil_51 rfl ?_
        refine ww_putZ hX (pc := 52) (fun h9 => absurd h9 (by decide)) gX10_124 rfl (by decide) (xs_18 hL) dX10_oil_52 ?_
        refine ww_nmH (fun I_52 eI_52 => ?_)
        have kI_52 : Kp 0 49 Ia I_52 := by rw [eI_52]; exact Kp_up kI_46 _ _ (by decide)
        have cI_52 : CX I_52 := by rw [eI_52]; exact CX_up cI_46 (by decide)
        have qI_52 := XI_o cI_52.1
        have r5_I_52 : I_52 1 5 = I_46 1 5 := by rw [eI_52, up2_off _ _ _ (by decide)]
        have r6_I_52 : I_52 1 6 = I_46 1 6 := by rw [eI_52, up2_off _ _ _ (by decide)]
        have r8_I_52 : I_52 1 8 = I_46 1 8 := by rw [eI_52, up2_off _ _ _ (by decide)]
        have r9_I_52 : I_52 1 9 = I_46 1 9 := by rw [eI_52, up2_off _ _ _ (by decide)]
        have r10_I_52 : I_52 1 10 = I_46 1 10 := by rw [eI_52, up2_off _ _ _ (by decide)]
        have r11_I_52 : I_52 1 11 = I_46 1 11 := by rw [eI_52, up2_off _ _ _ (by decide)]
        have rf_I_52 : FU (I_52 1 5) = FU (I_46 1 5) := by rw [r5_I_52]
        have wI_52 : Fw [2, 18, 33] [(0, 16)] Ia I_52 := by rw [eI_52]; exact Fw_up wI_46 (Or.inl (by decide))
        have r7_I_52 : I_52 1 7 = I_46 1 7 := by rw [eI_52, up2_n _ _ (Or.inl (by decide))]
        have y2_I_52 : I_52 2 = I_46 2 := by rw [eI_52, up2_off _ _ _ (by decide)]
        have frI_52 : FRk I_52 Ja := FRk_oil hF eI_46 eI_52
        refine ww_aload_n hX (pc := 55) dX10_oil_55 rfl ?_
        refine ww_getR hX (pc := 56) fX10_64 (by decide) (xs_0 hL) (xr_0_7 hL) dX10_oil_56 ?_
        refine ww_iconst hX (pc := 59) (x := 0) dX10_oil_59 rfl ?_
        refine ww_putZ hX (pc := 60) (fun h9 => absurd h9 (by decide)) gX10_128 rfl (by decide) (xs_33 hL) dX10_oil_60 ?_
        refine ww_nmH (fun I_60 eI_60 => ?_)
        have kI_60 : Kp 0 49 Ia I_60 := by rw [eI_60]; exact Kp_up kI_52 _ _ (by decide)
        have cI_60 : CX I_60 := by rw [eI_60]; exact CX_up cI_52 (by decide)
        have qI_60 := XI_o cI_60.1
        have r5_I_60 : I_60 1 5 = I_52 1 5 := by rw [eI_60, up2_off _ _ _ (by decide)]
        have r6_I_60 : I_60 1 6 = I_52 1 6 := by rw [eI_60, up2_off _ _ _ (by decide)]
        have r8_I_60 : I_60 1 8 = I_52 1 8 := by rw [eI_60, up2_off _ _ _ (by decide)]
        have r9_I_60 : I_60 1 9 = I_52 1 9 := by rw [eI_60, up2_off _ _ _ (by decide)]
        have r10_I_60 : I_60 1 10 = I_52 1 10 := by rw [eI_60, up2_off _ _ _ (by decide)]
        have r11_I_60 : I_60 1 11 = I_52 1 11 := by rw [eI_60, up2_off _ _ _ (by decide)]
        have rf_I_60 : FU (I_60 1 5) = FU (I_52 1 5) := by rw [r5_I_60]
        have wI_60 : Fw [2, 18, 33] [(0, 16)] Ia I_60 := by rw [eI_60]; exact Fw_up wI_52 (Or.inl (by decide))
        have r7_I_60 : I_60 1 7 = I_52 1 7 := by rw [eI_60, up2_n _ _ (Or.inl (by decide))]
        have y2_I_60 : I_60 2 = I_52 2 := by rw [eI_60, up2_off _ _ _ (by decide)]
        have frI_60 : FRk I_60 Ja := by rw [eI_60]; exact FRk_up frI_52 (by decide)
        refine ww_aload_n hX (pc := 63) dX10_oil_63 rfl ?_
        refine ww_iload_n hX (pc := 64) dX10_oil_64 rfl ?_
        refine vI1 hX (pc := 65) sX10_114 (xs_0 hL) (c8_X10_accept l0 hL cI_60 frI_60) (by decide) (Nat.le_refl 0) (Nat.le_refl 0) (Nat.le_of_ble_eq_true rfl) dX10_oil_65 (fun x_65 I_65 J_65 h_65 => ?_)
        obtain ⟨h_65, frI_65⟩ := h_65
        have kI_65 : Kp 0 49 Ia I_65 := Kp_tr kI_60 (Kp_wd h_65.1 (by decide) (by decide))
        have kJ_65 : Kp 0 49 Ja J_65 := Kp_tr (Kp_rf (a := 0) (b := 49)) (Kp_wd h_65.2.1 (by decide) (by decide))
        have cI_65 : CX I_65 := h_65.2.2.1
        have qI_65 := XI_o cI_65.1
        have wI_65 : Fw [2, 18, 33] [(0, 16)] Ia I_65 := Fw_tr wI_60 (Fw_wd h_65.2.2.2.1 (by decide) (by decide))
        have r5_I_65 : I_65 1 5 = I_60 1 5 := h_65.2.2.2.1 1 5 (by decide) (by decide) (by decide)
        have r6_I_65 : I_65 1 6 = I_60 1 6 := h_65.2.2.2.1 1 6 (by decide) (by decide) (by decide)
        have r7_I_65 : I_65 1 7 = I_60 1 7 := h_65.2.2.2.1 1 7 (by decide) (by decide) (by decide)
        have r8_I_65 : I_65 1 8 = I_60 1 8 := h_65.2.2.2.1 1 8 (by decide) (by decide) (by decide)
        have r9_I_65 : I_65 1 9 = I_60 1 9 := h_65.2.2.2.1 1 9 (by decide) (by decide) (by decide)
        have r10_I_65 : I_65 1 10 = I_60 1 10 := h_65.2.2.2.1 1 10 (by decide) (by decide) (by decide)
        have r11_I_65 : I_65 1 11 = I_60 1 11 := h_65.2.2.2.1 1 11 (by decide) (by decide) (by decide)
        have r81_I_65 : I_65 8 1 = I_60 8 1 := h_65.2.2.2.1 8 1 (by decide) (by decide) (by decide)
        have rf_I_65 : FU (I_65 1 5) = FU (I_60 1 5) := by rw [r5_I_65]
        have y2_I_65 : I_65 2 = I_60 2 := Fw_row h_65.2.2.2.1 2 (by decide) (by decide) (by decide)
        have xv_I_65 := h_65.2.2.2.2
        refine rI hX (pc := 68) hT (Nat.le_refl 0) (Nat.le_refl 0) dX10_oil_68 ?_
        exact ⟨⟨kI_65, kJ_65, cI_65, (Fw_wd wI_65 (by decide) (by decide)), (fun h9 => absurd (by omega) h9), (fun _ => ⟨by rw [xv_I_65.1, hv_36], wI_65, xv_I_65.2, by rw [y2_I_65, y2_I_60, y2_I_52, eI_46, up2_row]⟩)⟩, frI_65⟩
      · simp only [w32_mod] at h_18
        refine ww_aload_n hX (pc := 21) dX10_oil_21 rfl ?_
        refine ww_iconst hX (pc := 22) (x := (-1)) dX10_oil_22 rfl ?_
        refine vI1 hX (pc := 23) sX10_89 (xs_0 hL) (c8_X10_refuse l0 hL hC hF (by omega) (by omega)) (by decide) (Nat.le_refl 0) (Nat.le_refl 0) (Nat.le_of_ble_eq_true rfl) dX10_oil_23 (fun x_23 I_23 J_23 h_23 => ?_)
        obtain ⟨h_23, frI_23⟩ := h_23
        have kI_23 : Kp 0 49 Ia I_23 := Kp_tr (Kp_rf (a := 0) (b := 49)) (Kp_wd h_23.1 (by decide) (by decide))
        have kJ_23 : Kp 0 49 Ja J_23 := Kp_tr (Kp_rf (a := 0) (b := 49)) (Kp_wd h_23.2.1 (by decide) (by decide))
        have cI_23 : CX I_23 := h_23.2.2.1
        have qI_23 := XI_o cI_23.1
        have wI_23 : Fw [2, 18, 33, 48] [(0, 16)] Ia I_23 := Fw_tr Fw_rf (Fw_wd h_23.2.2.2.1 (by decide) (by decide))
        have r5_I_23 : I_23 1 5 = Ia 1 5 := h_23.2.2.2.1 1 5 (by decide) (by decide) (by decide)
        have r6_I_23 : I_23 1 6 = Ia 1 6 := h_23.2.2.2.1 1 6 (by decide) (by decide) (by decide)
        have r7_I_23 : I_23 1 7 = Ia 1 7 := h_23.2.2.2.1 1 7 (by decide) (by decide) (by decide)
        have r8_I_23 : I_23 1 8 = Ia 1 8 := h_23.2.2.2.1 1 8 (by decide) (by decide) (by decide)
        have r9_I_23 : I_23 1 9 = Ia 1 9 := h_23.2.2.2.1 1 9 (by decide) (by decide) (by decide)
        have r10_I_23 : I_23 1 10 = Ia 1 10 := h_23.2.2.2.1 1 10 (by decide) (by decide) (by decide)
        have r11_I_23 : I_23 1 11 = Ia 1 11 := h_23.2.2.2.1 1 11 (by decide) (by decide) (by decide)
        have r81_I_23 : I_23 8 1 = Ia 8 1 := h_23.2.2.2.1 8 1 (by decide) (by decide) (by decide)
        have rf_I_23 : FU (I_23 1 5) = FU (Ia 1 5) := by rw [r5_I_23]
        have y2_I_23 : I_23 2 = Ia 2 := Fw_row h_23.2.2.2.1 2 (by decide) (by decide) (by decide)
        have xv_I_23 := h_23.2.2.2.2
        refine rI hX (pc := 26) hT (Nat.le_refl 0) (Nat.le_refl 0) dX10_oil_26 ?_
        exact ⟨⟨kI_23, kJ_23, cI_23, (Fw_wd wI_23 (by decide) (by decide)), (fun _ => ⟨xv_I_23.1, h_23.2.2.2.1, xv_I_23.2⟩), (fun h9 => absurd h9 (by omega))⟩, frI_23⟩
set_option maxHeartbeats 4000000 in
set_option maxRecDepth 20000 in
theorem c8_X10_lamps (l0 : Launch) {Ia Ja : aI1} {Ra : aR1} {Sa : aS1} (hL : LY Ra Sa) (hC : CX Ia) (hF : FRk Ia Ja) {a : Int} (ha0 : -2147483648 ≤ a) (ha1 : a < 2147483648)  : CT l0 10 0 0 mX10_lamps [kR (some 0), kI a] Ia Ja Ra Sa (cI (fun x I' J' => (Kp 0 49 Ia I' ∧ Kp 0 49 Ja J' ∧ CX I' ∧ Fw [2, 3, 18, 19, 20, 21, 22, 23, 24, 25, 26, 27, 28, 29, 30, 33, 48] [(0, 16), (1, 5), (1, 7), (1, 8), (1, 10), (1, 11)] Ia I' ∧ (¬ (1 ≤ a ∧ a ≤ 8) → x = -1 ∧ RFc Ia I' (-1)) ∧ ((1 ≤ a ∧ a ≤ 8) → x = Ia 1 5 ∧ Fw [2, 3, 18, 19, 20, 21, 22, 23, 24, 25, 26, 27, 28, 29, 30, 33] [(0, 16), (1, 5), (1, 7), (1, 8), (1, 10), (1, 11)] Ia I' ∧ I' 1 5 = a ∧ I' 1 7 = 0 ∧ (∀ j, j < 8 → I' 2 j = 1) ∧ I' 0 16 = 0 ∧ I' 1 8 = 0 ∧ I' 1 10 = 0 ∧ I' 1 11 = 0 ∧ (∀ s, s < 256 → I' 3 s = -1))) ∧ FRk I' J') Ra Sa) := by
  refine ct_in pn_X10 (Nat.le_of_ble_eq_true rfl) (fun X hX hT hIn => ?_)
  have hX : aK l0 X cX10_lamps 3 RX10 (some .int) 10 0 0 := hX
  change WW X 0 [some (kR (some 0)), some (kI a), none] [] Ia Ja Ra Sa 0 0
  have hI := hC.1
  have hq := XI_o hI
  refine ww_iload_n hX (pc := 0) dX10_lamps_0 rfl ?_
  refine ww_iconst hX (pc := 1) (x := 1) dX10_lamps_1 rfl ?_
  refine ww_icmp_lt hX (pc := 2) (tgt := 11) dX10_lamps_2 (by decide) (fun h_2 => ?_) (fun h_2 => ?_)
  · simp only [w32_mod] at h_2
    refine ww_aload_n hX (pc := 11) dX10_lamps_11 rfl ?_
    refine ww_iconst hX (pc := 12) (x := (-1)) dX10_lamps_12 rfl ?_
    refine vI1 hX (pc := 13) sX10_89 (xs_0 hL) (c8_X10_refuse l0 hL hC hF (by omega) (by omega)) (by decide) (Nat.le_refl 0) (Nat.le_refl 0) (Nat.le_of_ble_eq_true rfl) dX10_lamps_13 (fun x_13 I_13 J_13 h_13 => ?_)
    obtain ⟨h_13, frI_13⟩ := h_13
    have kI_13 : Kp 0 49 Ia I_13 := Kp_tr (Kp_rf (a := 0) (b := 49)) (Kp_wd h_13.1 (by decide) (by decide))
    have kJ_13 : Kp 0 49 Ja J_13 := Kp_tr (Kp_rf (a := 0) (b := 49)) (Kp_wd h_13.2.1 (by decide) (by decide))
    have cI_13 : CX I_13 := h_13.2.2.1
    have qI_13 := XI_o cI_13.1
    have wI_13 : Fw [2, 3, 18, 19, 20, 21, 22, 23, 24, 25, 26, 27, 28, 29, 30, 33, 48] [(0, 16), (1, 5), (1, 7), (1, 8), (1, 10), (1, 11)] Ia I_13 := Fw_tr Fw_rf (Fw_wd h_13.2.2.2.1 (by decide) (by decide))
    have r5_I_13 : I_13 1 5 = Ia 1 5 := h_13.2.2.2.1 1 5 (by decide) (by decide) (by decide)
    have r6_I_13 : I_13 1 6 = Ia 1 6 := h_13.2.2.2.1 1 6 (by decide) (by decide) (by decide)
    have r7_I_13 : I_13 1 7 = Ia 1 7 := h_13.2.2.2.1 1 7 (by decide) (by decide) (by decide)
    have r8_I_13 : I_13 1 8 = Ia 1 8 := h_13.2.2.2.1 1 8 (by decide) (by decide) (by decide)
    have r9_I_13 : I_13 1 9 = Ia 1 9 := h_13.2.2.2.1 1 9 (by decide) (by decide) (by decide)
    have r10_I_13 : I_13 1 10 = Ia 1 10 := h_13.2.2.2.1 1 10 (by decide) (by decide) (by decide)
    have r11_I_13 : I_13 1 11 = Ia 1 11 := h_13.2.2.2.1 1 11 (by decide) (by decide) (by decide)
    have r81_I_13 : I_13 8 1 = Ia 8 1 := h_13.2.2.2.1 8 1 (by decide) (by decide) (by decide)
    have rf_I_13 : FU (I_13 1 5) = FU (Ia 1 5) := by rw [r5_I_13]
    have y2_I_13 : I_13 2 = Ia 2 := Fw_row h_13.2.2.2.1 2 (by decide) (by decide) (by decide)
    have y3_I_13 : I_13 3 = Ia 3 := Fw_row h_13.2.2.2.1 3 (by decide) (by decide) (by decide)
    have xv_I_13 := h_13.2.2.2.2
    refine rI hX (pc := 16) hT (Nat.le_refl 0) (Nat.le_refl 0) dX10_lamps_16 ?_
    exact ⟨⟨kI_13, kJ_13, cI_13, (Fw_wd wI_13 (by decide) (by decide)), (fun _ => ⟨xv_I_13.1, h_13.2.2.2.1, xv_I_13.2⟩), (fun h9 => absurd h9 (by omega))⟩, frI_13⟩
  · simp only [w32_mod] at h_2
    refine ww_iload_n hX (pc := 5) dX10_lamps_5 rfl ?_
    refine ww_bipush hX (pc := 6) (x := 8) dX10_lamps_6 (by decide) ?_
    refine ww_icmp_le hX (pc := 8) (tgt := 17) dX10_lamps_8 (by decide) (fun h_8 => ?_) (fun h_8 => ?_)
    · simp only [w32_mod] at h_8
      refine ww_aload_n hX (pc := 17) dX10_lamps_17 rfl ?_
      refine ww_getR hX (pc := 18) fX10_10 (by decide) (xs_0 hL) (xr_0_0 hL) dX10_lamps_18 ?_
      refine ww_getI hX (pc := 21) fX10_93 (by decide) (xs_1 hL) dX10_lamps_21 ?_
      refine ww_nmI (fun v_24 hv_24 => ?_)
      refine ww_istore_n hX (pc := 24) (lv' := [some (kR (some 0)), some (kI a), some (kI v_24)]) dX10_lamps_24 (by decide) rfl rfl ?_
      refine ww_aload_n hX (pc := 25) dX10_lamps_25 rfl ?_
      refine ww_getR hX (pc := 26) fX10_10 (by decide) (xs_0 hL) (xr_0_0 hL) dX10_lamps_26 ?_
      refine ww_iload_n hX (pc := 29) dX10_lamps_29 rfl ?_
      refine ww_putI hX (pc := 30) (fun h9 => absurd h9 (by decide)) gX10_93 rfl (xs_1 hL) dX10_lamps_30 ?_
      refine ww_nmH (fun I_30 eI_30 => ?_)
      have kI_30 : Kp 0 49 Ia I_30 := by rw [eI_30]; exact Kp_up (Kp_rf (a := 0) (b := 49)) _ _ (by decide)
      have wI_30 : Fw [2, 3, 18, 19, 20, 21, 22, 23, 24, 25, 26, 27, 28, 29, 30, 33] [(0, 16), (1, 5), (1, 7), (1, 8), (1, 10), (1, 11)] Ia I_30 := by rw [eI_30]; exact Fw_up Fw_rf (Or.inr (by decide))
      have r7_I_30 : I_30 1 7 = Ia 1 7 := by rw [eI_30, up2_n _ _ (Or.inr (by decide))]
      have y2_I_30 : I_30 2 = Ia 2 := by rw [eI_30, up2_off _ _ _ (by decide)]
      have y3_I_30 : I_30 3 = Ia 3 := by rw [eI_30, up2_off _ _ _ (by decide)]
      refine ww_aload_n hX (pc := 33) dX10_lamps_33 rfl ?_
      refine ww_getR hX (pc := 34) fX10_10 (by decide) (xs_0 hL) (xr_0_0 hL) dX10_lamps_34 ?_
      refine ww_iconst hX (pc := 37) (x := 0) dX10_lamps_37 rfl ?_
      refine ww_putI hX (pc := 38) (fun h9 => absurd h9 (by decide)) gX10_96 rfl (xs_1 hL) dX10_lamps_38 ?_
      refine ww_nmH (fun I_38 eI_38 => ?_)
      have kI_38 : Kp 0 49 Ia I_38 := by rw [eI_38]; exact Kp_up kI_30 _ _ (by decide)
      have wI_38 : Fw [2, 3, 18, 19, 20, 21, 22, 23, 24, 25, 26, 27, 28, 29, 30, 33] [(0, 16), (1, 5), (1, 7), (1, 8), (1, 10), (1, 11)] Ia I_38 := by rw [eI_38]; exact Fw_up wI_30 (Or.inr (by decide))
      have y2_I_38 : I_38 2 = I_30 2 := by rw [eI_38, up2_off _ _ _ (by decide)]
      have y3_I_38 : I_38 3 = I_30 3 := by rw [eI_38, up2_off _ _ _ (by decide)]
      refine ww_aload_n hX (pc := 41) dX10_lamps_41 rfl ?_
      refine ww_getR hX (pc := 42) fX10_10 (by decide) (xs_0 hL) (xr_0_0 hL) dX10_lamps_42 ?_
      refine ww_getR hX (pc := 45) fX10_99 (by decide) (xs_1 hL) (xr_1_0 hL) dX10_lamps_45 ?_
      refine ww_iconst hX (pc := 48) (x := 1) dX10_lamps_48 rfl ?_
      refine sV2 hX (pc := 49) sX10_102 (c_J7_fill_53178 l0 (xs_2 hL) (by decide)) (by decide) (Nat.le_refl 0) (Nat.le_refl 0) (Nat.le_of_ble_eq_true rfl) dX10_lamps_49 (fun I_49 J_49 h_49 => ?_)
      obtain ⟨rfl, eI_49⟩ := h_49
      have kI_49 : Kp 0 49 Ia I_49 := by rw [eI_49]; exact Kp_upR kI_38 _ (by decide)
      have wI_49 : Fw [2, 3, 18, 19, 20, 21, 22, 23, 24, 25, 26, 27, 28, 29, 30, 33] [(0, 16), (1, 5), (1, 7), (1, 8), (1, 10), (1, 11)] Ia I_49 := by rw [eI_49]; exact Fw_upR wI_38 (by decide)
      have r7_I_49 : I_49 1 7 = I_38 1 7 := by rw [eI_49, upR_n _ _ (by decide)]
      have y3_I_49 : I_49 3 = I_38 3 := by rw [eI_49, upR_n _ _ (by decide)]
      refine ww_aload_n hX (pc := 52) dX10_lamps_52 rfl ?_
      refine ww_getR hX (pc := 53) fX10_10 (by decide) (xs_0 hL) (xr_0_0 hL) dX10_lamps_53 ?_
      refine vV0 hX (pc := 56) sX10_108 (xs_1 hL) (c_X1_forget l0 hL) (by decide) (Nat.le_refl 0) (Nat.le_refl 0) (Nat.le_of_ble_eq_true rfl) dX10_lamps_56 (fun I_56 J_56 h_56 => ?_)
      obtain ⟨rfl, eI_56⟩ := h_56
      have kI_56 : Kp 0 49 Ia I_56 := by rw [eI_56]; exact Kp_up (Kp_up (Kp_up (Kp_upR kI_49 _ (by decide)) _ _ (by decide)) _ _ (by decide)) _ _ (by decide)
      have cI_56 : CX I_56 := by
        refine CX_forget hC (fun a h1 h2 h3 => ?_) ?_ ?_ ?_ ?_ ?_ ?_ (fun s hs => ?_)
        · rw [eI_56, up2_off _ _ _ h1, up2_off _ _ _ h1, up2_off _ _ _ h1, upR_n _ _ h3, eI_49, upR_n _ _ h2, eI_38, up2_off _ _ _ h1, eI_30, up2_off _ _ _ h1]
        · rw [eI_56, up2_n _ _ (Or.inr (by decide)), up2_n _ _ (Or.inr (by decide)), up2_n _ _ (Or.inr (by decide)), upR_n _ _ (by decide), eI_49, upR_n _ _ (by decide), eI_38, up2_n _ _ (Or.inr (by decide)), eI_30, up2_s]; omega
        · rw [eI_56, up2_n _ _ (Or.inr (by decide)), up2_n _ _ (Or.inr (by decide)), up2_n _ _ (Or.inr (by decide)), upR_n _ _ (by decide), eI_49, upR_n _ _ (by decide), eI_38, up2_n _ _ (Or.inr (by decide)), eI_30, up2_n _ _ (Or.inr (by decide))]; omega
        · rw [eI_56, up2_n _ _ (Or.inr (by decide)), up2_n _ _ (Or.inr (by decide)), up2_s]
        · rw [eI_56, up2_n _ _ (Or.inr (by decide)), up2_n _ _ (Or.inr (by decide)), up2_n _ _ (Or.inr (by decide)), upR_n _ _ (by decide), eI_49, upR_n _ _ (by decide), eI_38, up2_n _ _ (Or.inr (by decide)), eI_30, up2_n _ _ (Or.inr (by decide))]
        · rw [eI_56, up2_n _ _ (Or.inr (by decide)), up2_s]
        · rw [eI_56, up2_s]
        · rw [eI_56, up2_off _ _ _ (by decide), up2_off _ _ _ (by decide), up2_off _ _ _ (by decide), upR_s, if_pos hs]
      have wI_56 : Fw [2, 3, 18, 19, 20, 21, 22, 23, 24, 25, 26, 27, 28, 29, 30, 33] [(0, 16), (1, 5), (1, 7), (1, 8), (1, 10), (1, 11)] Ia I_56 := by rw [eI_56]; exact Fw_up (Fw_up (Fw_up (Fw_upR wI_49 (by decide)) (Or.inr (by decide))) (Or.inr (by decide))) (Or.inr (by decide))
      have v8_I_56 : I_56 1 8 = 0 := by rw [eI_56, up2_n _ _ (Or.inr (by decide)), up2_n _ _ (Or.inr (by decide)), up2_s]
      have v10_I_56 : I_56 1 10 = 0 := by rw [eI_56, up2_n _ _ (Or.inr (by decide)), up2_s]
      have v11_I_56 : I_56 1 11 = 0 := by rw [eI_56, up2_s]
      have v3_I_56 : ∀ s, s < 256 → I_56 3 s = -1 := fun s hs => by rw [eI_56, up2_off _ _ _ (by decide), up2_off _ _ _ (by decide), up2_off _ _ _ (by decide), upR_s, if_pos hs]
      have v5_I_56 : I_56 1 5 = a := by rw [eI_56, up2_n _ _ (Or.inr (by decide)), up2_n _ _ (Or.inr (by decide)), up2_n _ _ (Or.inr (by decide)), upR_n _ _ (by decide), eI_49, upR_n _ _ (by decide), eI_38, up2_n _ _ (Or.inr (by decide)), eI_30, up2_s]
      have v7_I_56 : I_56 1 7 = 0 := by rw [eI_56, up2_n _ _ (Or.inr (by decide)), up2_n _ _ (Or.inr (by decide)), up2_n _ _ (Or.inr (by decide)), upR_n _ _ (by decide), eI_49, upR_n _ _ (by decide), eI_38, up2_s]
      have v2_I_56 : ∀ j, j < 8 → I_56 2 j = 1 := fun j hj => by rw [eI_56, up2_off _ _ _ (by decide), up2_off _ _ _ (by decide), up2_off _ _ _ (by decide), upR_n _ _ (by decide), eI_49, upR_s, if_pos hj]
      refine ww_aload_n hX (pc := 59) dX10_lamps_59 rfl ?_
      refine vV0 hX (pc := 60) sX10_111 (xs_0 hL) (c8_X10_codeChanged l0 hL cI_56) (by decide) (Nat.le_refl 0) (Nat.le_refl 0) (Nat.le_of_ble_eq_true rfl) dX10_lamps_60 (fun I_60 J_60 h_60 => ?_)
      obtain ⟨h_60, frI_60⟩ := h_60
      have kI_60 : Kp 0 49 Ia I_60 := Kp_tr kI_56 (Kp_wd h_60.1 (by decide) (by decide))
      have kJ_60 : Kp 0 49 Ja J_60 := Kp_tr (Kp_rf (a := 0) (b := 49)) (Kp_wd h_60.2.1 (by decide) (by decide))
      have cI_60 : CX I_60 := h_60.2.2.1
      have qI_60 := XI_o cI_60.1
      have wI_60 : Fw [2, 3, 18, 19, 20, 21, 22, 23, 24, 25, 26, 27, 28, 29, 30, 33] [(0, 16), (1, 5), (1, 7), (1, 8), (1, 10), (1, 11)] Ia I_60 := Fw_tr wI_56 (Fw_wd h_60.2.2.2.1 (by decide) (by decide))
      have r5_I_60 : I_60 1 5 = I_56 1 5 := h_60.2.2.2.1 1 5 (by decide) (by decide) (by decide)
      have r6_I_60 : I_60 1 6 = I_56 1 6 := h_60.2.2.2.1 1 6 (by decide) (by decide) (by decide)
      have r7_I_60 : I_60 1 7 = I_56 1 7 := h_60.2.2.2.1 1 7 (by decide) (by decide) (by decide)
      have r8_I_60 : I_60 1 8 = I_56 1 8 := h_60.2.2.2.1 1 8 (by decide) (by decide) (by decide)
      have r9_I_60 : I_60 1 9 = I_56 1 9 := h_60.2.2.2.1 1 9 (by decide) (by decide) (by decide)
      have r10_I_60 : I_60 1 10 = I_56 1 10 := h_60.2.2.2.1 1 10 (by decide) (by decide) (by decide)
      have r11_I_60 : I_60 1 11 = I_56 1 11 := h_60.2.2.2.1 1 11 (by decide) (by decide) (by decide)
      have r81_I_60 : I_60 8 1 = I_56 8 1 := h_60.2.2.2.1 8 1 (by decide) (by decide) (by decide)
      have rf_I_60 : FU (I_60 1 5) = FU (I_56 1 5) := by rw [r5_I_60]
      have y2_I_60 : I_60 2 = I_56 2 := Fw_row h_60.2.2.2.1 2 (by decide) (by decide) (by decide)
      have y3_I_60 : I_60 3 = I_56 3 := Fw_row h_60.2.2.2.1 3 (by decide) (by decide) (by decide)
      refine ww_aload_n hX (pc := 63) dX10_lamps_63 rfl ?_
      refine ww_iload_n hX (pc := 64) dX10_lamps_64 rfl ?_
      refine vI1 hX (pc := 65) sX10_114 (xs_0 hL) (c8_X10_accept l0 hL cI_60 frI_60) (by decide) (Nat.le_refl 0) (Nat.le_refl 0) (Nat.le_of_ble_eq_true rfl) dX10_lamps_65 (fun x_65 I_65 J_65 h_65 => ?_)
      obtain ⟨h_65, frI_65⟩ := h_65
      have kI_65 : Kp 0 49 Ia I_65 := Kp_tr kI_60 (Kp_wd h_65.1 (by decide) (by decide))
      have kJ_65 : Kp 0 49 Ja J_65 := Kp_tr kJ_60 (Kp_wd h_65.2.1 (by decide) (by decide))
      have cI_65 : CX I_65 := h_65.2.2.1
      have qI_65 := XI_o cI_65.1
      have wI_65 : Fw [2, 3, 18, 19, 20, 21, 22, 23, 24, 25, 26, 27, 28, 29, 30, 33] [(0, 16), (1, 5), (1, 7), (1, 8), (1, 10), (1, 11)] Ia I_65 := Fw_tr wI_60 (Fw_wd h_65.2.2.2.1 (by decide) (by decide))
      have r5_I_65 : I_65 1 5 = I_60 1 5 := h_65.2.2.2.1 1 5 (by decide) (by decide) (by decide)
      have r6_I_65 : I_65 1 6 = I_60 1 6 := h_65.2.2.2.1 1 6 (by decide) (by decide) (by decide)
      have r7_I_65 : I_65 1 7 = I_60 1 7 := h_65.2.2.2.1 1 7 (by decide) (by decide) (by decide)
      have r8_I_65 : I_65 1 8 = I_60 1 8 := h_65.2.2.2.1 1 8 (by decide) (by decide) (by decide)
      have r9_I_65 : I_65 1 9 = I_60 1 9 := h_65.2.2.2.1 1 9 (by decide) (by decide) (by decide)
      have r10_I_65 : I_65 1 10 = I_60 1 10 := h_65.2.2.2.1 1 10 (by decide) (by decide) (by decide)
      have r11_I_65 : I_65 1 11 = I_60 1 11 := h_65.2.2.2.1 1 11 (by decide) (by decide) (by decide)
      have r81_I_65 : I_65 8 1 = I_60 8 1 := h_65.2.2.2.1 8 1 (by decide) (by decide) (by decide)
      have rf_I_65 : FU (I_65 1 5) = FU (I_60 1 5) := by rw [r5_I_65]
      have y2_I_65 : I_65 2 = I_60 2 := Fw_row h_65.2.2.2.1 2 (by decide) (by decide) (by decide)
      have y3_I_65 : I_65 3 = I_60 3 := Fw_row h_65.2.2.2.1 3 (by decide) (by decide) (by decide)
      have xv_I_65 := h_65.2.2.2.2
      refine rI hX (pc := 68) hT (Nat.le_refl 0) (Nat.le_refl 0) dX10_lamps_68 ?_
      exact ⟨⟨kI_65, kJ_65, cI_65, (Fw_wd wI_65 (by decide) (by decide)), (fun h9 => absurd (by omega) h9), (fun _ => ⟨by rw [xv_I_65.1, hv_24], wI_65, by omega, by omega, (fun j hj => by rw [y2_I_65, y2_I_60]; exact v2_I_56 j hj), xv_I_65.2, by omega, by omega, by omega, (fun s hs => by rw [y3_I_65, y3_I_60]; exact v3_I_56 s hs)⟩)⟩, frI_65⟩
    · simp only [w32_mod] at h_8
      refine ww_aload_n hX (pc := 11) dX10_lamps_11 rfl ?_
      refine ww_iconst hX (pc := 12) (x := (-1)) dX10_lamps_12 rfl ?_
      refine vI1 hX (pc := 13) sX10_89 (xs_0 hL) (c8_X10_refuse l0 hL hC hF (by omega) (by omega)) (by decide) (Nat.le_refl 0) (Nat.le_refl 0) (Nat.le_of_ble_eq_true rfl) dX10_lamps_13 (fun x_13 I_13 J_13 h_13 => ?_)
      obtain ⟨h_13, frI_13⟩ := h_13
      have kI_13 : Kp 0 49 Ia I_13 := Kp_tr (Kp_rf (a := 0) (b := 49)) (Kp_wd h_13.1 (by decide) (by decide))
      have kJ_13 : Kp 0 49 Ja J_13 := Kp_tr (Kp_rf (a := 0) (b := 49)) (Kp_wd h_13.2.1 (by decide) (by decide))
      have cI_13 : CX I_13 := h_13.2.2.1
      have qI_13 := XI_o cI_13.1
      have wI_13 : Fw [2, 3, 18, 19, 20, 21, 22, 23, 24, 25, 26, 27, 28, 29, 30, 33, 48] [(0, 16), (1, 5), (1, 7), (1, 8), (1, 10), (1, 11)] Ia I_13 := Fw_tr Fw_rf (Fw_wd h_13.2.2.2.1 (by decide) (by decide))
      have r5_I_13 : I_13 1 5 = Ia 1 5 := h_13.2.2.2.1 1 5 (by decide) (by decide) (by decide)
      have r6_I_13 : I_13 1 6 = Ia 1 6 := h_13.2.2.2.1 1 6 (by decide) (by decide) (by decide)
      have r7_I_13 : I_13 1 7 = Ia 1 7 := h_13.2.2.2.1 1 7 (by decide) (by decide) (by decide)
      have r8_I_13 : I_13 1 8 = Ia 1 8 := h_13.2.2.2.1 1 8 (by decide) (by decide) (by decide)
      have r9_I_13 : I_13 1 9 = Ia 1 9 := h_13.2.2.2.1 1 9 (by decide) (by decide) (by decide)
      have r10_I_13 : I_13 1 10 = Ia 1 10 := h_13.2.2.2.1 1 10 (by decide) (by decide) (by decide)
      have r11_I_13 : I_13 1 11 = Ia 1 11 := h_13.2.2.2.1 1 11 (by decide) (by decide) (by decide)
      have r81_I_13 : I_13 8 1 = Ia 8 1 := h_13.2.2.2.1 8 1 (by decide) (by decide) (by decide)
      have rf_I_13 : FU (I_13 1 5) = FU (Ia 1 5) := by rw [r5_I_13]
      have y2_I_13 : I_13 2 = Ia 2 := Fw_row h_13.2.2.2.1 2 (by decide) (by decide) (by decide)
      have y3_I_13 : I_13 3 = Ia 3 := Fw_row h_13.2.2.2.1 3 (by decide) (by decide) (by decide)
      have xv_I_13 := h_13.2.2.2.2
      refine rI hX (pc := 16) hT (Nat.le_refl 0) (Nat.le_refl 0) dX10_lamps_16 ?_
      exact ⟨⟨kI_13, kJ_13, cI_13, (Fw_wd wI_13 (by decide) (by decide)), (fun _ => ⟨xv_I_13.1, h_13.2.2.2.1, xv_I_13.2⟩), (fun h9 => absurd h9 (by omega))⟩, frI_13⟩
set_option maxHeartbeats 4000000 in
set_option maxRecDepth 20000 in
theorem c8_X10_news (l0 : Launch) {Ia Ja : aI1} {Ra : aR1} {Sa : aS1} (hL : LY Ra Sa) (hC : CX Ia) (hF : FRk Ia Ja) {a : Int} (ha0 : -2147483648 ≤ a) (ha1 : a < 2147483648)  : CT l0 10 0 0 mX10_news [kR (some 0), kI a] Ia Ja Ra Sa (cI (fun x I' J' => (Kp 0 49 Ia I' ∧ Kp 0 49 Ja J' ∧ CX I' ∧ Fw [3, 18, 19, 20, 21, 22, 23, 24, 25, 26, 27, 28, 29, 30, 33, 48] [(0, 16), (1, 6), (1, 8), (1, 10), (1, 11)] Ia I' ∧ (¬ (2 ≤ a ∧ a ≤ 8) → x = -1 ∧ RFc Ia I' (-1)) ∧ ((2 ≤ a ∧ a ≤ 8) → x = Ia 1 6 ∧ Fw [3, 18, 19, 20, 21, 22, 23, 24, 25, 26, 27, 28, 29, 30, 33] [(0, 16), (1, 6), (1, 8), (1, 10), (1, 11)] Ia I' ∧ I' 1 6 = a ∧ I' 0 16 = 0 ∧ I' 1 8 = 0 ∧ I' 1 10 = 0 ∧ I' 1 11 = 0 ∧ (∀ s, s < 256 → I' 3 s = -1))) ∧ FRk I' J') Ra Sa) := by
  refine ct_in pn_X10 (Nat.le_of_ble_eq_true rfl) (fun X hX hT hIn => ?_)
  have hX : aK l0 X cX10_news 3 RX10 (some .int) 10 0 0 := hX
  change WW X 0 [some (kR (some 0)), some (kI a), none] [] Ia Ja Ra Sa 0 0
  have hI := hC.1
  have hq := XI_o hI
  refine ww_iload_n hX (pc := 0) dX10_news_0 rfl ?_
  refine ww_iconst hX (pc := 1) (x := 2) dX10_news_1 rfl ?_
  refine ww_icmp_lt hX (pc := 2) (tgt := 11) dX10_news_2 (by decide) (fun h_2 => ?_) (fun h_2 => ?_)
  · simp only [w32_mod] at h_2
    refine ww_aload_n hX (pc := 11) dX10_news_11 rfl ?_
    refine ww_iconst hX (pc := 12) (x := (-1)) dX10_news_12 rfl ?_
    refine vI1 hX (pc := 13) sX10_89 (xs_0 hL) (c8_X10_refuse l0 hL hC hF (by omega) (by omega)) (by decide) (Nat.le_refl 0) (Nat.le_refl 0) (Nat.le_of_ble_eq_true rfl) dX10_news_13 (fun x_13 I_13 J_13 h_13 => ?_)
    obtain ⟨h_13, frI_13⟩ := h_13
    have kI_13 : Kp 0 49 Ia I_13 := Kp_tr (Kp_rf (a := 0) (b := 49)) (Kp_wd h_13.1 (by decide) (by decide))
    have kJ_13 : Kp 0 49 Ja J_13 := Kp_tr (Kp_rf (a := 0) (b := 49)) (Kp_wd h_13.2.1 (by decide) (by decide))
    have cI_13 : CX I_13 := h_13.2.2.1
    have qI_13 := XI_o cI_13.1
    have wI_13 : Fw [3, 18, 19, 20, 21, 22, 23, 24, 25, 26, 27, 28, 29, 30, 33, 48] [(0, 16), (1, 6), (1, 8), (1, 10), (1, 11)] Ia I_13 := Fw_tr Fw_rf (Fw_wd h_13.2.2.2.1 (by decide) (by decide))
    have r5_I_13 : I_13 1 5 = Ia 1 5 := h_13.2.2.2.1 1 5 (by decide) (by decide) (by decide)
    have r6_I_13 : I_13 1 6 = Ia 1 6 := h_13.2.2.2.1 1 6 (by decide) (by decide) (by decide)
    have r7_I_13 : I_13 1 7 = Ia 1 7 := h_13.2.2.2.1 1 7 (by decide) (by decide) (by decide)
    have r8_I_13 : I_13 1 8 = Ia 1 8 := h_13.2.2.2.1 1 8 (by decide) (by decide) (by decide)
    have r9_I_13 : I_13 1 9 = Ia 1 9 := h_13.2.2.2.1 1 9 (by decide) (by decide) (by decide)
    have r10_I_13 : I_13 1 10 = Ia 1 10 := h_13.2.2.2.1 1 10 (by decide) (by decide) (by decide)
    have r11_I_13 : I_13 1 11 = Ia 1 11 := h_13.2.2.2.1 1 11 (by decide) (by decide) (by decide)
    have r81_I_13 : I_13 8 1 = Ia 8 1 := h_13.2.2.2.1 8 1 (by decide) (by decide) (by decide)
    have rf_I_13 : FU (I_13 1 5) = FU (Ia 1 5) := by rw [r5_I_13]
    have y3_I_13 : I_13 3 = Ia 3 := Fw_row h_13.2.2.2.1 3 (by decide) (by decide) (by decide)
    have xv_I_13 := h_13.2.2.2.2
    refine rI hX (pc := 16) hT (Nat.le_refl 0) (Nat.le_refl 0) dX10_news_16 ?_
    exact ⟨⟨kI_13, kJ_13, cI_13, (Fw_wd wI_13 (by decide) (by decide)), (fun _ => ⟨xv_I_13.1, h_13.2.2.2.1, xv_I_13.2⟩), (fun h9 => absurd h9 (by omega))⟩, frI_13⟩
  · simp only [w32_mod] at h_2
    refine ww_iload_n hX (pc := 5) dX10_news_5 rfl ?_
    refine ww_bipush hX (pc := 6) (x := 8) dX10_news_6 (by decide) ?_
    refine ww_icmp_le hX (pc := 8) (tgt := 17) dX10_news_8 (by decide) (fun h_8 => ?_) (fun h_8 => ?_)
    · simp only [w32_mod] at h_8
      refine ww_aload_n hX (pc := 17) dX10_news_17 rfl ?_
      refine ww_getR hX (pc := 18) fX10_10 (by decide) (xs_0 hL) (xr_0_0 hL) dX10_news_18 ?_
      refine ww_getI hX (pc := 21) fX10_117 (by decide) (xs_1 hL) dX10_news_21 ?_
      refine ww_nmI (fun v_24 hv_24 => ?_)
      refine ww_istore_n hX (pc := 24) (lv' := [some (kR (some 0)), some (kI a), some (kI v_24)]) dX10_news_24 (by decide) rfl rfl ?_
      refine ww_aload_n hX (pc := 25) dX10_news_25 rfl ?_
      refine ww_getR hX (pc := 26) fX10_10 (by decide) (xs_0 hL) (xr_0_0 hL) dX10_news_26 ?_
      refine ww_iload_n hX (pc := 29) dX10_news_29 rfl ?_
      refine ww_putI hX (pc := 30) (fun h9 => absurd h9 (by decide)) gX10_117 rfl (xs_1 hL) dX10_news_30 ?_
      refine ww_nmH (fun I_30 eI_30 => ?_)
      have kI_30 : Kp 0 49 Ia I_30 := by rw [eI_30]; exact Kp_up (Kp_rf (a := 0) (b := 49)) _ _ (by decide)
      have cI_30 : CX I_30 := by rw [eI_30]; exact CX_x hC (XI_1_6 hC.1 (by omega) (by omega)) (by decide)
      have qI_30 := XI_o cI_30.1
      have r5_I_30 : I_30 1 5 = Ia 1 5 := by rw [eI_30, up2_n _ _ (Or.inr (by decide))]
      skip
      have r8_I_30 : I_30 1 8 = Ia 1 8 := by rw [eI_30, up2_n _ _ (Or.inr (by decide))]
      have r9_I_30 : I_30 1 9 = Ia 1 9 := by rw [eI_30, up2_n _ _ (Or.inr (by decide))]
      have r10_I_30 : I_30 1 10 = Ia 1 10 := by rw [eI_30, up2_n _ _ (Or.inr (by decide))]
      have r11_I_30 : I_30 1 11 = Ia 1 11 := by rw [eI_30, up2_n _ _ (Or.inr (by decide))]
      have rf_I_30 : FU (I_30 1 5) = FU (Ia 1 5) := by rw [r5_I_30]
      have wI_30 : Fw [3, 18, 19, 20, 21, 22, 23, 24, 25, 26, 27, 28, 29, 30, 33] [(0, 16), (1, 6), (1, 8), (1, 10), (1, 11)] Ia I_30 := by rw [eI_30]; exact Fw_up Fw_rf (Or.inr (by decide))
      have r7_I_30 : I_30 1 7 = Ia 1 7 := by rw [eI_30, up2_n _ _ (Or.inr (by decide))]
      have y3_I_30 : I_30 3 = Ia 3 := by rw [eI_30, up2_off _ _ _ (by decide)]
      refine ww_aload_n hX (pc := 33) dX10_news_33 rfl ?_
      refine ww_getR hX (pc := 34) fX10_10 (by decide) (xs_0 hL) (xr_0_0 hL) dX10_news_34 ?_
      refine vV0 hX (pc := 37) sX10_108 (xs_1 hL) (c_X1_forget l0 hL) (by decide) (Nat.le_refl 0) (Nat.le_refl 0) (Nat.le_of_ble_eq_true rfl) dX10_news_37 (fun I_37 J_37 h_37 => ?_)
      obtain ⟨rfl, eI_37⟩ := h_37
      have kI_37 : Kp 0 49 Ia I_37 := by rw [eI_37]; exact Kp_up (Kp_up (Kp_up (Kp_upR kI_30 _ (by decide)) _ _ (by decide)) _ _ (by decide)) _ _ (by decide)
      have cI_37 : CX I_37 := by
        refine CX_forget cI_30 (fun a h1 h2 h3 => ?_) ?_ ?_ ?_ ?_ ?_ ?_ (fun s hs => ?_)
        · rw [eI_37, up2_off _ _ _ h1, up2_off _ _ _ h1, up2_off _ _ _ h1, upR_n _ _ h3]
        · rw [eI_37, up2_n _ _ (Or.inr (by decide)), up2_n _ _ (Or.inr (by decide)), up2_n _ _ (Or.inr (by decide)), upR_n _ _ (by decide)]; omega
        · rw [eI_37, up2_n _ _ (Or.inr (by decide)), up2_n _ _ (Or.inr (by decide)), up2_n _ _ (Or.inr (by decide)), upR_n _ _ (by decide)]; omega
        · rw [eI_37, up2_n _ _ (Or.inr (by decide)), up2_n _ _ (Or.inr (by decide)), up2_s]
        · rw [eI_37, up2_n _ _ (Or.inr (by decide)), up2_n _ _ (Or.inr (by decide)), up2_n _ _ (Or.inr (by decide)), upR_n _ _ (by decide)]
        · rw [eI_37, up2_n _ _ (Or.inr (by decide)), up2_s]
        · rw [eI_37, up2_s]
        · rw [eI_37, up2_off _ _ _ (by decide), up2_off _ _ _ (by decide), up2_off _ _ _ (by decide), upR_s, if_pos hs]
      have wI_37 : Fw [3, 18, 19, 20, 21, 22, 23, 24, 25, 26, 27, 28, 29, 30, 33] [(0, 16), (1, 6), (1, 8), (1, 10), (1, 11)] Ia I_37 := by rw [eI_37]; exact Fw_up (Fw_up (Fw_up (Fw_upR wI_30 (by decide)) (Or.inr (by decide))) (Or.inr (by decide))) (Or.inr (by decide))
      have v8_I_37 : I_37 1 8 = 0 := by rw [eI_37, up2_n _ _ (Or.inr (by decide)), up2_n _ _ (Or.inr (by decide)), up2_s]
      have v10_I_37 : I_37 1 10 = 0 := by rw [eI_37, up2_n _ _ (Or.inr (by decide)), up2_s]
      have v11_I_37 : I_37 1 11 = 0 := by rw [eI_37, up2_s]
      have v3_I_37 : ∀ s, s < 256 → I_37 3 s = -1 := fun s hs => by rw [eI_37, up2_off _ _ _ (by decide), up2_off _ _ _ (by decide), up2_off _ _ _ (by decide), upR_s, if_pos hs]
      have v6_I_37 : I_37 1 6 = a := by rw [eI_37, up2_n _ _ (Or.inr (by decide)), up2_n _ _ (Or.inr (by decide)), up2_n _ _ (Or.inr (by decide)), upR_n _ _ (by decide), eI_30, up2_s]
      refine ww_aload_n hX (pc := 40) dX10_news_40 rfl ?_
      refine vV0 hX (pc := 41) sX10_111 (xs_0 hL) (c8_X10_codeChanged l0 hL cI_37) (by decide) (Nat.le_refl 0) (Nat.le_refl 0) (Nat.le_of_ble_eq_true rfl) dX10_news_41 (fun I_41 J_41 h_41 => ?_)
      obtain ⟨h_41, frI_41⟩ := h_41
      have kI_41 : Kp 0 49 Ia I_41 := Kp_tr kI_37 (Kp_wd h_41.1 (by decide) (by decide))
      have kJ_41 : Kp 0 49 Ja J_41 := Kp_tr (Kp_rf (a := 0) (b := 49)) (Kp_wd h_41.2.1 (by decide) (by decide))
      have cI_41 : CX I_41 := h_41.2.2.1
      have qI_41 := XI_o cI_41.1
      have wI_41 : Fw [3, 18, 19, 20, 21, 22, 23, 24, 25, 26, 27, 28, 29, 30, 33] [(0, 16), (1, 6), (1, 8), (1, 10), (1, 11)] Ia I_41 := Fw_tr wI_37 (Fw_wd h_41.2.2.2.1 (by decide) (by decide))
      have r5_I_41 : I_41 1 5 = I_37 1 5 := h_41.2.2.2.1 1 5 (by decide) (by decide) (by decide)
      have r6_I_41 : I_41 1 6 = I_37 1 6 := h_41.2.2.2.1 1 6 (by decide) (by decide) (by decide)
      have r7_I_41 : I_41 1 7 = I_37 1 7 := h_41.2.2.2.1 1 7 (by decide) (by decide) (by decide)
      have r8_I_41 : I_41 1 8 = I_37 1 8 := h_41.2.2.2.1 1 8 (by decide) (by decide) (by decide)
      have r9_I_41 : I_41 1 9 = I_37 1 9 := h_41.2.2.2.1 1 9 (by decide) (by decide) (by decide)
      have r10_I_41 : I_41 1 10 = I_37 1 10 := h_41.2.2.2.1 1 10 (by decide) (by decide) (by decide)
      have r11_I_41 : I_41 1 11 = I_37 1 11 := h_41.2.2.2.1 1 11 (by decide) (by decide) (by decide)
      have r81_I_41 : I_41 8 1 = I_37 8 1 := h_41.2.2.2.1 8 1 (by decide) (by decide) (by decide)
      have rf_I_41 : FU (I_41 1 5) = FU (I_37 1 5) := by rw [r5_I_41]
      have y3_I_41 : I_41 3 = I_37 3 := Fw_row h_41.2.2.2.1 3 (by decide) (by decide) (by decide)
      refine ww_aload_n hX (pc := 44) dX10_news_44 rfl ?_
      refine ww_iload_n hX (pc := 45) dX10_news_45 rfl ?_
      refine vI1 hX (pc := 46) sX10_114 (xs_0 hL) (c8_X10_accept l0 hL cI_41 frI_41) (by decide) (Nat.le_refl 0) (Nat.le_refl 0) (Nat.le_of_ble_eq_true rfl) dX10_news_46 (fun x_46 I_46 J_46 h_46 => ?_)
      obtain ⟨h_46, frI_46⟩ := h_46
      have kI_46 : Kp 0 49 Ia I_46 := Kp_tr kI_41 (Kp_wd h_46.1 (by decide) (by decide))
      have kJ_46 : Kp 0 49 Ja J_46 := Kp_tr kJ_41 (Kp_wd h_46.2.1 (by decide) (by decide))
      have cI_46 : CX I_46 := h_46.2.2.1
      have qI_46 := XI_o cI_46.1
      have wI_46 : Fw [3, 18, 19, 20, 21, 22, 23, 24, 25, 26, 27, 28, 29, 30, 33] [(0, 16), (1, 6), (1, 8), (1, 10), (1, 11)] Ia I_46 := Fw_tr wI_41 (Fw_wd h_46.2.2.2.1 (by decide) (by decide))
      have r5_I_46 : I_46 1 5 = I_41 1 5 := h_46.2.2.2.1 1 5 (by decide) (by decide) (by decide)
      have r6_I_46 : I_46 1 6 = I_41 1 6 := h_46.2.2.2.1 1 6 (by decide) (by decide) (by decide)
      have r7_I_46 : I_46 1 7 = I_41 1 7 := h_46.2.2.2.1 1 7 (by decide) (by decide) (by decide)
      have r8_I_46 : I_46 1 8 = I_41 1 8 := h_46.2.2.2.1 1 8 (by decide) (by decide) (by decide)
      have r9_I_46 : I_46 1 9 = I_41 1 9 := h_46.2.2.2.1 1 9 (by decide) (by decide) (by decide)
      have r10_I_46 : I_46 1 10 = I_41 1 10 := h_46.2.2.2.1 1 10 (by decide) (by decide) (by decide)
      have r11_I_46 : I_46 1 11 = I_41 1 11 := h_46.2.2.2.1 1 11 (by decide) (by decide) (by decide)
      have r81_I_46 : I_46 8 1 = I_41 8 1 := h_46.2.2.2.1 8 1 (by decide) (by decide) (by decide)
      have rf_I_46 : FU (I_46 1 5) = FU (I_41 1 5) := by rw [r5_I_46]
      have y3_I_46 : I_46 3 = I_41 3 := Fw_row h_46.2.2.2.1 3 (by decide) (by decide) (by decide)
      have xv_I_46 := h_46.2.2.2.2
      refine rI hX (pc := 49) hT (Nat.le_refl 0) (Nat.le_refl 0) dX10_news_49 ?_
      exact ⟨⟨kI_46, kJ_46, cI_46, (Fw_wd wI_46 (by decide) (by decide)), (fun h9 => absurd (by omega) h9), (fun _ => ⟨by rw [xv_I_46.1, hv_24], wI_46, by omega, xv_I_46.2, by omega, by omega, by omega, (fun s hs => by rw [y3_I_46, y3_I_41]; exact v3_I_37 s hs)⟩)⟩, frI_46⟩
    · simp only [w32_mod] at h_8
      refine ww_aload_n hX (pc := 11) dX10_news_11 rfl ?_
      refine ww_iconst hX (pc := 12) (x := (-1)) dX10_news_12 rfl ?_
      refine vI1 hX (pc := 13) sX10_89 (xs_0 hL) (c8_X10_refuse l0 hL hC hF (by omega) (by omega)) (by decide) (Nat.le_refl 0) (Nat.le_refl 0) (Nat.le_of_ble_eq_true rfl) dX10_news_13 (fun x_13 I_13 J_13 h_13 => ?_)
      obtain ⟨h_13, frI_13⟩ := h_13
      have kI_13 : Kp 0 49 Ia I_13 := Kp_tr (Kp_rf (a := 0) (b := 49)) (Kp_wd h_13.1 (by decide) (by decide))
      have kJ_13 : Kp 0 49 Ja J_13 := Kp_tr (Kp_rf (a := 0) (b := 49)) (Kp_wd h_13.2.1 (by decide) (by decide))
      have cI_13 : CX I_13 := h_13.2.2.1
      have qI_13 := XI_o cI_13.1
      have wI_13 : Fw [3, 18, 19, 20, 21, 22, 23, 24, 25, 26, 27, 28, 29, 30, 33, 48] [(0, 16), (1, 6), (1, 8), (1, 10), (1, 11)] Ia I_13 := Fw_tr Fw_rf (Fw_wd h_13.2.2.2.1 (by decide) (by decide))
      have r5_I_13 : I_13 1 5 = Ia 1 5 := h_13.2.2.2.1 1 5 (by decide) (by decide) (by decide)
      have r6_I_13 : I_13 1 6 = Ia 1 6 := h_13.2.2.2.1 1 6 (by decide) (by decide) (by decide)
      have r7_I_13 : I_13 1 7 = Ia 1 7 := h_13.2.2.2.1 1 7 (by decide) (by decide) (by decide)
      have r8_I_13 : I_13 1 8 = Ia 1 8 := h_13.2.2.2.1 1 8 (by decide) (by decide) (by decide)
      have r9_I_13 : I_13 1 9 = Ia 1 9 := h_13.2.2.2.1 1 9 (by decide) (by decide) (by decide)
      have r10_I_13 : I_13 1 10 = Ia 1 10 := h_13.2.2.2.1 1 10 (by decide) (by decide) (by decide)
      have r11_I_13 : I_13 1 11 = Ia 1 11 := h_13.2.2.2.1 1 11 (by decide) (by decide) (by decide)
      have r81_I_13 : I_13 8 1 = Ia 8 1 := h_13.2.2.2.1 8 1 (by decide) (by decide) (by decide)
      have rf_I_13 : FU (I_13 1 5) = FU (Ia 1 5) := by rw [r5_I_13]
      have y3_I_13 : I_13 3 = Ia 3 := Fw_row h_13.2.2.2.1 3 (by decide) (by decide) (by decide)
      have xv_I_13 := h_13.2.2.2.2
      refine rI hX (pc := 16) hT (Nat.le_refl 0) (Nat.le_refl 0) dX10_news_16 ?_
      exact ⟨⟨kI_13, kJ_13, cI_13, (Fw_wd wI_13 (by decide) (by decide)), (fun _ => ⟨xv_I_13.1, h_13.2.2.2.1, xv_I_13.2⟩), (fun h9 => absurd h9 (by omega))⟩, frI_13⟩
set_option maxHeartbeats 4000000 in
set_option maxRecDepth 20000 in
theorem c8_X10_broken (l0 : Launch) {Ia Ja : aI1} {Ra : aR1} {Sa : aS1} (hL : LY Ra Sa) (hC : CX Ia) (hF : FRk Ia Ja) {a b : Int} (ha0 : -2147483648 ≤ a) (ha1 : a < 2147483648) (hb0 : -2147483648 ≤ b) (hb1 : b < 2147483648)  : CT l0 10 0 0 mX10_broken [kR (some 0), kI a, kI b] Ia Ja Ra Sa (cI (fun x I' J' => (Kp 0 49 Ia I' ∧ Kp 0 49 Ja J' ∧ CX I' ∧ Fw [18, 19, 20, 21, 22, 23, 24, 25, 26, 27, 28, 29, 30, 33, 48] [(0, 16), (1, 7)] Ia I' ∧ (¬ (0 ≤ a ∧ a < Ia 1 5 ∧ 0 ≤ b ∧ b ≤ 1) → x = -1 ∧ RFc Ia I' (-1)) ∧ ((0 ≤ a ∧ a < Ia 1 5 ∧ 0 ≤ b ∧ b ≤ 1) → x = i_and (i_shr (Ia 1 7) a) 1 ∧ Fw [18, 19, 20, 21, 22, 23, 24, 25, 26, 27, 28, 29, 30, 33] [(0, 16), (1, 7)] Ia I' ∧ I' 0 16 = 0 ∧ I' 1 7 = i_or (i_and (Ia 1 7) (i_xor (i_shl 1 a) (-1))) (i_shl b a))) ∧ FRk I' J') Ra Sa) := by
  refine ct_in pn_X10 (Nat.le_of_ble_eq_true rfl) (fun X hX hT hIn => ?_)
  have hX : aK l0 X cX10_broken 4 RX10 (some .int) 10 0 0 := hX
  change WW X 0 [some (kR (some 0)), some (kI a), some (kI b), none] [] Ia Ja Ra Sa 0 0
  have hI := hC.1
  have hq := XI_o hI
  refine ww_aload_n hX (pc := 0) dX10_broken_0 rfl ?_
  refine ww_getR hX (pc := 1) fX10_10 (by decide) (xs_0 hL) (xr_0_0 hL) dX10_broken_1 ?_
  refine ww_iload_n hX (pc := 4) dX10_broken_4 rfl ?_
  refine vI1 hX (pc := 5) sX10_120 (xs_1 hL) (c_X1_isLamp l0 hL hC.1 (by omega)) (by decide) (Nat.le_refl 0) (Nat.le_refl 0) (Nat.le_of_ble_eq_true rfl) dX10_broken_5 (fun x_5 I_5 J_5 h_5 => ?_)
  obtain ⟨rfl, rfl, h_5⟩ := h_5
  refine ww_if_eq hX (pc := 8) (tgt := 20) dX10_broken_8 (by decide) (fun h_8 => ?_) (fun h_8 => ?_)
  · simp only [w32_mod] at h_8
    refine ww_aload_n hX (pc := 20) dX10_broken_20 rfl ?_
    refine ww_iconst hX (pc := 21) (x := (-1)) dX10_broken_21 rfl ?_
    refine vI1 hX (pc := 22) sX10_89 (xs_0 hL) (c8_X10_refuse l0 hL hC hF (by omega) (by omega)) (by decide) (Nat.le_refl 0) (Nat.le_refl 0) (Nat.le_of_ble_eq_true rfl) dX10_broken_22 (fun x_22 I_22 J_22 h_22 => ?_)
    obtain ⟨h_22, frI_22⟩ := h_22
    have kI_22 : Kp 0 49 Ia I_22 := Kp_tr (Kp_rf (a := 0) (b := 49)) (Kp_wd h_22.1 (by decide) (by decide))
    have kJ_22 : Kp 0 49 Ja J_22 := Kp_tr (Kp_rf (a := 0) (b := 49)) (Kp_wd h_22.2.1 (by decide) (by decide))
    have cI_22 : CX I_22 := h_22.2.2.1
    have qI_22 := XI_o cI_22.1
    have wI_22 : Fw [18, 19, 20, 21, 22, 23, 24, 25, 26, 27, 28, 29, 30, 33, 48] [(0, 16), (1, 7)] Ia I_22 := Fw_tr Fw_rf (Fw_wd h_22.2.2.2.1 (by decide) (by decide))
    have r5_I_22 : I_22 1 5 = Ia 1 5 := h_22.2.2.2.1 1 5 (by decide) (by decide) (by decide)
    have r6_I_22 : I_22 1 6 = Ia 1 6 := h_22.2.2.2.1 1 6 (by decide) (by decide) (by decide)
    have r7_I_22 : I_22 1 7 = Ia 1 7 := h_22.2.2.2.1 1 7 (by decide) (by decide) (by decide)
    have r8_I_22 : I_22 1 8 = Ia 1 8 := h_22.2.2.2.1 1 8 (by decide) (by decide) (by decide)
    have r9_I_22 : I_22 1 9 = Ia 1 9 := h_22.2.2.2.1 1 9 (by decide) (by decide) (by decide)
    have r10_I_22 : I_22 1 10 = Ia 1 10 := h_22.2.2.2.1 1 10 (by decide) (by decide) (by decide)
    have r11_I_22 : I_22 1 11 = Ia 1 11 := h_22.2.2.2.1 1 11 (by decide) (by decide) (by decide)
    have r81_I_22 : I_22 8 1 = Ia 8 1 := h_22.2.2.2.1 8 1 (by decide) (by decide) (by decide)
    have rf_I_22 : FU (I_22 1 5) = FU (Ia 1 5) := by rw [r5_I_22]
    have xv_I_22 := h_22.2.2.2.2
    refine rI hX (pc := 25) hT (Nat.le_refl 0) (Nat.le_refl 0) dX10_broken_25 ?_
    exact ⟨⟨kI_22, kJ_22, cI_22, (Fw_wd wI_22 (by decide) (by decide)), (fun _ => ⟨xv_I_22.1, h_22.2.2.2.1, xv_I_22.2⟩), (fun h9 => absurd h9 (by omega))⟩, frI_22⟩
  · simp only [w32_mod] at h_8
    have k_5 := h_5.2.mp (by omega)
    clear h_5
    refine ww_iload_n hX (pc := 11) dX10_broken_11 rfl ?_
    refine ww_if_lt hX (pc := 12) (tgt := 20) dX10_broken_12 (by decide) (fun h_12 => ?_) (fun h_12 => ?_)
    · simp only [w32_mod] at h_12
      refine ww_aload_n hX (pc := 20) dX10_broken_20 rfl ?_
      refine ww_iconst hX (pc := 21) (x := (-1)) dX10_broken_21 rfl ?_
      refine vI1 hX (pc := 22) sX10_89 (xs_0 hL) (c8_X10_refuse l0 hL hC hF (by omega) (by omega)) (by decide) (Nat.le_refl 0) (Nat.le_refl 0) (Nat.le_of_ble_eq_true rfl) dX10_broken_22 (fun x_22 I_22 J_22 h_22 => ?_)
      obtain ⟨h_22, frI_22⟩ := h_22
      have kI_22 : Kp 0 49 Ia I_22 := Kp_tr (Kp_rf (a := 0) (b := 49)) (Kp_wd h_22.1 (by decide) (by decide))
      have kJ_22 : Kp 0 49 Ja J_22 := Kp_tr (Kp_rf (a := 0) (b := 49)) (Kp_wd h_22.2.1 (by decide) (by decide))
      have cI_22 : CX I_22 := h_22.2.2.1
      have qI_22 := XI_o cI_22.1
      have wI_22 : Fw [18, 19, 20, 21, 22, 23, 24, 25, 26, 27, 28, 29, 30, 33, 48] [(0, 16), (1, 7)] Ia I_22 := Fw_tr Fw_rf (Fw_wd h_22.2.2.2.1 (by decide) (by decide))
      have r5_I_22 : I_22 1 5 = Ia 1 5 := h_22.2.2.2.1 1 5 (by decide) (by decide) (by decide)
      have r6_I_22 : I_22 1 6 = Ia 1 6 := h_22.2.2.2.1 1 6 (by decide) (by decide) (by decide)
      have r7_I_22 : I_22 1 7 = Ia 1 7 := h_22.2.2.2.1 1 7 (by decide) (by decide) (by decide)
      have r8_I_22 : I_22 1 8 = Ia 1 8 := h_22.2.2.2.1 1 8 (by decide) (by decide) (by decide)
      have r9_I_22 : I_22 1 9 = Ia 1 9 := h_22.2.2.2.1 1 9 (by decide) (by decide) (by decide)
      have r10_I_22 : I_22 1 10 = Ia 1 10 := h_22.2.2.2.1 1 10 (by decide) (by decide) (by decide)
      have r11_I_22 : I_22 1 11 = Ia 1 11 := h_22.2.2.2.1 1 11 (by decide) (by decide) (by decide)
      have r81_I_22 : I_22 8 1 = Ia 8 1 := h_22.2.2.2.1 8 1 (by decide) (by decide) (by decide)
      have rf_I_22 : FU (I_22 1 5) = FU (Ia 1 5) := by rw [r5_I_22]
      have xv_I_22 := h_22.2.2.2.2
      refine rI hX (pc := 25) hT (Nat.le_refl 0) (Nat.le_refl 0) dX10_broken_25 ?_
      exact ⟨⟨kI_22, kJ_22, cI_22, (Fw_wd wI_22 (by decide) (by decide)), (fun _ => ⟨xv_I_22.1, h_22.2.2.2.1, xv_I_22.2⟩), (fun h9 => absurd h9 (by omega))⟩, frI_22⟩
    · simp only [w32_mod] at h_12
      refine ww_iload_n hX (pc := 15) dX10_broken_15 rfl ?_
      refine ww_iconst hX (pc := 16) (x := 1) dX10_broken_16 rfl ?_
      refine ww_icmp_le hX (pc := 17) (tgt := 26) dX10_broken_17 (by decide) (fun h_17 => ?_) (fun h_17 => ?_)
      · simp only [w32_mod] at h_17
        refine ww_aload_n hX (pc := 26) dX10_broken_26 rfl ?_
        refine ww_getR hX (pc := 27) fX10_10 (by decide) (xs_0 hL) (xr_0_0 hL) dX10_broken_27 ?_
        refine ww_getI hX (pc := 30) fX10_96 (by decide) (xs_1 hL) dX10_broken_30 ?_
        refine ww_iload_n hX (pc := 33) dX10_broken_33 rfl ?_
        refine ww_ishr hX (pc := 34) dX10_broken_34 ?_
        refine ww_iconst hX (pc := 35) (x := 1) dX10_broken_35 rfl ?_
        refine ww_iand hX (pc := 36) dX10_broken_36 ?_
        refine ww_nmI (fun v_37 hv_37 => ?_)
        refine ww_istore_n hX (pc := 37) (lv' := [some (kR (some 0)), some (kI a), some (kI b), some (kI v_37)]) dX10_broken_37 (by decide) rfl rfl ?_
        refine ww_aload_n hX (pc := 38) dX10_broken_38 rfl ?_
        refine ww_getR hX (pc := 39) fX10_10 (by decide) (xs_0 hL) (xr_0_0 hL) dX10_broken_39 ?_
        refine ww_aload_n hX (pc := 42) dX10_broken_42 rfl ?_
        refine ww_getR hX (pc := 43) fX10_10 (by decide) (xs_0 hL) (xr_0_0 hL) dX10_broken_43 ?_
        refine ww_getI hX (pc := 46) fX10_96 (by decide) (xs_1 hL) dX10_broken_46 ?_
        refine ww_iconst hX (pc := 49) (x := 1) dX10_broken_49 rfl ?_
        refine ww_iload_n hX (pc := 50) dX10_broken_50 rfl ?_
        refine ww_ishl hX (pc := 51) dX10_broken_51 ?_
        refine ww_iconst hX (pc := 52) (x := (-1)) dX10_broken_52 rfl ?_
        refine ww_ixor hX (pc := 53) dX10_broken_53 ?_
        refine ww_iand hX (pc := 54) dX10_broken_54 ?_
        refine ww_iload_n hX (pc := 55) dX10_broken_55 rfl ?_
        refine ww_iload_n hX (pc := 56) dX10_broken_56 rfl ?_
        refine ww_ishl hX (pc := 57) dX10_broken_57 ?_
        refine ww_ior hX (pc := 58) dX10_broken_58 ?_
        refine ww_putI hX (pc := 59) (fun h9 => absurd h9 (by decide)) gX10_96 rfl (xs_1 hL) dX10_broken_59 ?_
        refine ww_nmH (fun I_59 eI_59 => ?_)
        have kI_59 : Kp 0 49 Ia I_59 := by rw [eI_59]; exact Kp_up (Kp_rf (a := 0) (b := 49)) _ _ (by decide)
        have cI_59 : CX I_59 := by rw [eI_59]; exact CX_x hC (XI_1_7 hC.1) (by decide)
        have qI_59 := XI_o cI_59.1
        have r5_I_59 : I_59 1 5 = Ia 1 5 := by rw [eI_59, up2_n _ _ (Or.inr (by decide))]
        have r6_I_59 : I_59 1 6 = Ia 1 6 := by rw [eI_59, up2_n _ _ (Or.inr (by decide))]
        have r8_I_59 : I_59 1 8 = Ia 1 8 := by rw [eI_59, up2_n _ _ (Or.inr (by decide))]
        have r9_I_59 : I_59 1 9 = Ia 1 9 := by rw [eI_59, up2_n _ _ (Or.inr (by decide))]
        have r10_I_59 : I_59 1 10 = Ia 1 10 := by rw [eI_59, up2_n _ _ (Or.inr (by decide))]
        have r11_I_59 : I_59 1 11 = Ia 1 11 := by rw [eI_59, up2_n _ _ (Or.inr (by decide))]
        have rf_I_59 : FU (I_59 1 5) = FU (Ia 1 5) := by rw [r5_I_59]
        have wI_59 : Fw [18, 19, 20, 21, 22, 23, 24, 25, 26, 27, 28, 29, 30, 33] [(0, 16), (1, 7)] Ia I_59 := by rw [eI_59]; exact Fw_up Fw_rf (Or.inr (by decide))
        have z7 := (congrFun (congrFun eI_59 1) 7).trans (up2_s _ _ _ _)
        refine ww_aload_n hX (pc := 62) dX10_broken_62 rfl ?_
        refine vV0 hX (pc := 63) sX10_111 (xs_0 hL) (c8_X10_codeChanged l0 hL cI_59) (by decide) (Nat.le_refl 0) (Nat.le_refl 0) (Nat.le_of_ble_eq_true rfl) dX10_broken_63 (fun I_63 J_63 h_63 => ?_)
        obtain ⟨h_63, frI_63⟩ := h_63
        have kI_63 : Kp 0 49 Ia I_63 := Kp_tr kI_59 (Kp_wd h_63.1 (by decide) (by decide))
        have kJ_63 : Kp 0 49 Ja J_63 := Kp_tr (Kp_rf (a := 0) (b := 49)) (Kp_wd h_63.2.1 (by decide) (by decide))
        have cI_63 : CX I_63 := h_63.2.2.1
        have qI_63 := XI_o cI_63.1
        have wI_63 : Fw [18, 19, 20, 21, 22, 23, 24, 25, 26, 27, 28, 29, 30, 33] [(0, 16), (1, 7)] Ia I_63 := Fw_tr wI_59 (Fw_wd h_63.2.2.2.1 (by decide) (by decide))
        have r5_I_63 : I_63 1 5 = I_59 1 5 := h_63.2.2.2.1 1 5 (by decide) (by decide) (by decide)
        have r6_I_63 : I_63 1 6 = I_59 1 6 := h_63.2.2.2.1 1 6 (by decide) (by decide) (by decide)
        have r7_I_63 : I_63 1 7 = I_59 1 7 := h_63.2.2.2.1 1 7 (by decide) (by decide) (by decide)
        have r8_I_63 : I_63 1 8 = I_59 1 8 := h_63.2.2.2.1 1 8 (by decide) (by decide) (by decide)
        have r9_I_63 : I_63 1 9 = I_59 1 9 := h_63.2.2.2.1 1 9 (by decide) (by decide) (by decide)
        have r10_I_63 : I_63 1 10 = I_59 1 10 := h_63.2.2.2.1 1 10 (by decide) (by decide) (by decide)
        have r11_I_63 : I_63 1 11 = I_59 1 11 := h_63.2.2.2.1 1 11 (by decide) (by decide) (by decide)
        have r81_I_63 : I_63 8 1 = I_59 8 1 := h_63.2.2.2.1 8 1 (by decide) (by decide) (by decide)
        have rf_I_63 : FU (I_63 1 5) = FU (I_59 1 5) := by rw [r5_I_63]
        refine ww_aload_n hX (pc := 66) dX10_broken_66 rfl ?_
        refine ww_iload_n hX (pc := 67) dX10_broken_67 rfl ?_
        refine vI1 hX (pc := 68) sX10_114 (xs_0 hL) (c8_X10_accept l0 hL cI_63 frI_63) (by decide) (Nat.le_refl 0) (Nat.le_refl 0) (Nat.le_of_ble_eq_true rfl) dX10_broken_68 (fun x_68 I_68 J_68 h_68 => ?_)
        obtain ⟨h_68, frI_68⟩ := h_68
        have kI_68 : Kp 0 49 Ia I_68 := Kp_tr kI_63 (Kp_wd h_68.1 (by decide) (by decide))
        have kJ_68 : Kp 0 49 Ja J_68 := Kp_tr kJ_63 (Kp_wd h_68.2.1 (by decide) (by decide))
        have cI_68 : CX I_68 := h_68.2.2.1
        have qI_68 := XI_o cI_68.1
        have wI_68 : Fw [18, 19, 20, 21, 22, 23, 24, 25, 26, 27, 28, 29, 30, 33] [(0, 16), (1, 7)] Ia I_68 := Fw_tr wI_63 (Fw_wd h_68.2.2.2.1 (by decide) (by decide))
        have r5_I_68 : I_68 1 5 = I_63 1 5 := h_68.2.2.2.1 1 5 (by decide) (by decide) (by decide)
        have r6_I_68 : I_68 1 6 = I_63 1 6 := h_68.2.2.2.1 1 6 (by decide) (by decide) (by decide)
        have r7_I_68 : I_68 1 7 = I_63 1 7 := h_68.2.2.2.1 1 7 (by decide) (by decide) (by decide)
        have r8_I_68 : I_68 1 8 = I_63 1 8 := h_68.2.2.2.1 1 8 (by decide) (by decide) (by decide)
        have r9_I_68 : I_68 1 9 = I_63 1 9 := h_68.2.2.2.1 1 9 (by decide) (by decide) (by decide)
        have r10_I_68 : I_68 1 10 = I_63 1 10 := h_68.2.2.2.1 1 10 (by decide) (by decide) (by decide)
        have r11_I_68 : I_68 1 11 = I_63 1 11 := h_68.2.2.2.1 1 11 (by decide) (by decide) (by decide)
        have r81_I_68 : I_68 8 1 = I_63 8 1 := h_68.2.2.2.1 8 1 (by decide) (by decide) (by decide)
        have rf_I_68 : FU (I_68 1 5) = FU (I_63 1 5) := by rw [r5_I_68]
        have xv_I_68 := h_68.2.2.2.2
        refine rI hX (pc := 71) hT (Nat.le_refl 0) (Nat.le_refl 0) dX10_broken_71 ?_
        exact ⟨⟨kI_68, kJ_68, cI_68, (Fw_wd wI_68 (by decide) (by decide)), (fun h9 => absurd (by omega) h9), (fun _ => ⟨by rw [xv_I_68.1, hv_37], wI_68, xv_I_68.2, by rw [r7_I_68, r7_I_63]; exact z7⟩)⟩, frI_68⟩
      · simp only [w32_mod] at h_17
        refine ww_aload_n hX (pc := 20) dX10_broken_20 rfl ?_
        refine ww_iconst hX (pc := 21) (x := (-1)) dX10_broken_21 rfl ?_
        refine vI1 hX (pc := 22) sX10_89 (xs_0 hL) (c8_X10_refuse l0 hL hC hF (by omega) (by omega)) (by decide) (Nat.le_refl 0) (Nat.le_refl 0) (Nat.le_of_ble_eq_true rfl) dX10_broken_22 (fun x_22 I_22 J_22 h_22 => ?_)
        obtain ⟨h_22, frI_22⟩ := h_22
        have kI_22 : Kp 0 49 Ia I_22 := Kp_tr (Kp_rf (a := 0) (b := 49)) (Kp_wd h_22.1 (by decide) (by decide))
        have kJ_22 : Kp 0 49 Ja J_22 := Kp_tr (Kp_rf (a := 0) (b := 49)) (Kp_wd h_22.2.1 (by decide) (by decide))
        have cI_22 : CX I_22 := h_22.2.2.1
        have qI_22 := XI_o cI_22.1
        have wI_22 : Fw [18, 19, 20, 21, 22, 23, 24, 25, 26, 27, 28, 29, 30, 33, 48] [(0, 16), (1, 7)] Ia I_22 := Fw_tr Fw_rf (Fw_wd h_22.2.2.2.1 (by decide) (by decide))
        have r5_I_22 : I_22 1 5 = Ia 1 5 := h_22.2.2.2.1 1 5 (by decide) (by decide) (by decide)
        have r6_I_22 : I_22 1 6 = Ia 1 6 := h_22.2.2.2.1 1 6 (by decide) (by decide) (by decide)
        have r7_I_22 : I_22 1 7 = Ia 1 7 := h_22.2.2.2.1 1 7 (by decide) (by decide) (by decide)
        have r8_I_22 : I_22 1 8 = Ia 1 8 := h_22.2.2.2.1 1 8 (by decide) (by decide) (by decide)
        have r9_I_22 : I_22 1 9 = Ia 1 9 := h_22.2.2.2.1 1 9 (by decide) (by decide) (by decide)
        have r10_I_22 : I_22 1 10 = Ia 1 10 := h_22.2.2.2.1 1 10 (by decide) (by decide) (by decide)
        have r11_I_22 : I_22 1 11 = Ia 1 11 := h_22.2.2.2.1 1 11 (by decide) (by decide) (by decide)
        have r81_I_22 : I_22 8 1 = Ia 8 1 := h_22.2.2.2.1 8 1 (by decide) (by decide) (by decide)
        have rf_I_22 : FU (I_22 1 5) = FU (Ia 1 5) := by rw [r5_I_22]
        have xv_I_22 := h_22.2.2.2.2
        refine rI hX (pc := 25) hT (Nat.le_refl 0) (Nat.le_refl 0) dX10_broken_25 ?_
        exact ⟨⟨kI_22, kJ_22, cI_22, (Fw_wd wI_22 (by decide) (by decide)), (fun _ => ⟨xv_I_22.1, h_22.2.2.2.1, xv_I_22.2⟩), (fun h9 => absurd h9 (by omega))⟩, frI_22⟩
set_option maxHeartbeats 4000000 in
set_option maxRecDepth 20000 in
theorem c8_X10_read (l0 : Launch) {Ia Ja : aI1} {Ra : aR1} {Sa : aS1} (hL : LY Ra Sa) (hC : CX Ia) (hF : FRk Ia Ja) {a b : Int} (ha0 : -2147483648 ≤ a) (ha1 : a < 2147483648) (hb0 : -2147483648 ≤ b) (hb1 : b < 2147483648)  : CT l0 10 0 0 mX10_read [kR (some 0), kI a, kI b] Ia Ja Ra Sa (cI (fun x I' J' => (Kp 0 49 Ia I' ∧ Kp 0 49 Ja J' ∧ CX I' ∧ Fw [3, 18, 19, 20, 21, 22, 23, 24, 25, 26, 27, 28, 29, 30, 33, 48] [(0, 16)] Ia I' ∧ (¬ (0 ≤ a ∧ a ≤ FU (Ia 1 5) ∧ (b = -1 ∨ (0 ≤ b ∧ b < Ia 1 6))) → x = -1 ∧ RFc Ia I' (-1)) ∧ ((0 ≤ a ∧ a ≤ FU (Ia 1 5) ∧ (b = -1 ∨ (0 ≤ b ∧ b < Ia 1 6))) → x = Ia 3 a.toNat ∧ Fw [3, 18, 19, 20, 21, 22, 23, 24, 25, 26, 27, 28, 29, 30, 33] [(0, 16)] Ia I' ∧ I' 0 16 = 0 ∧ I' 3 = up1 (Ia 3) a.toNat b)) ∧ FRk I' J') Ra Sa) := by
  refine ct_in pn_X10 (Nat.le_of_ble_eq_true rfl) (fun X hX hT hIn => ?_)
  have hX : aK l0 X cX10_read 4 RX10 (some .int) 10 0 0 := hX
  change WW X 0 [some (kR (some 0)), some (kI a), some (kI b), none] [] Ia Ja Ra Sa 0 0
  have hI := hC.1
  have hq := XI_o hI
  refine ww_aload_n hX (pc := 0) dX10_read_0 rfl ?_
  refine ww_getR hX (pc := 1) fX10_10 (by decide) (xs_0 hL) (xr_0_0 hL) dX10_read_1 ?_
  refine ww_iload_n hX (pc := 4) dX10_read_4 rfl ?_
  refine vI1 hX (pc := 5) sX10_131 (xs_1 hL) (c_X1_isState l0 hL hC.1 (by omega)) (by decide) (Nat.le_refl 0) (Nat.le_refl 0) (Nat.le_of_ble_eq_true rfl) dX10_read_5 (fun x_5 I_5 J_5 h_5 => ?_)
  obtain ⟨rfl, rfl, h_5⟩ := h_5
  refine ww_if_eq hX (pc := 8) (tgt := 27) dX10_read_8 (by decide) (fun h_8 => ?_) (fun h_8 => ?_)
  · simp only [w32_mod] at h_8
    refine ww_aload_n hX (pc := 27) dX10_read_27 rfl ?_
    refine ww_iconst hX (pc := 28) (x := (-1)) dX10_read_28 rfl ?_
    refine vI1 hX (pc := 29) sX10_89 (xs_0 hL) (c8_X10_refuse l0 hL hC hF (by omega) (by omega)) (by decide) (Nat.le_refl 0) (Nat.le_refl 0) (Nat.le_of_ble_eq_true rfl) dX10_read_29 (fun x_29 I_29 J_29 h_29 => ?_)
    obtain ⟨h_29, frI_29⟩ := h_29
    have kI_29 : Kp 0 49 Ia I_29 := Kp_tr (Kp_rf (a := 0) (b := 49)) (Kp_wd h_29.1 (by decide) (by decide))
    have kJ_29 : Kp 0 49 Ja J_29 := Kp_tr (Kp_rf (a := 0) (b := 49)) (Kp_wd h_29.2.1 (by decide) (by decide))
    have cI_29 : CX I_29 := h_29.2.2.1
    have qI_29 := XI_o cI_29.1
    have wI_29 : Fw [3, 18, 19, 20, 21, 22, 23, 24, 25, 26, 27, 28, 29, 30, 33, 48] [(0, 16)] Ia I_29 := Fw_tr Fw_rf (Fw_wd h_29.2.2.2.1 (by decide) (by decide))
    have r5_I_29 : I_29 1 5 = Ia 1 5 := h_29.2.2.2.1 1 5 (by decide) (by decide) (by decide)
    have r6_I_29 : I_29 1 6 = Ia 1 6 := h_29.2.2.2.1 1 6 (by decide) (by decide) (by decide)
    have r7_I_29 : I_29 1 7 = Ia 1 7 := h_29.2.2.2.1 1 7 (by decide) (by decide) (by decide)
    have r8_I_29 : I_29 1 8 = Ia 1 8 := h_29.2.2.2.1 1 8 (by decide) (by decide) (by decide)
    have r9_I_29 : I_29 1 9 = Ia 1 9 := h_29.2.2.2.1 1 9 (by decide) (by decide) (by decide)
    have r10_I_29 : I_29 1 10 = Ia 1 10 := h_29.2.2.2.1 1 10 (by decide) (by decide) (by decide)
    have r11_I_29 : I_29 1 11 = Ia 1 11 := h_29.2.2.2.1 1 11 (by decide) (by decide) (by decide)
    have r81_I_29 : I_29 8 1 = Ia 8 1 := h_29.2.2.2.1 8 1 (by decide) (by decide) (by decide)
    have rf_I_29 : FU (I_29 1 5) = FU (Ia 1 5) := by rw [r5_I_29]
    have y3_I_29 : I_29 3 = Ia 3 := Fw_row h_29.2.2.2.1 3 (by decide) (by decide) (by decide)
    have xv_I_29 := h_29.2.2.2.2
    refine rI hX (pc := 32) hT (Nat.le_refl 0) (Nat.le_refl 0) dX10_read_32 ?_
    exact ⟨⟨kI_29, kJ_29, cI_29, (Fw_wd wI_29 (by decide) (by decide)), (fun _ => ⟨xv_I_29.1, h_29.2.2.2.1, xv_I_29.2⟩), (fun h9 => absurd h9 (by omega))⟩, frI_29⟩
  · simp only [w32_mod] at h_8
    have k_5 := h_5.2.mp (by omega)
    clear h_5
    refine ww_iload_n hX (pc := 11) dX10_read_11 rfl ?_
    refine ww_iconst hX (pc := 12) (x := (-1)) dX10_read_12 rfl ?_
    refine ww_icmp_eq hX (pc := 13) (tgt := 33) dX10_read_13 (by decide) (fun h_13 => ?_) (fun h_13 => ?_)
    · simp only [w32_mod] at h_13
      refine ww_aload_n hX (pc := 33) dX10_read_33 rfl ?_
      refine ww_getR hX (pc := 34) fX10_10 (by decide) (xs_0 hL) (xr_0_0 hL) dX10_read_34 ?_
      refine ww_getR hX (pc := 37) fX10_137 (by decide) (xs_1 hL) (xr_1_1 hL) dX10_read_37 ?_
      refine ww_iload_n hX (pc := 40) dX10_read_40 rfl ?_
      refine ww_iald hX (pc := 41) (xs_3 hL) (by decide) (by omega) (by omega) dX10_read_41 ?_
      refine ww_nmI (fun v_42 hv_42 => ?_)
      refine ww_istore_n hX (pc := 42) (lv' := [some (kR (some 0)), some (kI a), some (kI b), some (kI v_42)]) dX10_read_42 (by decide) rfl rfl ?_
      refine ww_aload_n hX (pc := 43) dX10_read_43 rfl ?_
      refine ww_getR hX (pc := 44) fX10_10 (by decide) (xs_0 hL) (xr_0_0 hL) dX10_read_44 ?_
      refine ww_getR hX (pc := 47) fX10_137 (by decide) (xs_1 hL) (xr_1_1 hL) dX10_read_47 ?_
      refine ww_iload_n hX (pc := 50) dX10_read_50 rfl ?_
      refine ww_iload_n hX (pc := 51) dX10_read_51 rfl ?_
      refine ww_iast hX (pc := 52) (xs_3 hL) (by decide) (by omega) (by omega) dX10_read_52 ?_
      refine ww_nmH (fun I_52 eI_52 => ?_)
      have kI_52 : Kp 0 49 Ia I_52 := by rw [eI_52]; exact Kp_up (Kp_rf (a := 0) (b := 49)) _ _ (by decide)
      have cI_52 : CX I_52 := by rw [eI_52]; exact CX_x hC (XI_3 hC.1 (by omega) (by omega)) (by decide)
      have qI_52 := XI_o cI_52.1
      have r5_I_52 : I_52 1 5 = Ia 1 5 := by rw [eI_52, up2_off _ _ _ (by decide)]
      have r6_I_52 : I_52 1 6 = Ia 1 6 := by rw [eI_52, up2_off _ _ _ (by decide)]
      have r8_I_52 : I_52 1 8 = Ia 1 8 := by rw [eI_52, up2_off _ _ _ (by decide)]
      have r9_I_52 : I_52 1 9 = Ia 1 9 := by rw [eI_52, up2_off _ _ _ (by decide)]
      have r10_I_52 : I_52 1 10 = Ia 1 10 := by rw [eI_52, up2_off _ _ _ (by decide)]
      have r11_I_52 : I_52 1 11 = Ia 1 11 := by rw [eI_52, up2_off _ _ _ (by decide)]
      have rf_I_52 : FU (I_52 1 5) = FU (Ia 1 5) := by rw [r5_I_52]
      have wI_52 : Fw [3, 18, 19, 20, 21, 22, 23, 24, 25, 26, 27, 28, 29, 30, 33] [(0, 16)] Ia I_52 := by rw [eI_52]; exact Fw_up Fw_rf (Or.inl (by decide))
      have r7_I_52 : I_52 1 7 = Ia 1 7 := by rw [eI_52, up2_n _ _ (Or.inl (by decide))]
      refine ww_aload_n hX (pc := 53) dX10_read_53 rfl ?_
      refine vV0 hX (pc := 54) sX10_111 (xs_0 hL) (c8_X10_codeChanged l0 hL cI_52) (by decide) (Nat.le_refl 0) (Nat.le_refl 0) (Nat.le_of_ble_eq_true rfl) dX10_read_54 (fun I_54 J_54 h_54 => ?_)
      obtain ⟨h_54, frI_54⟩ := h_54
      have kI_54 : Kp 0 49 Ia I_54 := Kp_tr kI_52 (Kp_wd h_54.1 (by decide) (by decide))
      have kJ_54 : Kp 0 49 Ja J_54 := Kp_tr (Kp_rf (a := 0) (b := 49)) (Kp_wd h_54.2.1 (by decide) (by decide))
      have cI_54 : CX I_54 := h_54.2.2.1
      have qI_54 := XI_o cI_54.1
      have wI_54 : Fw [3, 18, 19, 20, 21, 22, 23, 24, 25, 26, 27, 28, 29, 30, 33] [(0, 16)] Ia I_54 := Fw_tr wI_52 (Fw_wd h_54.2.2.2.1 (by decide) (by decide))
      have r5_I_54 : I_54 1 5 = I_52 1 5 := h_54.2.2.2.1 1 5 (by decide) (by decide) (by decide)
      have r6_I_54 : I_54 1 6 = I_52 1 6 := h_54.2.2.2.1 1 6 (by decide) (by decide) (by decide)
      have r7_I_54 : I_54 1 7 = I_52 1 7 := h_54.2.2.2.1 1 7 (by decide) (by decide) (by decide)
      have r8_I_54 : I_54 1 8 = I_52 1 8 := h_54.2.2.2.1 1 8 (by decide) (by decide) (by decide)
      have r9_I_54 : I_54 1 9 = I_52 1 9 := h_54.2.2.2.1 1 9 (by decide) (by decide) (by decide)
      have r10_I_54 : I_54 1 10 = I_52 1 10 := h_54.2.2.2.1 1 10 (by decide) (by decide) (by decide)
      have r11_I_54 : I_54 1 11 = I_52 1 11 := h_54.2.2.2.1 1 11 (by decide) (by decide) (by decide)
      have r81_I_54 : I_54 8 1 = I_52 8 1 := h_54.2.2.2.1 8 1 (by decide) (by decide) (by decide)
      have rf_I_54 : FU (I_54 1 5) = FU (I_52 1 5) := by rw [r5_I_54]
      have y3_I_54 : I_54 3 = I_52 3 := Fw_row h_54.2.2.2.1 3 (by decide) (by decide) (by decide)
      refine ww_aload_n hX (pc := 57) dX10_read_57 rfl ?_
      refine ww_iload_n hX (pc := 58) dX10_read_58 rfl ?_
      refine vI1 hX (pc := 59) sX10_114 (xs_0 hL) (c8_X10_accept l0 hL cI_54 frI_54) (by decide) (Nat.le_refl 0) (Nat.le_refl 0) (Nat.le_of_ble_eq_true rfl) dX10_read_59 (fun x_59 I_59 J_59 h_59 => ?_)
      obtain ⟨h_59, frI_59⟩ := h_59
      have kI_59 : Kp 0 49 Ia I_59 := Kp_tr kI_54 (Kp_wd h_59.1 (by decide) (by decide))
      have kJ_59 : Kp 0 49 Ja J_59 := Kp_tr kJ_54 (Kp_wd h_59.2.1 (by decide) (by decide))
      have cI_59 : CX I_59 := h_59.2.2.1
      have qI_59 := XI_o cI_59.1
      have wI_59 : Fw [3, 18, 19, 20, 21, 22, 23, 24, 25, 26, 27, 28, 29, 30, 33] [(0, 16)] Ia I_59 := Fw_tr wI_54 (Fw_wd h_59.2.2.2.1 (by decide) (by decide))
      have r5_I_59 : I_59 1 5 = I_54 1 5 := h_59.2.2.2.1 1 5 (by decide) (by decide) (by decide)
      have r6_I_59 : I_59 1 6 = I_54 1 6 := h_59.2.2.2.1 1 6 (by decide) (by decide) (by decide)
      have r7_I_59 : I_59 1 7 = I_54 1 7 := h_59.2.2.2.1 1 7 (by decide) (by decide) (by decide)
      have r8_I_59 : I_59 1 8 = I_54 1 8 := h_59.2.2.2.1 1 8 (by decide) (by decide) (by decide)
      have r9_I_59 : I_59 1 9 = I_54 1 9 := h_59.2.2.2.1 1 9 (by decide) (by decide) (by decide)
      have r10_I_59 : I_59 1 10 = I_54 1 10 := h_59.2.2.2.1 1 10 (by decide) (by decide) (by decide)
      have r11_I_59 : I_59 1 11 = I_54 1 11 := h_59.2.2.2.1 1 11 (by decide) (by decide) (by decide)
      have r81_I_59 : I_59 8 1 = I_54 8 1 := h_59.2.2.2.1 8 1 (by decide) (by decide) (by decide)
      have rf_I_59 : FU (I_59 1 5) = FU (I_54 1 5) := by rw [r5_I_59]
      have y3_I_59 : I_59 3 = I_54 3 := Fw_row h_59.2.2.2.1 3 (by decide) (by decide) (by decide)
      have xv_I_59 := h_59.2.2.2.2
      refine rI hX (pc := 62) hT (Nat.le_refl 0) (Nat.le_refl 0) dX10_read_62 ?_
      exact ⟨⟨kI_59, kJ_59, cI_59, (Fw_wd wI_59 (by decide) (by decide)), (fun h9 => absurd (by omega) h9), (fun _ => ⟨by rw [xv_I_59.1, hv_42], wI_59, xv_I_59.2, by rw [y3_I_59, y3_I_54, eI_52, up2_row]⟩)⟩, frI_59⟩
    · simp only [w32_mod] at h_13
      refine ww_aload_n hX (pc := 16) dX10_read_16 rfl ?_
      refine ww_getR hX (pc := 17) fX10_10 (by decide) (xs_0 hL) (xr_0_0 hL) dX10_read_17 ?_
      refine ww_iload_n hX (pc := 20) dX10_read_20 rfl ?_
      refine vI1 hX (pc := 21) sX10_134 (xs_1 hL) (c_X1_isNews l0 hL hC.1 (by omega)) (by decide) (Nat.le_refl 0) (Nat.le_refl 0) (Nat.le_of_ble_eq_true rfl) dX10_read_21 (fun x_21 I_21 J_21 h_21 => ?_)
      obtain ⟨rfl, rfl, h_21⟩ := h_21
      refine ww_if_ne hX (pc := 24) (tgt := 33) dX10_read_24 (by decide) (fun h_24 => ?_) (fun h_24 => ?_)
      · simp only [w32_mod] at h_24
        have k_21 := h_21.2.mp (by omega)
        clear h_21
        refine ww_aload_n hX (pc := 33) dX10_read_33 rfl ?_
        refine ww_getR hX (pc := 34) fX10_10 (by decide) (xs_0 hL) (xr_0_0 hL) dX10_read_34 ?_
        refine ww_getR hX (pc := 37) fX10_137 (by decide) (xs_1 hL) (xr_1_1 hL) dX10_read_37 ?_
        refine ww_iload_n hX (pc := 40) dX10_read_40 rfl ?_
        refine ww_iald hX (pc := 41) (xs_3 hL) (by decide) (by omega) (by omega) dX10_read_41 ?_
        refine ww_nmI (fun v_42 hv_42 => ?_)
        refine ww_istore_n hX (pc := 42) (lv' := [some (kR (some 0)), some (kI a), some (kI b), some (kI v_42)]) dX10_read_42 (by decide) rfl rfl ?_
        refine ww_aload_n hX (pc := 43) dX10_read_43 rfl ?_
        refine ww_getR hX (pc := 44) fX10_10 (by decide) (xs_0 hL) (xr_0_0 hL) dX10_read_44 ?_
        refine ww_getR hX (pc := 47) fX10_137 (by decide) (xs_1 hL) (xr_1_1 hL) dX10_read_47 ?_
        refine ww_iload_n hX (pc := 50) dX10_read_50 rfl ?_
        refine ww_iload_n hX (pc := 51) dX10_read_51 rfl ?_
        refine ww_iast hX (pc := 52) (xs_3 hL) (by decide) (by omega) (by omega) dX10_read_52 ?_
        refine ww_nmH (fun I_52 eI_52 => ?_)
        have kI_52 : Kp 0 49 Ia I_52 := by rw [eI_52]; exact Kp_up (Kp_rf (a := 0) (b := 49)) _ _ (by decide)
        have cI_52 : CX I_52 := by rw [eI_52]; exact CX_x hC (XI_3 hC.1 (by omega) (by omega)) (by decide)
        have qI_52 := XI_o cI_52.1
        have r5_I_52 : I_52 1 5 = Ia 1 5 := by rw [eI_52, up2_off _ _ _ (by decide)]
        have r6_I_52 : I_52 1 6 = Ia 1 6 := by rw [eI_52, up2_off _ _ _ (by decide)]
        have r8_I_52 : I_52 1 8 = Ia 1 8 := by rw [eI_52, up2_off _ _ _ (by decide)]
        have r9_I_52 : I_52 1 9 = Ia 1 9 := by rw [eI_52, up2_off _ _ _ (by decide)]
        have r10_I_52 : I_52 1 10 = Ia 1 10 := by rw [eI_52, up2_off _ _ _ (by decide)]
        have r11_I_52 : I_52 1 11 = Ia 1 11 := by rw [eI_52, up2_off _ _ _ (by decide)]
        have rf_I_52 : FU (I_52 1 5) = FU (Ia 1 5) := by rw [r5_I_52]
        have wI_52 : Fw [3, 18, 19, 20, 21, 22, 23, 24, 25, 26, 27, 28, 29, 30, 33] [(0, 16)] Ia I_52 := by rw [eI_52]; exact Fw_up Fw_rf (Or.inl (by decide))
        have r7_I_52 : I_52 1 7 = Ia 1 7 := by rw [eI_52, up2_n _ _ (Or.inl (by decide))]
        refine ww_aload_n hX (pc := 53) dX10_read_53 rfl ?_
        refine vV0 hX (pc := 54) sX10_111 (xs_0 hL) (c8_X10_codeChanged l0 hL cI_52) (by decide) (Nat.le_refl 0) (Nat.le_refl 0) (Nat.le_of_ble_eq_true rfl) dX10_read_54 (fun I_54 J_54 h_54 => ?_)
        obtain ⟨h_54, frI_54⟩ := h_54
        have kI_54 : Kp 0 49 Ia I_54 := Kp_tr kI_52 (Kp_wd h_54.1 (by decide) (by decide))
        have kJ_54 : Kp 0 49 Ja J_54 := Kp_tr (Kp_rf (a := 0) (b := 49)) (Kp_wd h_54.2.1 (by decide) (by decide))
        have cI_54 : CX I_54 := h_54.2.2.1
        have qI_54 := XI_o cI_54.1
        have wI_54 : Fw [3, 18, 19, 20, 21, 22, 23, 24, 25, 26, 27, 28, 29, 30, 33] [(0, 16)] Ia I_54 := Fw_tr wI_52 (Fw_wd h_54.2.2.2.1 (by decide) (by decide))
        have r5_I_54 : I_54 1 5 = I_52 1 5 := h_54.2.2.2.1 1 5 (by decide) (by decide) (by decide)
        have r6_I_54 : I_54 1 6 = I_52 1 6 := h_54.2.2.2.1 1 6 (by decide) (by decide) (by decide)
        have r7_I_54 : I_54 1 7 = I_52 1 7 := h_54.2.2.2.1 1 7 (by decide) (by decide) (by decide)
        have r8_I_54 : I_54 1 8 = I_52 1 8 := h_54.2.2.2.1 1 8 (by decide) (by decide) (by decide)
        have r9_I_54 : I_54 1 9 = I_52 1 9 := h_54.2.2.2.1 1 9 (by decide) (by decide) (by decide)
        have r10_I_54 : I_54 1 10 = I_52 1 10 := h_54.2.2.2.1 1 10 (by decide) (by decide) (by decide)
        have r11_I_54 : I_54 1 11 = I_52 1 11 := h_54.2.2.2.1 1 11 (by decide) (by decide) (by decide)
        have r81_I_54 : I_54 8 1 = I_52 8 1 := h_54.2.2.2.1 8 1 (by decide) (by decide) (by decide)
        have rf_I_54 : FU (I_54 1 5) = FU (I_52 1 5) := by rw [r5_I_54]
        have y3_I_54 : I_54 3 = I_52 3 := Fw_row h_54.2.2.2.1 3 (by decide) (by decide) (by decide)
        refine ww_aload_n hX (pc := 57) dX10_read_57 rfl ?_
        refine ww_iload_n hX (pc := 58) dX10_read_58 rfl ?_
        refine vI1 hX (pc := 59) sX10_114 (xs_0 hL) (c8_X10_accept l0 hL cI_54 frI_54) (by decide) (Nat.le_refl 0) (Nat.le_refl 0) (Nat.le_of_ble_eq_true rfl) dX10_read_59 (fun x_59 I_59 J_59 h_59 => ?_)
        obtain ⟨h_59, frI_59⟩ := h_59
        have kI_59 : Kp 0 49 Ia I_59 := Kp_tr kI_54 (Kp_wd h_59.1 (by decide) (by decide))
        have kJ_59 : Kp 0 49 Ja J_59 := Kp_tr kJ_54 (Kp_wd h_59.2.1 (by decide) (by decide))
        have cI_59 : CX I_59 := h_59.2.2.1
        have qI_59 := XI_o cI_59.1
        have wI_59 : Fw [3, 18, 19, 20, 21, 22, 23, 24, 25, 26, 27, 28, 29, 30, 33] [(0, 16)] Ia I_59 := Fw_tr wI_54 (Fw_wd h_59.2.2.2.1 (by decide) (by decide))
        have r5_I_59 : I_59 1 5 = I_54 1 5 := h_59.2.2.2.1 1 5 (by decide) (by decide) (by decide)
        have r6_I_59 : I_59 1 6 = I_54 1 6 := h_59.2.2.2.1 1 6 (by decide) (by decide) (by decide)
        have r7_I_59 : I_59 1 7 = I_54 1 7 := h_59.2.2.2.1 1 7 (by decide) (by decide) (by decide)
        have r8_I_59 : I_59 1 8 = I_54 1 8 := h_59.2.2.2.1 1 8 (by decide) (by decide) (by decide)
        have r9_I_59 : I_59 1 9 = I_54 1 9 := h_59.2.2.2.1 1 9 (by decide) (by decide) (by decide)
        have r10_I_59 : I_59 1 10 = I_54 1 10 := h_59.2.2.2.1 1 10 (by decide) (by decide) (by decide)
        have r11_I_59 : I_59 1 11 = I_54 1 11 := h_59.2.2.2.1 1 11 (by decide) (by decide) (by decide)
        have r81_I_59 : I_59 8 1 = I_54 8 1 := h_59.2.2.2.1 8 1 (by decide) (by decide) (by decide)
        have rf_I_59 : FU (I_59 1 5) = FU (I_54 1 5) := by rw [r5_I_59]
        have y3_I_59 : I_59 3 = I_54 3 := Fw_row h_59.2.2.2.1 3 (by decide) (by decide) (by decide)
        have xv_I_59 := h_59.2.2.2.2
        refine rI hX (pc := 62) hT (Nat.le_refl 0) (Nat.le_refl 0) dX10_read_62 ?_
        exact ⟨⟨kI_59, kJ_59, cI_59, (Fw_wd wI_59 (by decide) (by decide)), (fun h9 => absurd (by omega) h9), (fun _ => ⟨by rw [xv_I_59.1, hv_42], wI_59, xv_I_59.2, by rw [y3_I_59, y3_I_54, eI_52, up2_row]⟩)⟩, frI_59⟩
      · simp only [w32_mod] at h_24
        refine ww_aload_n hX (pc := 27) dX10_read_27 rfl ?_
        refine ww_iconst hX (pc := 28) (x := (-1)) dX10_read_28 rfl ?_
        refine vI1 hX (pc := 29) sX10_89 (xs_0 hL) (c8_X10_refuse l0 hL hC hF (by omega) (by omega)) (by decide) (Nat.le_refl 0) (Nat.le_refl 0) (Nat.le_of_ble_eq_true rfl) dX10_read_29 (fun x_29 I_29 J_29 h_29 => ?_)
        obtain ⟨h_29, frI_29⟩ := h_29
        have kI_29 : Kp 0 49 Ia I_29 := Kp_tr (Kp_rf (a := 0) (b := 49)) (Kp_wd h_29.1 (by decide) (by decide))
        have kJ_29 : Kp 0 49 Ja J_29 := Kp_tr (Kp_rf (a := 0) (b := 49)) (Kp_wd h_29.2.1 (by decide) (by decide))
        have cI_29 : CX I_29 := h_29.2.2.1
        have qI_29 := XI_o cI_29.1
        have wI_29 : Fw [3, 18, 19, 20, 21, 22, 23, 24, 25, 26, 27, 28, 29, 30, 33, 48] [(0, 16)] Ia I_29 := Fw_tr Fw_rf (Fw_wd h_29.2.2.2.1 (by decide) (by decide))
        have r5_I_29 : I_29 1 5 = Ia 1 5 := h_29.2.2.2.1 1 5 (by decide) (by decide) (by decide)
        have r6_I_29 : I_29 1 6 = Ia 1 6 := h_29.2.2.2.1 1 6 (by decide) (by decide) (by decide)
        have r7_I_29 : I_29 1 7 = Ia 1 7 := h_29.2.2.2.1 1 7 (by decide) (by decide) (by decide)
        have r8_I_29 : I_29 1 8 = Ia 1 8 := h_29.2.2.2.1 1 8 (by decide) (by decide) (by decide)
        have r9_I_29 : I_29 1 9 = Ia 1 9 := h_29.2.2.2.1 1 9 (by decide) (by decide) (by decide)
        have r10_I_29 : I_29 1 10 = Ia 1 10 := h_29.2.2.2.1 1 10 (by decide) (by decide) (by decide)
        have r11_I_29 : I_29 1 11 = Ia 1 11 := h_29.2.2.2.1 1 11 (by decide) (by decide) (by decide)
        have r81_I_29 : I_29 8 1 = Ia 8 1 := h_29.2.2.2.1 8 1 (by decide) (by decide) (by decide)
        have rf_I_29 : FU (I_29 1 5) = FU (Ia 1 5) := by rw [r5_I_29]
        have y3_I_29 : I_29 3 = Ia 3 := Fw_row h_29.2.2.2.1 3 (by decide) (by decide) (by decide)
        have xv_I_29 := h_29.2.2.2.2
        refine rI hX (pc := 32) hT (Nat.le_refl 0) (Nat.le_refl 0) dX10_read_32 ?_
        exact ⟨⟨kI_29, kJ_29, cI_29, (Fw_wd wI_29 (by decide) (by decide)), (fun _ => ⟨xv_I_29.1, h_29.2.2.2.1, xv_I_29.2⟩), (fun h9 => absurd h9 (by omega))⟩, frI_29⟩
set_option maxHeartbeats 4000000 in
set_option maxRecDepth 20000 in
theorem c8_X10_row (l0 : Launch) {Ia Ja : aI1} {Ra : aR1} {Sa : aS1} (hL : LY Ra Sa) (hC : CX Ia) (hF : FRk Ia Ja)  : CT l0 10 0 0 mX10_row [kR (some 0)] Ia Ja Ra Sa (cI (fun x I' J' => (Kp 0 49 Ia I' ∧ Kp 0 49 Ja J' ∧ CX I' ∧ Fw [3, 18, 19, 20, 21, 22, 23, 24, 25, 26, 27, 28, 29, 30, 33, 48] [(0, 15), (0, 16), (8, 1)] Ia I' ∧ (Ia 8 1 = 0 → x = -6 ∧ RFc Ia I' (-6)) ∧ (¬ Ia 8 1 = 0 → Fw [3, 18, 19, 20, 21, 22, 23, 24, 25, 26, 27, 28, 29, 30, 33] [(0, 15), (0, 16), (8, 1)] Ia I' ∧ I' 0 16 = 0 ∧ I' 8 1 = 0 ∧ I' 0 15 = max 0 (Ia 8 1 - (FU (Ia 1 5) + 1)) ∧ (∀ j : Nat, I' 3 j = if (j : Int) < FU (Ia 1 5) + 1 then RWv (Ia 9) (Ia 8 1) (Ia 1 6) j else Ia 3 j) ∧ x = cnR (I' 3) (FU (Ia 1 5) + 1).toNat)) ∧ FRk I' J') Ra Sa) := by
  refine ct_in pn_X10 (Nat.le_of_ble_eq_true rfl) (fun X hX hT hIn => ?_)
  have hX : aK l0 X cX10_row 4 RX10 (some .int) 10 0 0 := hX
  change WW X 0 [some (kR (some 0)), none, none, none] [] Ia Ja Ra Sa 0 0
  have hI := hC.1
  have hq := XI_o hI
  refine ww_aload_n hX (pc := 0) dX10_row_0 rfl ?_
  refine ww_getR hX (pc := 1) fX10_23 (by decide) (xs_0 hL) (xr_0_2 hL) dX10_row_1 ?_
  refine ww_getI hX (pc := 4) fX10_148 (by decide) (xs_8 hL) dX10_row_4 ?_
  refine ww_if_ne hX (pc := 7) (tgt := 17) dX10_row_7 (by decide) (fun h_7 => ?_) (fun h_7 => ?_)
  · simp only [w32_mod] at h_7
    refine ww_aload_n hX (pc := 17) dX10_row_17 rfl ?_
    refine ww_getR hX (pc := 18) fX10_10 (by decide) (xs_0 hL) (xr_0_0 hL) dX10_row_18 ?_
    refine vI0 hX (pc := 21) sX10_151 (xs_1 hL) (c_X1_full l0 hL hC.1) (by decide) (Nat.le_refl 0) (Nat.le_refl 0) (Nat.le_of_ble_eq_true rfl) dX10_row_21 (fun x_21 I_21 J_21 h_21 => ?_)
    obtain ⟨rfl, rfl, h_21⟩ := h_21
    refine ww_istore_n hX (pc := 24) (lv' := [some (kR (some 0)), some (kI x_21), none, none]) dX10_row_24 (by decide) rfl rfl ?_
    refine ww_iconst hX (pc := 25) (x := 0) dX10_row_25 rfl ?_
    refine ww_istore_n hX (pc := 26) (lv' := [some (kR (some 0)), some (kI x_21), some (kI 0), none]) dX10_row_26 (by decide) rfl rfl ?_
    have hl_27 : ∀ (n_27 : Nat) (i : Int) (I2 : aI1) (J2 : aI1), (256 - i).toNat = n_27 → (Kp 0 49 Ia I2 ∧ Kp 0 49 Ja J2 ∧ CX I2 ∧ Fw [3, 18, 19, 20, 21, 22, 23, 24, 25, 26, 27, 28, 29, 30, 33] [(0, 15), (0, 16), (8, 1)] Ia I2 ∧ (I2 1 5 = Ia 1 5 ∧ I2 1 6 = Ia 1 6) ∧ ((0 ≤ i ∧ i ≤ FU (Ia 1 5) + 1 ∧ I2 8 1 = Ia 8 1) ∧ I2 9 = Ia 9 ∧ (∀ j : Nat, I2 3 j = if (j : Int) < i then RWv (Ia 9) (Ia 8 1) (Ia 1 6) j else Ia 3 j))) → WW X 27 [some (kR (some 0)), some (kI x_21), some (kI i), none] [] I2 J2 Ra Sa 0 0 := by
      intro n_27
      induction n_27 using Nat.strongRecOn with
      | ind n_27 ih_27 =>
        intro i I2 J2 hm_27 hv_27
        have hq_27 := Sh0_i hm_27
        clear hm_27
        obtain ⟨kI2, kJ2, cI2, wI2, hI20, ⟨hi, i2_9, h3⟩⟩ := hv_27
        have qI2 := XI_o cI2.1
        have rfI2 := congrArg FU hI20.1
        refine ww_iload_n hX (pc := 27) dX10_row_27 rfl ?_
        refine ww_iload_n hX (pc := 28) dX10_row_28 rfl ?_
        refine ww_icmp_gt hX (pc := 29) (tgt := 72) dX10_row_29 (by decide) (fun h_29 => ?_) (fun h_29 => ?_)
        · simp only [w32_mod] at h_29
          refine ww_aload_n hX (pc := 72) dX10_row_72 rfl ?_
          refine ww_iconst hX (pc := 73) (x := 0) dX10_row_73 rfl ?_
          refine ww_aload_n hX (pc := 74) dX10_row_74 rfl ?_
          refine ww_getR hX (pc := 75) fX10_23 (by decide) (xs_0 hL) (xr_0_2 hL) dX10_row_75 ?_
          refine ww_getI hX (pc := 78) fX10_148 (by decide) (xs_8 hL) dX10_row_78 ?_
          refine ww_iload_n hX (pc := 81) dX10_row_81 rfl ?_
          refine ww_isub hX (pc := 82) dX10_row_82 ?_
          refine ww_iconst hX (pc := 83) (x := 1) dX10_row_83 rfl ?_
          refine ww_isub hX (pc := 84) dX10_row_84 ?_
          refine ww_mmax hX (pc := 85) tb_459 tb_460 tb_13 tb_461 (by decide) (Nat.le_refl 0) (Nat.le_refl 0) (Nat.le_of_ble_eq_true rfl) dX10_row_85 ?_
          refine ww_toI (i_max_r (by omega) (by omega) (by omega) (by omega)) ?_
          refine ww_putI hX (pc := 88) (fun h9 => absurd h9 (by decide)) gX10_164 rfl (xs_0 hL) dX10_row_88 ?_
          refine ww_nmH (fun I_88 eI_88 => ?_)
          have kI_88 : Kp 0 49 Ia I_88 := by rw [eI_88]; exact Kp_up kI2 _ _ (by decide)
          have cI_88 : CX I_88 := by rw [eI_88]; exact CX_x cI2 (XI_0 cI2.1 (by decide)) (by decide)
          have qI_88 := XI_o cI_88.1
          have r5_I_88 : I_88 1 5 = I2 1 5 := by rw [eI_88, up2_off _ _ _ (by decide)]
          have r6_I_88 : I_88 1 6 = I2 1 6 := by rw [eI_88, up2_off _ _ _ (by decide)]
          have r8_I_88 : I_88 1 8 = I2 1 8 := by rw [eI_88, up2_off _ _ _ (by decide)]
          have r9_I_88 : I_88 1 9 = I2 1 9 := by rw [eI_88, up2_off _ _ _ (by decide)]
          have r10_I_88 : I_88 1 10 = I2 1 10 := by rw [eI_88, up2_off _ _ _ (by decide)]
          have r11_I_88 : I_88 1 11 = I2 1 11 := by rw [eI_88, up2_off _ _ _ (by decide)]
          have rf_I_88 : FU (I_88 1 5) = FU (I2 1 5) := by rw [r5_I_88]
          have wI_88 : Fw [3, 18, 19, 20, 21, 22, 23, 24, 25, 26, 27, 28, 29, 30, 33] [(0, 15), (0, 16), (8, 1)] Ia I_88 := by rw [eI_88]; exact Fw_up wI2 (Or.inr (by decide))
          have r7_I_88 : I_88 1 7 = I2 1 7 := by rw [eI_88, up2_n _ _ (Or.inl (by decide))]
          have y3_I_88 : I_88 3 = I2 3 := by rw [eI_88, up2_off _ _ _ (by decide)]
          have y9_I_88 : I_88 9 = I2 9 := by rw [eI_88, up2_off _ _ _ (by decide)]
          have z15 : I_88 0 15 = _ := (congrFun (congrFun eI_88 0) 15).trans (up2_s _ _ _ _)
          have q81b : I_88 8 1 = I2 8 1 := by rw [eI_88, up2_off _ _ _ (by decide)]
          refine ww_aload_n hX (pc := 91) dX10_row_91 rfl ?_
          refine ww_getR hX (pc := 92) fX10_23 (by decide) (xs_0 hL) (xr_0_2 hL) dX10_row_92 ?_
          refine ww_iconst hX (pc := 95) (x := 0) dX10_row_95 rfl ?_
          refine ww_putI hX (pc := 96) (fun h9 => absurd h9 (by decide)) gX10_148 rfl (xs_8 hL) dX10_row_96 ?_
          refine ww_nmH (fun I_96 eI_96 => ?_)
          have kI_96 : Kp 0 49 Ia I_96 := by rw [eI_96]; exact Kp_up kI_88 _ _ (by decide)
          have cI_96 : CX I_96 := by rw [eI_96]; exact CX_x cI_88 (XI_8_1 cI_88.1 (by omega) (by omega)) (by decide)
          have qI_96 := XI_o cI_96.1
          have r5_I_96 : I_96 1 5 = I_88 1 5 := by rw [eI_96, up2_off _ _ _ (by decide)]
          have r6_I_96 : I_96 1 6 = I_88 1 6 := by rw [eI_96, up2_off _ _ _ (by decide)]
          have r8_I_96 : I_96 1 8 = I_88 1 8 := by rw [eI_96, up2_off _ _ _ (by decide)]
          have r9_I_96 : I_96 1 9 = I_88 1 9 := by rw [eI_96, up2_off _ _ _ (by decide)]
          have r10_I_96 : I_96 1 10 = I_88 1 10 := by rw [eI_96, up2_off _ _ _ (by decide)]
          have r11_I_96 : I_96 1 11 = I_88 1 11 := by rw [eI_96, up2_off _ _ _ (by decide)]
          have rf_I_96 : FU (I_96 1 5) = FU (I_88 1 5) := by rw [r5_I_96]
          have wI_96 : Fw [3, 18, 19, 20, 21, 22, 23, 24, 25, 26, 27, 28, 29, 30, 33] [(0, 15), (0, 16), (8, 1)] Ia I_96 := by rw [eI_96]; exact Fw_up wI_88 (Or.inr (by decide))
          have r7_I_96 : I_96 1 7 = I_88 1 7 := by rw [eI_96, up2_n _ _ (Or.inl (by decide))]
          have y3_I_96 : I_96 3 = I_88 3 := by rw [eI_96, up2_off _ _ _ (by decide)]
          have y9_I_96 : I_96 9 = I_88 9 := by rw [eI_96, up2_off _ _ _ (by decide)]
          have z81 : I_96 8 1 = 0 := by rw [eI_96, up2_s]
          have z15_ : I_96 0 15 = I_88 0 15 := by rw [eI_96, up2_off _ _ _ (by decide)]
          refine ww_aload_n hX (pc := 99) dX10_row_99 rfl ?_
          refine vV0 hX (pc := 100) sX10_111 (xs_0 hL) (c8_X10_codeChanged l0 hL cI_96) (by decide) (Nat.le_refl 0) (Nat.le_refl 0) (Nat.le_of_ble_eq_true rfl) dX10_row_100 (fun I_100 J_100 h_100 => ?_)
          obtain ⟨h_100, frI_100⟩ := h_100
          have kI_100 : Kp 0 49 Ia I_100 := Kp_tr kI_96 (Kp_wd h_100.1 (by decide) (by decide))
          have kJ_100 : Kp 0 49 Ja J_100 := Kp_tr kJ2 (Kp_wd h_100.2.1 (by decide) (by decide))
          have cI_100 : CX I_100 := h_100.2.2.1
          have qI_100 := XI_o cI_100.1
          have wI_100 : Fw [3, 18, 19, 20, 21, 22, 23, 24, 25, 26, 27, 28, 29, 30, 33] [(0, 15), (0, 16), (8, 1)] Ia I_100 := Fw_tr wI_96 (Fw_wd h_100.2.2.2.1 (by decide) (by decide))
          have r5_I_100 : I_100 1 5 = I_96 1 5 := h_100.2.2.2.1 1 5 (by decide) (by decide) (by decide)
          have r6_I_100 : I_100 1 6 = I_96 1 6 := h_100.2.2.2.1 1 6 (by decide) (by decide) (by decide)
          have r7_I_100 : I_100 1 7 = I_96 1 7 := h_100.2.2.2.1 1 7 (by decide) (by decide) (by decide)
          have r8_I_100 : I_100 1 8 = I_96 1 8 := h_100.2.2.2.1 1 8 (by decide) (by decide) (by decide)
          have r9_I_100 : I_100 1 9 = I_96 1 9 := h_100.2.2.2.1 1 9 (by decide) (by decide) (by decide)
          have r10_I_100 : I_100 1 10 = I_96 1 10 := h_100.2.2.2.1 1 10 (by decide) (by decide) (by decide)
          have r11_I_100 : I_100 1 11 = I_96 1 11 := h_100.2.2.2.1 1 11 (by decide) (by decide) (by decide)
          have r81_I_100 : I_100 8 1 = I_96 8 1 := h_100.2.2.2.1 8 1 (by decide) (by decide) (by decide)
          have rf_I_100 : FU (I_100 1 5) = FU (I_96 1 5) := by rw [r5_I_100]
          have y3_I_100 : I_100 3 = I_96 3 := Fw_row h_100.2.2.2.1 3 (by decide) (by decide) (by decide)
          have y9_I_100 : I_100 9 = I_96 9 := Fw_row h_100.2.2.2.1 9 (by decide) (by decide) (by decide)
          refine ww_aload_n hX (pc := 103) dX10_row_103 rfl ?_
          refine ww_aload_n hX (pc := 104) dX10_row_104 rfl ?_
          refine ww_getR hX (pc := 105) fX10_10 (by decide) (xs_0 hL) (xr_0_0 hL) dX10_row_105 ?_
          refine vI0 hX (pc := 108) sX10_167 (xs_1 hL) (c5_X1_readCount l0 hL cI_100.1) (by decide) (Nat.le_refl 0) (Nat.le_refl 0) (Nat.le_of_ble_eq_true rfl) dX10_row_108 (fun x_108 I_108 J_108 h_108 => ?_)
          obtain ⟨rfl, rfl, h_108⟩ := h_108
          refine vI1 hX (pc := 111) sX10_114 (xs_0 hL) (c8_X10_accept l0 hL cI_100 frI_100) (by decide) (Nat.le_refl 0) (Nat.le_refl 0) (Nat.le_of_ble_eq_true rfl) dX10_row_111 (fun x_111 I_111 J_111 h_111 => ?_)
          obtain ⟨h_111, frI_111⟩ := h_111
          have kI_111 : Kp 0 49 Ia I_111 := Kp_tr kI_100 (Kp_wd h_111.1 (by decide) (by decide))
          have kJ_111 : Kp 0 49 Ja J_111 := Kp_tr kJ_100 (Kp_wd h_111.2.1 (by decide) (by decide))
          have cI_111 : CX I_111 := h_111.2.2.1
          have qI_111 := XI_o cI_111.1
          have wI_111 : Fw [3, 18, 19, 20, 21, 22, 23, 24, 25, 26, 27, 28, 29, 30, 33] [(0, 15), (0, 16), (8, 1)] Ia I_111 := Fw_tr wI_100 (Fw_wd h_111.2.2.2.1 (by decide) (by decide))
          have r5_I_111 : I_111 1 5 = I_100 1 5 := h_111.2.2.2.1 1 5 (by decide) (by decide) (by decide)
          have r6_I_111 : I_111 1 6 = I_100 1 6 := h_111.2.2.2.1 1 6 (by decide) (by decide) (by decide)
          have r7_I_111 : I_111 1 7 = I_100 1 7 := h_111.2.2.2.1 1 7 (by decide) (by decide) (by decide)
          have r8_I_111 : I_111 1 8 = I_100 1 8 := h_111.2.2.2.1 1 8 (by decide) (by decide) (by decide)
          have r9_I_111 : I_111 1 9 = I_100 1 9 := h_111.2.2.2.1 1 9 (by decide) (by decide) (by decide)
          have r10_I_111 : I_111 1 10 = I_100 1 10 := h_111.2.2.2.1 1 10 (by decide) (by decide) (by decide)
          have r11_I_111 : I_111 1 11 = I_100 1 11 := h_111.2.2.2.1 1 11 (by decide) (by decide) (by decide)
          have r81_I_111 : I_111 8 1 = I_100 8 1 := h_111.2.2.2.1 8 1 (by decide) (by decide) (by decide)
          have rf_I_111 : FU (I_111 1 5) = FU (I_100 1 5) := by rw [r5_I_111]
          have y3_I_111 : I_111 3 = I_100 3 := Fw_row h_111.2.2.2.1 3 (by decide) (by decide) (by decide)
          have y9_I_111 : I_111 9 = I_100 9 := Fw_row h_111.2.2.2.1 9 (by decide) (by decide) (by decide)
          have xv_I_111 := h_111.2.2.2.2
          refine rI hX (pc := 114) hT (Nat.le_refl 0) (Nat.le_refl 0) dX10_row_114 ?_
          exact ⟨⟨kI_111, kJ_111, cI_111, (Fw_wd wI_111 (by decide) (by decide)), (fun h9 => absurd h9 (by omega)), (fun _ => ⟨wI_111, xv_I_111.2, by omega, by rw [h_111.2.2.2.1 0 15 (by decide) (by decide) (by decide), h_100.2.2.2.1 0 15 (by decide) (by decide) (by decide)]; omega, (fun j => by rw [y3_I_111, y3_I_100, y3_I_96, y3_I_88, h3 j, show i = FU (Ia 1 5) + 1 by omega]), by rw [xv_I_111.1, h_108, y3_I_111, rf_I_100]; exact congrArg (fun z : Int => cnR (I_100 3) (z + 1).toNat) (by omega)⟩)⟩, frI_111⟩
        · simp only [w32_mod] at h_29
          refine ww_aload_n hX (pc := 32) dX10_row_32 rfl ?_
          refine ww_getR hX (pc := 33) fX10_23 (by decide) (xs_0 hL) (xr_0_2 hL) dX10_row_33 ?_
          refine ww_iload_n hX (pc := 36) dX10_row_36 rfl ?_
          refine vI1 hX (pc := 37) sX10_155 (xs_8 hL) (c_X9_byteAt l0 hL cI2.1 (by omega) (by omega)) (by decide) (Nat.le_refl 0) (Nat.le_refl 0) (Nat.le_of_ble_eq_true rfl) dX10_row_37 (fun x_37 I_37 J_37 h_37 => ?_)
          obtain ⟨rfl, rfl, h_37⟩ := h_37
          refine ww_istore_n hX (pc := 40) (lv' := [some (kR (some 0)), some (kI x_21), some (kI i), some (kI x_37)]) dX10_row_40 (by decide) rfl rfl ?_
          refine ww_aload_n hX (pc := 41) dX10_row_41 rfl ?_
          refine ww_getR hX (pc := 42) fX10_10 (by decide) (xs_0 hL) (xr_0_0 hL) dX10_row_42 ?_
          refine ww_getR hX (pc := 45) fX10_137 (by decide) (xs_1 hL) (xr_1_1 hL) dX10_row_45 ?_
          refine ww_iload_n hX (pc := 48) dX10_row_48 rfl ?_
          refine ww_aload_n hX (pc := 49) dX10_row_49 rfl ?_
          refine ww_getR hX (pc := 50) fX10_10 (by decide) (xs_0 hL) (xr_0_0 hL) dX10_row_50 ?_
          refine ww_iload_n hX (pc := 53) dX10_row_53 rfl ?_
          refine vI1 hX (pc := 54) sX10_134 (xs_1 hL) (c_X1_isNews l0 hL cI2.1 (by omega)) (by decide) (Nat.le_refl 0) (Nat.le_refl 0) (Nat.le_of_ble_eq_true rfl) dX10_row_54 (fun x_54 I_54 J_54 h_54 => ?_)
          obtain ⟨rfl, rfl, h_54⟩ := h_54
          refine ww_if_eq hX (pc := 57) (tgt := 64) dX10_row_57 (by decide) (fun h_57 => ?_) (fun h_57 => ?_)
          · simp only [w32_mod] at h_57
            refine ww_iconst hX (pc := 64) (x := (-1)) dX10_row_64 rfl ?_
            refine ww_iast hX (pc := 65) (xs_3 hL) (by decide) (by omega) (by omega) dX10_row_65 ?_
            refine ww_nmH (fun I_65 eI_65 => ?_)
            have kI_65 : Kp 0 49 Ia I_65 := by rw [eI_65]; exact Kp_up kI2 _ _ (by decide)
            have cI_65 : CX I_65 := by rw [eI_65]; exact CX_x cI2 (XI_3 cI2.1 (by omega) (by omega)) (by decide)
            have qI_65 := XI_o cI_65.1
            have r5_I_65 : I_65 1 5 = I2 1 5 := by rw [eI_65, up2_off _ _ _ (by decide)]
            have r6_I_65 : I_65 1 6 = I2 1 6 := by rw [eI_65, up2_off _ _ _ (by decide)]
            have r8_I_65 : I_65 1 8 = I2 1 8 := by rw [eI_65, up2_off _ _ _ (by decide)]
            have r9_I_65 : I_65 1 9 = I2 1 9 := by rw [eI_65, up2_off _ _ _ (by decide)]
            have r10_I_65 : I_65 1 10 = I2 1 10 := by rw [eI_65, up2_off _ _ _ (by decide)]
            have r11_I_65 : I_65 1 11 = I2 1 11 := by rw [eI_65, up2_off _ _ _ (by decide)]
            have rf_I_65 : FU (I_65 1 5) = FU (I2 1 5) := by rw [r5_I_65]
            have wI_65 : Fw [3, 18, 19, 20, 21, 22, 23, 24, 25, 26, 27, 28, 29, 30, 33] [(0, 15), (0, 16), (8, 1)] Ia I_65 := by rw [eI_65]; exact Fw_up wI2 (Or.inl (by decide))
            have r7_I_65 : I_65 1 7 = I2 1 7 := by rw [eI_65, up2_n _ _ (Or.inl (by decide))]
            have y9_I_65 : I_65 9 = I2 9 := by rw [eI_65, up2_off _ _ _ (by decide)]
            have q81_ : I_65 8 1 = I2 8 1 := by rw [eI_65, up2_off _ _ _ (by decide)]
            have t3 : ∀ j : Nat, I_65 3 j = if (j : Int) < i + 1 then RWv (Ia 9) (Ia 8 1) (Ia 1 6) j else Ia 3 j := fun j => by
              rw [eI_65, up2_row]
              by_cases e9 : j = i.toNat
              · rw [e9, up1_s, if_pos (by omega)]
                unfold RWv
                by_cases e7 : (i.toNat : Int) < Ia 8 1
                · have e6 := h_37.2.1 (by omega)
                  rw [i2_9] at e6
                  first | (rw [if_pos ⟨e7, by omega, by omega⟩]; exact e6) | (rw [if_neg (by omega)])
                · have e6 := h_37.2.2 (by omega)
                  first | (rw [if_neg (by omega)]; done) | (exfalso; omega)
              · rw [up1_n _ _ e9, h3 j]
                by_cases e8 : (j : Int) < i
                · rw [if_pos e8, if_pos (by omega)]
                · rw [if_neg e8, if_neg (by omega)]
            refine ww_iinc hX (pc := 66) (lv' := [some (kR (some 0)), some (kI x_21), some (kI (i + 1)), some (kI x_37)]) dX10_row_66 rfl (by decide) rfl rfl ?_
            refine ww_goto hX (pc := 69) (tgt := 27) dX10_row_69 (by decide) ?_
            refine ww_sub [some (kR (some 0)), some (kI x_21), some (kI (i + 1)), none] (aLe_s (aLe_s (aLe_s (aLe_n aLe_0)))) ?_
            exact ih_27 _ (by have hm9 := Sh0_e hq_27; omega) (i + 1) I_65 J2 rfl ⟨kI_65, kJ2, cI_65, wI_65, ⟨by omega, by omega⟩, ⟨by omega, by rw [y9_I_65]; exact i2_9, t3⟩⟩
          · simp only [w32_mod] at h_57
            have k_54 := h_54.2.mp (by omega)
            clear h_54
            refine ww_iload_n hX (pc := 60) dX10_row_60 rfl ?_
            refine ww_goto hX (pc := 61) (tgt := 65) dX10_row_61 (by decide) ?_
            refine ww_iast hX (pc := 65) (xs_3 hL) (by decide) (by omega) (by omega) dX10_row_65 ?_
            refine ww_nmH (fun I_65 eI_65 => ?_)
            have kI_65 : Kp 0 49 Ia I_65 := by rw [eI_65]; exact Kp_up kI2 _ _ (by decide)
            have cI_65 : CX I_65 := by rw [eI_65]; exact CX_x cI2 (XI_3 cI2.1 (by omega) (by omega)) (by decide)
            have qI_65 := XI_o cI_65.1
            have r5_I_65 : I_65 1 5 = I2 1 5 := by rw [eI_65, up2_off _ _ _ (by decide)]
            have r6_I_65 : I_65 1 6 = I2 1 6 := by rw [eI_65, up2_off _ _ _ (by decide)]
            have r8_I_65 : I_65 1 8 = I2 1 8 := by rw [eI_65, up2_off _ _ _ (by decide)]
            have r9_I_65 : I_65 1 9 = I2 1 9 := by rw [eI_65, up2_off _ _ _ (by decide)]
            have r10_I_65 : I_65 1 10 = I2 1 10 := by rw [eI_65, up2_off _ _ _ (by decide)]
            have r11_I_65 : I_65 1 11 = I2 1 11 := by rw [eI_65, up2_off _ _ _ (by decide)]
            have rf_I_65 : FU (I_65 1 5) = FU (I2 1 5) := by rw [r5_I_65]
            have wI_65 : Fw [3, 18, 19, 20, 21, 22, 23, 24, 25, 26, 27, 28, 29, 30, 33] [(0, 15), (0, 16), (8, 1)] Ia I_65 := by rw [eI_65]; exact Fw_up wI2 (Or.inl (by decide))
            have r7_I_65 : I_65 1 7 = I2 1 7 := by rw [eI_65, up2_n _ _ (Or.inl (by decide))]
            have y9_I_65 : I_65 9 = I2 9 := by rw [eI_65, up2_off _ _ _ (by decide)]
            have q81_ : I_65 8 1 = I2 8 1 := by rw [eI_65, up2_off _ _ _ (by decide)]
            have t3 : ∀ j : Nat, I_65 3 j = if (j : Int) < i + 1 then RWv (Ia 9) (Ia 8 1) (Ia 1 6) j else Ia 3 j := fun j => by
              rw [eI_65, up2_row]
              by_cases e9 : j = i.toNat
              · rw [e9, up1_s, if_pos (by omega)]
                unfold RWv
                by_cases e7 : (i.toNat : Int) < Ia 8 1
                · have e6 := h_37.2.1 (by omega)
                  rw [i2_9] at e6
                  first | (rw [if_pos ⟨e7, by omega, by omega⟩]; exact e6) | (rw [if_neg (by omega)])
                · have e6 := h_37.2.2 (by omega)
                  first | (rw [if_neg (by omega)]; done) | (exfalso; omega)
              · rw [up1_n _ _ e9, h3 j]
                by_cases e8 : (j : Int) < i
                · rw [if_pos e8, if_pos (by omega)]
                · rw [if_neg e8, if_neg (by omega)]
            refine ww_iinc hX (pc := 66) (lv' := [some (kR (some 0)), some (kI x_21), some (kI (i + 1)), some (kI x_37)]) dX10_row_66 rfl (by decide) rfl rfl ?_
            refine ww_goto hX (pc := 69) (tgt := 27) dX10_row_69 (by decide) ?_
            refine ww_sub [some (kR (some 0)), some (kI x_21), some (kI (i + 1)), none] (aLe_s (aLe_s (aLe_s (aLe_n aLe_0)))) ?_
            exact ih_27 _ (by have hm9 := Sh0_e hq_27; omega) (i + 1) I_65 J2 rfl ⟨kI_65, kJ2, cI_65, wI_65, ⟨by omega, by omega⟩, ⟨by omega, by rw [y9_I_65]; exact i2_9, t3⟩⟩
    exact hl_27 _ 0 Ia Ja rfl ⟨(Kp_rf (a := 0) (b := 49)), (Kp_rf (a := 0) (b := 49)), hC, Fw_rf, ⟨by omega, by omega⟩, ⟨by omega, rfl, fun j => by rw [if_neg (by omega)]⟩⟩
  · simp only [w32_mod] at h_7
    refine ww_aload_n hX (pc := 10) dX10_row_10 rfl ?_
    refine ww_bipush hX (pc := 11) (x := (-6)) dX10_row_11 (by decide) ?_
    refine vI1 hX (pc := 13) sX10_89 (xs_0 hL) (c8_X10_refuse l0 hL hC hF (by omega) (by omega)) (by decide) (Nat.le_refl 0) (Nat.le_refl 0) (Nat.le_of_ble_eq_true rfl) dX10_row_13 (fun x_13 I_13 J_13 h_13 => ?_)
    obtain ⟨h_13, frI_13⟩ := h_13
    have kI_13 : Kp 0 49 Ia I_13 := Kp_tr (Kp_rf (a := 0) (b := 49)) (Kp_wd h_13.1 (by decide) (by decide))
    have kJ_13 : Kp 0 49 Ja J_13 := Kp_tr (Kp_rf (a := 0) (b := 49)) (Kp_wd h_13.2.1 (by decide) (by decide))
    have cI_13 : CX I_13 := h_13.2.2.1
    have qI_13 := XI_o cI_13.1
    have wI_13 : Fw [3, 18, 19, 20, 21, 22, 23, 24, 25, 26, 27, 28, 29, 30, 33, 48] [(0, 15), (0, 16), (8, 1)] Ia I_13 := Fw_tr Fw_rf (Fw_wd h_13.2.2.2.1 (by decide) (by decide))
    have r5_I_13 : I_13 1 5 = Ia 1 5 := h_13.2.2.2.1 1 5 (by decide) (by decide) (by decide)
    have r6_I_13 : I_13 1 6 = Ia 1 6 := h_13.2.2.2.1 1 6 (by decide) (by decide) (by decide)
    have r7_I_13 : I_13 1 7 = Ia 1 7 := h_13.2.2.2.1 1 7 (by decide) (by decide) (by decide)
    have r8_I_13 : I_13 1 8 = Ia 1 8 := h_13.2.2.2.1 1 8 (by decide) (by decide) (by decide)
    have r9_I_13 : I_13 1 9 = Ia 1 9 := h_13.2.2.2.1 1 9 (by decide) (by decide) (by decide)
    have r10_I_13 : I_13 1 10 = Ia 1 10 := h_13.2.2.2.1 1 10 (by decide) (by decide) (by decide)
    have r11_I_13 : I_13 1 11 = Ia 1 11 := h_13.2.2.2.1 1 11 (by decide) (by decide) (by decide)
    have r81_I_13 : I_13 8 1 = Ia 8 1 := h_13.2.2.2.1 8 1 (by decide) (by decide) (by decide)
    have rf_I_13 : FU (I_13 1 5) = FU (Ia 1 5) := by rw [r5_I_13]
    have y3_I_13 : I_13 3 = Ia 3 := Fw_row h_13.2.2.2.1 3 (by decide) (by decide) (by decide)
    have y9_I_13 : I_13 9 = Ia 9 := Fw_row h_13.2.2.2.1 9 (by decide) (by decide) (by decide)
    have xv_I_13 := h_13.2.2.2.2
    refine rI hX (pc := 16) hT (Nat.le_refl 0) (Nat.le_refl 0) dX10_row_16 ?_
    exact ⟨⟨kI_13, kJ_13, cI_13, (Fw_wd wI_13 (by decide) (by decide)), (fun _ => ⟨xv_I_13.1, h_13.2.2.2.1, xv_I_13.2⟩), (fun h9 => absurd (by omega) h9)⟩, frI_13⟩
set_option maxHeartbeats 4000000 in
set_option maxRecDepth 20000 in
theorem c8_X10_of (l0 : Launch) {Ia Ja : aI1} {Ra : aR1} {Sa : aS1} (hL : LY Ra Sa) (hC : CX Ia) (hF : FRk Ia Ja) {a : Int} (ha0 : -2147483648 ≤ a) (ha1 : a < 2147483648)  : CT l0 10 0 0 mX10_of [kR (some 0), kI a] Ia Ja Ra Sa (cI (fun x I' J' => (Kp 0 49 Ia I' ∧ Kp 0 49 Ja J' ∧ CX I' ∧ Fw [] [] Ia I' ∧ ((0 ≤ a ∧ a ≤ FU (Ia 1 5)) → x = Ia 3 a.toNat) ∧ (¬ (0 ≤ a ∧ a ≤ FU (Ia 1 5)) → x = -1)) ∧ FRk I' J') Ra Sa) := by
  refine ct_in pn_X10 (Nat.le_of_ble_eq_true rfl) (fun X hX hT hIn => ?_)
  have hX : aK l0 X cX10_of 2 RX10 (some .int) 10 0 0 := hX
  change WW X 0 [some (kR (some 0)), some (kI a)] [] Ia Ja Ra Sa 0 0
  have hI := hC.1
  have hq := XI_o hI
  refine ww_aload_n hX (pc := 0) dX10_of_0 rfl ?_
  refine ww_getR hX (pc := 1) fX10_10 (by decide) (xs_0 hL) (xr_0_0 hL) dX10_of_1 ?_
  refine ww_iload_n hX (pc := 4) dX10_of_4 rfl ?_
  refine vI1 hX (pc := 5) sX10_131 (xs_1 hL) (c_X1_isState l0 hL hC.1 (by omega)) (by decide) (Nat.le_refl 0) (Nat.le_refl 0) (Nat.le_of_ble_eq_true rfl) dX10_of_5 (fun x_5 I_5 J_5 h_5 => ?_)
  obtain ⟨rfl, rfl, h_5⟩ := h_5
  refine ww_if_eq hX (pc := 8) (tgt := 23) dX10_of_8 (by decide) (fun h_8 => ?_) (fun h_8 => ?_)
  · simp only [w32_mod] at h_8
    refine ww_iconst hX (pc := 23) (x := (-1)) dX10_of_23 rfl ?_
    refine rI hX (pc := 24) hT (Nat.le_refl 0) (Nat.le_refl 0) dX10_of_24 ?_
    exact ⟨⟨(Kp_rf (a := 0) (b := 49)), (Kp_rf (a := 0) (b := 49)), hC, Fw_rf, by omega, by omega⟩, hF⟩
  · simp only [w32_mod] at h_8
    have k_5 := h_5.2.mp (by omega)
    clear h_5
    refine ww_aload_n hX (pc := 11) dX10_of_11 rfl ?_
    refine ww_getR hX (pc := 12) fX10_10 (by decide) (xs_0 hL) (xr_0_0 hL) dX10_of_12 ?_
    refine ww_getR hX (pc := 15) fX10_137 (by decide) (xs_1 hL) (xr_1_1 hL) dX10_of_15 ?_
    refine ww_iload_n hX (pc := 18) dX10_of_18 rfl ?_
    refine ww_iald hX (pc := 19) (xs_3 hL) (by decide) (by omega) (by omega) dX10_of_19 ?_
    refine ww_goto hX (pc := 20) (tgt := 24) dX10_of_20 (by decide) ?_
    refine rI hX (pc := 24) hT (Nat.le_refl 0) (Nat.le_refl 0) dX10_of_24 ?_
    exact ⟨⟨(Kp_rf (a := 0) (b := 49)), (Kp_rf (a := 0) (b := 49)), hC, Fw_rf, by omega, by omega⟩, hF⟩
set_option maxHeartbeats 4000000 in
set_option maxRecDepth 20000 in
theorem c8_X10_ways (l0 : Launch) {Ia Ja : aI1} {Ra : aR1} {Sa : aS1} (hL : LY Ra Sa) (hC : CX Ia) (hF : FRk Ia Ja) {a b : Int} (ha0 : -2147483648 ≤ a) (ha1 : a < 2147483648) (hb0 : -2147483648 ≤ b) (hb1 : b < 2147483648)  : CT l0 10 0 0 mX10_ways [kR (some 0), kI a, kI b] Ia Ja Ra Sa (cI (fun x I' J' => (Kp 0 49 Ia I' ∧ Kp 0 49 Ja J' ∧ CX I' ∧ Fw [] [] Ia I' ∧ ((0 ≤ a ∧ a ≤ FU (Ia 1 5) ∧ 0 ≤ b ∧ b < Ia 1 6) → x = fW (wyF (Ia 3) (Ia 1 7) a (FU (Ia 1 5) + 1) b) 0 (FU (Ia 1 5) + 1).toNat) ∧ (¬ (0 ≤ a ∧ a ≤ FU (Ia 1 5) ∧ 0 ≤ b ∧ b < Ia 1 6) → x = -1)) ∧ FRk I' J') Ra Sa) := by
  refine ct_in pn_X10 (Nat.le_of_ble_eq_true rfl) (fun X hX hT hIn => ?_)
  have hX : aK l0 X cX10_ways 3 RX10 (some .int) 10 0 0 := hX
  change WW X 0 [some (kR (some 0)), some (kI a), some (kI b)] [] Ia Ja Ra Sa 0 0
  have hI := hC.1
  have hq := XI_o hI
  refine ww_aload_n hX (pc := 0) dX10_ways_0 rfl ?_
  refine ww_getR hX (pc := 1) fX10_10 (by decide) (xs_0 hL) (xr_0_0 hL) dX10_ways_1 ?_
  refine ww_iload_n hX (pc := 4) dX10_ways_4 rfl ?_
  refine vI1 hX (pc := 5) sX10_131 (xs_1 hL) (c_X1_isState l0 hL hC.1 (by omega)) (by decide) (Nat.le_refl 0) (Nat.le_refl 0) (Nat.le_of_ble_eq_true rfl) dX10_ways_5 (fun x_5 I_5 J_5 h_5 => ?_)
  obtain ⟨rfl, rfl, h_5⟩ := h_5
  refine ww_if_eq hX (pc := 8) (tgt := 22) dX10_ways_8 (by decide) (fun h_8 => ?_) (fun h_8 => ?_)
  · simp only [w32_mod] at h_8
    refine ww_iconst hX (pc := 22) (x := (-1)) dX10_ways_22 rfl ?_
    refine rI hX (pc := 23) hT (Nat.le_refl 0) (Nat.le_refl 0) dX10_ways_23 ?_
    exact ⟨⟨(Kp_rf (a := 0) (b := 49)), (Kp_rf (a := 0) (b := 49)), hC, Fw_rf, (fun h9 => absurd h9 (by omega)), (fun _ => rfl)⟩, hF⟩
  · simp only [w32_mod] at h_8
    have k_5 := h_5.2.mp (by omega)
    clear h_5
    refine ww_aload_n hX (pc := 11) dX10_ways_11 rfl ?_
    refine ww_getR hX (pc := 12) fX10_10 (by decide) (xs_0 hL) (xr_0_0 hL) dX10_ways_12 ?_
    refine ww_iload_n hX (pc := 15) dX10_ways_15 rfl ?_
    refine vI1 hX (pc := 16) sX10_134 (xs_1 hL) (c_X1_isNews l0 hL hC.1 (by omega)) (by decide) (Nat.le_refl 0) (Nat.le_refl 0) (Nat.le_of_ble_eq_true rfl) dX10_ways_16 (fun x_16 I_16 J_16 h_16 => ?_)
    obtain ⟨rfl, rfl, h_16⟩ := h_16
    refine ww_if_ne hX (pc := 19) (tgt := 24) dX10_ways_19 (by decide) (fun h_19 => ?_) (fun h_19 => ?_)
    · simp only [w32_mod] at h_19
      have k_16 := h_16.2.mp (by omega)
      clear h_16
      refine ww_aload_n hX (pc := 24) dX10_ways_24 rfl ?_
      refine ww_getR hX (pc := 25) fX10_10 (by decide) (xs_0 hL) (xr_0_0 hL) dX10_ways_25 ?_
      refine ww_iload_n hX (pc := 28) dX10_ways_28 rfl ?_
      refine ww_iload_n hX (pc := 29) dX10_ways_29 rfl ?_
      refine vI2 hX (pc := 30) sX10_198 (xs_1 hL) (c7_X1_countWays l0 hL hC.1 (by omega) (by omega) (by omega) (by omega)) (by decide) (Nat.le_refl 0) (Nat.le_refl 0) (Nat.le_of_ble_eq_true rfl) dX10_ways_30 (fun x_30 I_30 J_30 h_30 => ?_)
      obtain ⟨rfl, rfl, h_30⟩ := h_30
      refine rI hX (pc := 33) hT (Nat.le_refl 0) (Nat.le_refl 0) dX10_ways_33 ?_
      exact ⟨⟨(Kp_rf (a := 0) (b := 49)), (Kp_rf (a := 0) (b := 49)), hC, Fw_rf, (fun _ => h_30), (fun h9 => absurd (by omega) h9)⟩, hF⟩
    · simp only [w32_mod] at h_19
      refine ww_iconst hX (pc := 22) (x := (-1)) dX10_ways_22 rfl ?_
      refine rI hX (pc := 23) hT (Nat.le_refl 0) (Nat.le_refl 0) dX10_ways_23 ?_
      exact ⟨⟨(Kp_rf (a := 0) (b := 49)), (Kp_rf (a := 0) (b := 49)), hC, Fw_rf, (fun h9 => absurd h9 (by omega)), (fun _ => rfl)⟩, hF⟩
set_option maxHeartbeats 4000000 in
set_option maxRecDepth 20000 in
theorem c8_X10_reached (l0 : Launch) {Ia Ja : aI1} {Ra : aR1} {Sa : aS1} (hL : LY Ra Sa) (hC : CX Ia) (hF : FRk Ia Ja) {a : Int} (ha0 : -2147483648 ≤ a) (ha1 : a < 2147483648)  : CT l0 10 0 0 mX10_reached [kR (some 0), kI a] Ia Ja Ra Sa (cI (fun x I' J' => (Kp 0 49 Ia I' ∧ Kp 0 49 Ja J' ∧ CX I' ∧ Fw [] [] Ia I' ∧ (a = -1 → x = fW (rcF (Ia 3) (Ia 1 7)) 0 (FU (Ia 1 5) + 1).toNat) ∧ (¬ a = -1 → 0 ≤ a ∧ a ≤ FU (Ia 1 5) → (x = 0 ∨ x = 1) ∧ (x = 1 ↔ RC (Ia 3) (Ia 1 7) a.toNat)) ∧ (¬ a = -1 → ¬ (0 ≤ a ∧ a ≤ FU (Ia 1 5)) → x = -1)) ∧ FRk I' J') Ra Sa) := by
  refine ct_in pn_X10 (Nat.le_of_ble_eq_true rfl) (fun X hX hT hIn => ?_)
  have hX : aK l0 X cX10_reached 2 RX10 (some .int) 10 0 0 := hX
  change WW X 0 [some (kR (some 0)), some (kI a)] [] Ia Ja Ra Sa 0 0
  have hI := hC.1
  have hq := XI_o hI
  refine ww_iload_n hX (pc := 0) dX10_reached_0 rfl ?_
  refine ww_iconst hX (pc := 1) (x := (-1)) dX10_reached_1 rfl ?_
  refine ww_icmp_ne hX (pc := 2) (tgt := 13) dX10_reached_2 (by decide) (fun h_2 => ?_) (fun h_2 => ?_)
  · simp only [w32_mod] at h_2
    refine ww_aload_n hX (pc := 13) dX10_reached_13 rfl ?_
    refine ww_getR hX (pc := 14) fX10_10 (by decide) (xs_0 hL) (xr_0_0 hL) dX10_reached_14 ?_
    refine ww_iload_n hX (pc := 17) dX10_reached_17 rfl ?_
    refine vI1 hX (pc := 18) sX10_131 (xs_1 hL) (c_X1_isState l0 hL hC.1 (by omega)) (by decide) (Nat.le_refl 0) (Nat.le_refl 0) (Nat.le_of_ble_eq_true rfl) dX10_reached_18 (fun x_18 I_18 J_18 h_18 => ?_)
    obtain ⟨rfl, rfl, h_18⟩ := h_18
    refine ww_if_ne hX (pc := 21) (tgt := 26) dX10_reached_21 (by decide) (fun h_21 => ?_) (fun h_21 => ?_)
    · simp only [w32_mod] at h_21
      have k_18 := h_18.2.mp (by omega)
      clear h_18
      refine ww_aload_n hX (pc := 26) dX10_reached_26 rfl ?_
      refine ww_getR hX (pc := 27) fX10_10 (by decide) (xs_0 hL) (xr_0_0 hL) dX10_reached_27 ?_
      refine ww_iload_n hX (pc := 30) dX10_reached_30 rfl ?_
      refine vI1 hX (pc := 31) sX10_213 (xs_1 hL) (c7_X1_isReached l0 hL hC.1 (by omega) (by omega)) (by decide) (Nat.le_refl 0) (Nat.le_refl 0) (Nat.le_of_ble_eq_true rfl) dX10_reached_31 (fun x_31 I_31 J_31 h_31 => ?_)
      obtain ⟨rfl, rfl, h_31⟩ := h_31
      refine ww_if_eq hX (pc := 34) (tgt := 41) dX10_reached_34 (by decide) (fun h_34 => ?_) (fun h_34 => ?_)
      · simp only [w32_mod] at h_34
        refine ww_iconst hX (pc := 41) (x := 0) dX10_reached_41 rfl ?_
        refine rI hX (pc := 42) hT (Nat.le_refl 0) (Nat.le_refl 0) dX10_reached_42 ?_
        exact ⟨⟨(Kp_rf (a := 0) (b := 49)), (Kp_rf (a := 0) (b := 49)), hC, Fw_rf, (fun h9 => absurd h9 (by omega)), (fun _ _ => ⟨by omega, fun h9 => absurd h9 (by decide), fun h9 => absurd (h_31.2.mpr h9) (by omega)⟩), (fun _ h9 => absurd (by omega) h9)⟩, hF⟩
      · simp only [w32_mod] at h_34
        refine ww_iconst hX (pc := 37) (x := 1) dX10_reached_37 rfl ?_
        refine ww_goto hX (pc := 38) (tgt := 42) dX10_reached_38 (by decide) ?_
        refine rI hX (pc := 42) hT (Nat.le_refl 0) (Nat.le_refl 0) dX10_reached_42 ?_
        exact ⟨⟨(Kp_rf (a := 0) (b := 49)), (Kp_rf (a := 0) (b := 49)), hC, Fw_rf, (fun h9 => absurd h9 (by omega)), (fun _ _ => ⟨by omega, fun _ => h_31.2.mp (by omega), fun _ => rfl⟩), (fun _ h9 => absurd (by omega) h9)⟩, hF⟩
    · simp only [w32_mod] at h_21
      refine ww_iconst hX (pc := 24) (x := (-1)) dX10_reached_24 rfl ?_
      refine rI hX (pc := 25) hT (Nat.le_refl 0) (Nat.le_refl 0) dX10_reached_25 ?_
      exact ⟨⟨(Kp_rf (a := 0) (b := 49)), (Kp_rf (a := 0) (b := 49)), hC, Fw_rf, (fun h9 => absurd h9 (by omega)), (fun _ h9 => absurd h9 (by omega)), (fun _ _ => rfl)⟩, hF⟩
  · simp only [w32_mod] at h_2
    refine ww_aload_n hX (pc := 5) dX10_reached_5 rfl ?_
    refine ww_getR hX (pc := 6) fX10_10 (by decide) (xs_0 hL) (xr_0_0 hL) dX10_reached_6 ?_
    refine vI0 hX (pc := 9) sX10_210 (xs_1 hL) (c7_X1_countReached l0 hL hC.1) (by decide) (Nat.le_refl 0) (Nat.le_refl 0) (Nat.le_of_ble_eq_true rfl) dX10_reached_9 (fun x_9 I_9 J_9 h_9 => ?_)
    obtain ⟨rfl, rfl, h_9⟩ := h_9
    refine rI hX (pc := 12) hT (Nat.le_refl 0) (Nat.le_refl 0) dX10_reached_12 ?_
    exact ⟨⟨(Kp_rf (a := 0) (b := 49)), (Kp_rf (a := 0) (b := 49)), hC, Fw_rf, (fun _ => h_9), (fun h9 => absurd (by omega) h9), (fun h9 => absurd (by omega) h9)⟩, hF⟩
set_option maxHeartbeats 4000000 in
set_option maxRecDepth 20000 in
theorem c8_X10_maybe (l0 : Launch) {Ia Ja : aI1} {Ra : aR1} {Sa : aS1} (hL : LY Ra Sa) (hC : CX Ia) (hF : FRk Ia Ja) {a b : Int} (ha0 : -2147483648 ≤ a) (ha1 : a < 2147483648) (hb0 : -2147483648 ≤ b) (hb1 : b < 2147483648)  : CT l0 10 0 0 mX10_maybe [kR (some 0), kI a, kI b] Ia Ja Ra Sa (cI (fun x I' J' => (Kp 0 49 Ia I' ∧ Kp 0 49 Ja J' ∧ CX I' ∧ Fw [] [] Ia I' ∧ ((0 ≤ a ∧ a ≤ FU (Ia 1 5) ∧ 0 ≤ b ∧ b ≤ 8) → x = fW (mbF (Ia 3) (Ia 1 7) a (FU (Ia 1 5) + 1) b) 0 (FU (Ia 1 5) + 1).toNat) ∧ (¬ (0 ≤ a ∧ a ≤ FU (Ia 1 5) ∧ 0 ≤ b ∧ b ≤ 8) → x = -1)) ∧ FRk I' J') Ra Sa) := by
  refine ct_in pn_X10 (Nat.le_of_ble_eq_true rfl) (fun X hX hT hIn => ?_)
  have hX : aK l0 X cX10_maybe 6 RX10 (some .int) 10 0 0 := hX
  change WW X 0 [some (kR (some 0)), some (kI a), some (kI b), none, none, none] [] Ia Ja Ra Sa 0 0
  have hI := hC.1
  have hq := XI_o hI
  refine ww_aload_n hX (pc := 0) dX10_maybe_0 rfl ?_
  refine ww_getR hX (pc := 1) fX10_10 (by decide) (xs_0 hL) (xr_0_0 hL) dX10_maybe_1 ?_
  refine ww_iload_n hX (pc := 4) dX10_maybe_4 rfl ?_
  refine vI1 hX (pc := 5) sX10_131 (xs_1 hL) (c_X1_isState l0 hL hC.1 (by omega)) (by decide) (Nat.le_refl 0) (Nat.le_refl 0) (Nat.le_of_ble_eq_true rfl) dX10_maybe_5 (fun x_5 I_5 J_5 h_5 => ?_)
  obtain ⟨rfl, rfl, h_5⟩ := h_5
  refine ww_if_eq hX (pc := 8) (tgt := 21) dX10_maybe_8 (by decide) (fun h_8 => ?_) (fun h_8 => ?_)
  · simp only [w32_mod] at h_8
    refine ww_iconst hX (pc := 21) (x := (-1)) dX10_maybe_21 rfl ?_
    refine rI hX (pc := 22) hT (Nat.le_refl 0) (Nat.le_refl 0) dX10_maybe_22 ?_
    exact ⟨⟨(Kp_rf (a := 0) (b := 49)), (Kp_rf (a := 0) (b := 49)), hC, Fw_rf, (fun h9 => absurd h9 (by omega)), (fun _ => rfl)⟩, hF⟩
  · simp only [w32_mod] at h_8
    have k_5 := h_5.2.mp (by omega)
    clear h_5
    refine ww_iload_n hX (pc := 11) dX10_maybe_11 rfl ?_
    refine ww_if_lt hX (pc := 12) (tgt := 21) dX10_maybe_12 (by decide) (fun h_12 => ?_) (fun h_12 => ?_)
    · simp only [w32_mod] at h_12
      refine ww_iconst hX (pc := 21) (x := (-1)) dX10_maybe_21 rfl ?_
      refine rI hX (pc := 22) hT (Nat.le_refl 0) (Nat.le_refl 0) dX10_maybe_22 ?_
      exact ⟨⟨(Kp_rf (a := 0) (b := 49)), (Kp_rf (a := 0) (b := 49)), hC, Fw_rf, (fun h9 => absurd h9 (by omega)), (fun _ => rfl)⟩, hF⟩
    · simp only [w32_mod] at h_12
      refine ww_iload_n hX (pc := 15) dX10_maybe_15 rfl ?_
      refine ww_bipush hX (pc := 16) (x := 8) dX10_maybe_16 (by decide) ?_
      refine ww_icmp_le hX (pc := 18) (tgt := 23) dX10_maybe_18 (by decide) (fun h_18 => ?_) (fun h_18 => ?_)
      · simp only [w32_mod] at h_18
        refine ww_iconst hX (pc := 23) (x := 0) dX10_maybe_23 rfl ?_
        refine ww_istore_n hX (pc := 24) (lv' := [some (kR (some 0)), some (kI a), some (kI b), some (kI 0), none, none]) dX10_maybe_24 (by decide) rfl rfl ?_
        refine ww_aload_n hX (pc := 25) dX10_maybe_25 rfl ?_
        refine ww_getR hX (pc := 26) fX10_10 (by decide) (xs_0 hL) (xr_0_0 hL) dX10_maybe_26 ?_
        refine vI0 hX (pc := 29) sX10_151 (xs_1 hL) (c_X1_full l0 hL hC.1) (by decide) (Nat.le_refl 0) (Nat.le_refl 0) (Nat.le_of_ble_eq_true rfl) dX10_maybe_29 (fun x_29 I_29 J_29 h_29 => ?_)
        obtain ⟨rfl, rfl, h_29⟩ := h_29
        refine ww_istore hX (pc := 32) (lv' := [some (kR (some 0)), some (kI a), some (kI b), some (kI 0), some (kI x_29), none]) dX10_maybe_32 (by decide) rfl rfl ?_
        refine ww_iload_n hX (pc := 34) dX10_maybe_34 rfl ?_
        refine ww_istore hX (pc := 35) (lv' := [some (kR (some 0)), some (kI a), some (kI b), some (kI 0), some (kI x_29), some (kI a)]) dX10_maybe_35 (by decide) rfl rfl ?_
        have hl_37 : ∀ (n_37 : Nat) (g : Int) (to : Int), (x_29 + 1 - to).toNat = n_37 → ((0 ≤ to ∧ to < 2147483648) ∧ a.toNat &&& to.toNat = a.toNat ∧ (-2147483648 ≤ g ∧ g < 2147483648) ∧ g = fW (mbF (Ia 3) (Ia 1 7) a (FU (Ia 1 5) + 1) b) 0 to.toNat) → WW X 37 [some (kR (some 0)), some (kI a), some (kI b), some (kI g), some (kI x_29), some (kI to)] [] Ia Ja Ra Sa 0 0 := by
          intro n_37
          induction n_37 using Nat.strongRecOn with
          | ind n_37 ih_37 =>
            intro g to hm_37 hv_37
            have hq_37 := Sh0_i hm_37
            clear hm_37
            obtain ⟨⟨hto0, hto1⟩, hsu, hgr, hg⟩ := hv_37
            refine ww_iload hX (pc := 37) dX10_maybe_37 rfl ?_
            refine ww_iload hX (pc := 39) dX10_maybe_39 rfl ?_
            refine ww_icmp_gt hX (pc := 41) (tgt := 78) dX10_maybe_41 (by decide) (fun h_41 => ?_) (fun h_41 => ?_)
            · simp only [w32_mod] at h_41
              refine ww_iload_n hX (pc := 78) dX10_maybe_78 rfl ?_
              refine rI hX (pc := 79) hT (Nat.le_refl 0) (Nat.le_refl 0) dX10_maybe_79 ?_
              exact ⟨⟨(Kp_rf (a := 0) (b := 49)), (Kp_rf (a := 0) (b := 49)), hC, Fw_rf, (fun _ => by rw [hg]; exact fW_N (by omega) (fun v t h => mbF_N v t (by omega))), (fun h9 => absurd (by omega) h9)⟩, hF⟩
            · simp only [w32_mod] at h_41
              have hnx := fW_nx (f := mbF (Ia 3) (Ia 1 7) a (FU (Ia 1 5) + 1) b) (z := 0) (to := to) (e := a) (by omega) (by omega) (by omega) (by omega) hsu mbF_n
              have hxr := i_xor_256 (a := to) (b := a) (by omega) (by omega) (by omega) (by omega)
              have hbc := bc_r hxr.1 hxr.2
              refine ww_iload hX (pc := 44) dX10_maybe_44 rfl ?_
              refine ww_iload_n hX (pc := 46) dX10_maybe_46 rfl ?_
              refine ww_ixor hX (pc := 47) dX10_maybe_47 ?_
              refine sI1 hX (pc := 48) sX10_242 (c_J6_bitCount_0f7a4 l0) (by decide) (Nat.le_refl 0) (Nat.le_refl 0) (Nat.le_of_ble_eq_true rfl) dX10_maybe_48 (fun x_48 I_48 J_48 h_48 => ?_)
              obtain ⟨rfl, rfl, h_48⟩ := h_48
              refine ww_iload_n hX (pc := 51) dX10_maybe_51 rfl ?_
              refine ww_icmp_gt hX (pc := 52) (tgt := 67) dX10_maybe_52 (by decide) (fun h_52 => ?_) (fun h_52 => ?_)
              · simp only [w32_mod] at h_52
                have hst : mbF (Ia 3) (Ia 1 7) a (FU (Ia 1 5) + 1) b g to.toNat = g := mbF_x (by omega) (by omega) (by omega) (by omega) (by rw [← h_48]; omega)
                have hgr2 := hgr
                refine ww_iload hX (pc := 67) dX10_maybe_67 rfl ?_
                refine ww_iconst hX (pc := 69) (x := 1) dX10_maybe_69 rfl ?_
                refine ww_iadd hX (pc := 70) dX10_maybe_70 ?_
                refine ww_iload_n hX (pc := 71) dX10_maybe_71 rfl ?_
                refine ww_ior hX (pc := 72) dX10_maybe_72 ?_
                refine ww_nmI (fun v_73 hv_73 => ?_)
                refine ww_istore hX (pc := 73) (lv' := [some (kR (some 0)), some (kI a), some (kI b), some (kI g), some (kI x_29), some (kI v_73)]) dX10_maybe_73 (by decide) rfl rfl ?_
                refine ww_goto hX (pc := 75) (tgt := 37) dX10_maybe_75 (by decide) ?_
                have hor := i_or_ge (a := to + 1) (b := a) (by omega) (by omega) (by omega) (by omega)
                exact ih_37 _ (by have hm9 := Sh0_e hq_37; omega) g v_73 rfl ⟨⟨by omega, by omega⟩, by rw [hv_73]; exact or_nx_sub (by omega) (by omega) (by omega) (by omega), hgr2, by rw [hv_73, hnx, ← hg, hst]⟩
              · simp only [w32_mod] at h_52
                refine ww_iload_n hX (pc := 55) dX10_maybe_55 rfl ?_
                refine ww_aload_n hX (pc := 56) dX10_maybe_56 rfl ?_
                refine ww_getR hX (pc := 57) fX10_10 (by decide) (xs_0 hL) (xr_0_0 hL) dX10_maybe_57 ?_
                refine ww_iload hX (pc := 60) dX10_maybe_60 rfl ?_
                refine vI1 hX (pc := 62) sX10_269 (xs_1 hL) (c7_X1_newsBit l0 hL hC.1 (by omega) (by omega)) (by decide) (Nat.le_refl 0) (Nat.le_refl 0) (Nat.le_of_ble_eq_true rfl) dX10_maybe_62 (fun x_62 I_62 J_62 h_62 => ?_)
                obtain ⟨rfl, rfl, h_62⟩ := h_62
                refine ww_ior hX (pc := 65) dX10_maybe_65 ?_
                refine ww_nmI (fun v_66 hv_66 => ?_)
                refine ww_istore_n hX (pc := 66) (lv' := [some (kR (some 0)), some (kI a), some (kI b), some (kI v_66), some (kI x_29), some (kI to)]) dX10_maybe_66 (by decide) rfl rfl ?_
                have hst : mbF (Ia 3) (Ia 1 7) a (FU (Ia 1 5) + 1) b g to.toNat = v_66 := by
                  rw [hv_66, h_62]
                  exact (mbF_y (by omega) (by omega) (by omega) (by omega) (by omega) hsu hgr.1 hgr.2 (by rw [← h_48]; omega)).symm
                have hgr2 := ior_r g x_62
                rw [← hv_66] at hgr2
                refine ww_iload hX (pc := 67) dX10_maybe_67 rfl ?_
                refine ww_iconst hX (pc := 69) (x := 1) dX10_maybe_69 rfl ?_
                refine ww_iadd hX (pc := 70) dX10_maybe_70 ?_
                refine ww_iload_n hX (pc := 71) dX10_maybe_71 rfl ?_
                refine ww_ior hX (pc := 72) dX10_maybe_72 ?_
                refine ww_nmI (fun v_73 hv_73 => ?_)
                refine ww_istore hX (pc := 73) (lv' := [some (kR (some 0)), some (kI a), some (kI b), some (kI v_66), some (kI x_29), some (kI v_73)]) dX10_maybe_73 (by decide) rfl rfl ?_
                refine ww_goto hX (pc := 75) (tgt := 37) dX10_maybe_75 (by decide) ?_
                have hor := i_or_ge (a := to + 1) (b := a) (by omega) (by omega) (by omega) (by omega)
                exact ih_37 _ (by have hm9 := Sh0_e hq_37; omega) v_66 v_73 rfl ⟨⟨by omega, by omega⟩, by rw [hv_73]; exact or_nx_sub (by omega) (by omega) (by omega) (by omega), hgr2, by rw [hv_73, hnx, ← hg, hst]⟩
        exact hl_37 _ 0 a rfl ⟨⟨by omega, by omega⟩, Nat.and_self _, by omega, (fW_e mbF_n).symm⟩
      · simp only [w32_mod] at h_18
        refine ww_iconst hX (pc := 21) (x := (-1)) dX10_maybe_21 rfl ?_
        refine rI hX (pc := 22) hT (Nat.le_refl 0) (Nat.le_refl 0) dX10_maybe_22 ?_
        exact ⟨⟨(Kp_rf (a := 0) (b := 49)), (Kp_rf (a := 0) (b := 49)), hC, Fw_rf, (fun h9 => absurd h9 (by omega)), (fun _ => rfl)⟩, hF⟩
set_option maxHeartbeats 4000000 in
set_option maxRecDepth 20000 in
theorem c8_X10_hurts (l0 : Launch) {Ia Ja : aI1} {Ra : aR1} {Sa : aS1} (hL : LY Ra Sa) (hC : CX Ia) (hF : FRk Ia Ja) {a : Int} (ha0 : -2147483648 ≤ a) (ha1 : a < 2147483648)  : CT l0 10 0 0 mX10_hurts [kR (some 0), kI a] Ia Ja Ra Sa (cI (fun x I' J' => (Kp 0 49 Ia I' ∧ Kp 0 49 Ja J' ∧ CX I' ∧ Fw [18, 19, 20, 21, 22, 23, 24, 25, 26, 27, 28, 29, 30] [] Ia I' ∧ ((0 ≤ a ∧ a < Ia 1 5) → ∃ L, zLV (Ia 3) (i_or (Ia 1 7) (i_shl 1 a)) (FU (Ia 1 5) + 1) (Ia 1 6) (-1) L ∧ x = L 0) ∧ (¬ (0 ≤ a ∧ a < Ia 1 5) → x = -1)) ∧ FRk I' J') Ra Sa) := by
  refine ct_in pn_X10 (Nat.le_of_ble_eq_true rfl) (fun X hX hT hIn => ?_)
  have hX : aK l0 X cX10_hurts 2 RX10 (some .int) 10 0 0 := hX
  change WW X 0 [some (kR (some 0)), some (kI a)] [] Ia Ja Ra Sa 0 0
  have hI := hC.1
  have hq := XI_o hI
  refine ww_aload_n hX (pc := 0) dX10_hurts_0 rfl ?_
  refine ww_getR hX (pc := 1) fX10_10 (by decide) (xs_0 hL) (xr_0_0 hL) dX10_hurts_1 ?_
  refine ww_iload_n hX (pc := 4) dX10_hurts_4 rfl ?_
  refine vI1 hX (pc := 5) sX10_120 (xs_1 hL) (c_X1_isLamp l0 hL hC.1 (by omega)) (by decide) (Nat.le_refl 0) (Nat.le_refl 0) (Nat.le_of_ble_eq_true rfl) dX10_hurts_5 (fun x_5 I_5 J_5 h_5 => ?_)
  obtain ⟨rfl, rfl, h_5⟩ := h_5
  refine ww_if_eq hX (pc := 8) (tgt := 22) dX10_hurts_8 (by decide) (fun h_8 => ?_) (fun h_8 => ?_)
  · simp only [w32_mod] at h_8
    refine ww_iconst hX (pc := 22) (x := (-1)) dX10_hurts_22 rfl ?_
    refine rI hX (pc := 23) hT (Nat.le_refl 0) (Nat.le_refl 0) dX10_hurts_23 ?_
    exact ⟨⟨(Kp_rf (a := 0) (b := 49)), (Kp_rf (a := 0) (b := 49)), hC, Fw_rf, (fun h9 => absurd h9 (by omega)), (fun _ => rfl)⟩, hF⟩
  · simp only [w32_mod] at h_8
    have k_5 := h_5.2.mp (by omega)
    clear h_5
    refine ww_aload_n hX (pc := 11) dX10_hurts_11 rfl ?_
    refine ww_getR hX (pc := 12) fX10_48 (by decide) (xs_0 hL) (xr_0_5 hL) dX10_hurts_12 ?_
    refine ww_iload_n hX (pc := 15) dX10_hurts_15 rfl ?_
    refine vI1 hX (pc := 16) sX10_222 (xs_18 hL) (n8_X4_lastingWithout l0 hL hC.1 hF) (by decide) (Nat.le_refl 0) (Nat.le_refl 0) (Nat.le_of_ble_eq_true rfl) dX10_hurts_16 (fun x_16 I_16 J_16 h_16 => ?_)
    have kI_16 : Kp 0 49 Ia I_16 := Kp_tr (Kp_rf (a := 0) (b := 49)) (Kp_wd h_16.1 (by decide) (by decide))
    have kJ_16 : Kp 0 49 Ja J_16 := Kp_tr (Kp_rf (a := 0) (b := 49)) (Kp_wd h_16.2.1 (by decide) (by decide))
    have cI_16 : CX I_16 := CX_kp hC h_16.1 (by decide) (by decide)
    have qI_16 := XI_o cI_16.1
    have r5_I_16 : I_16 1 5 = Ia 1 5 := by rw [h_16.1 1 (by decide)]
    have r6_I_16 : I_16 1 6 = Ia 1 6 := by rw [h_16.1 1 (by decide)]
    have r8_I_16 : I_16 1 8 = Ia 1 8 := by rw [h_16.1 1 (by decide)]
    have r9_I_16 : I_16 1 9 = Ia 1 9 := by rw [h_16.1 1 (by decide)]
    have r10_I_16 : I_16 1 10 = Ia 1 10 := by rw [h_16.1 1 (by decide)]
    have r11_I_16 : I_16 1 11 = Ia 1 11 := by rw [h_16.1 1 (by decide)]
    have rf_I_16 : FU (I_16 1 5) = FU (Ia 1 5) := by rw [r5_I_16]
    have wI_16 : Fw [18, 19, 20, 21, 22, 23, 24, 25, 26, 27, 28, 29, 30] [] Ia I_16 := Fw_kp Fw_rf h_16.1 (by decide)
    have r7_I_16 : I_16 1 7 = Ia 1 7 := by rw [h_16.1 1 (by decide)]
    have frI_16 : FRk I_16 J_16 := h_16.2.2.1
    refine ww_goto hX (pc := 19) (tgt := 23) dX10_hurts_19 (by decide) ?_
    refine rI hX (pc := 23) hT (Nat.le_refl 0) (Nat.le_refl 0) dX10_hurts_23 ?_
    exact ⟨⟨kI_16, kJ_16, cI_16, (Fw_wd wI_16 (by decide) (by decide)), (fun _ => h_16.2.2.2), (fun h9 => absurd (by omega) h9)⟩, frI_16⟩
set_option maxHeartbeats 4000000 in
set_option maxRecDepth 20000 in
theorem c8_X10_safe (l0 : Launch) {Ia Ja : aI1} {Ra : aR1} {Sa : aS1} (hL : LY Ra Sa) (hC : CX Ia) (hF : FRk Ia Ja)  : CT l0 10 0 0 mX10_safe [kR (some 0)] Ia Ja Ra Sa (cI (fun x I' J' => (Kp 0 49 Ia I' ∧ Kp 0 49 Ja J' ∧ CX I' ∧ Fw [18, 19, 20, 21, 22, 23, 24, 25, 26, 27, 28, 29, 30] [] Ia I' ∧ SFE (Ia 3) (Ia 1 7) (FU (Ia 1 5) + 1) x) ∧ FRk I' J') Ra Sa) := by
  refine ct_in pn_X10 (Nat.le_of_ble_eq_true rfl) (fun X hX hT hIn => ?_)
  have hX : aK l0 X cX10_safe 1 RX10 (some .int) 10 0 0 := hX
  change WW X 0 [some (kR (some 0))] [] Ia Ja Ra Sa 0 0
  have hI := hC.1
  have hq := XI_o hI
  refine ww_aload_n hX (pc := 0) dX10_safe_0 rfl ?_
  refine ww_getR hX (pc := 1) fX10_48 (by decide) (xs_0 hL) (xr_0_5 hL) dX10_safe_1 ?_
  refine vI0 hX (pc := 4) sX10_272 (xs_18 hL) (n8_X4_findSafe l0 hL hC.1 hF) (by decide) (Nat.le_refl 0) (Nat.le_refl 0) (Nat.le_of_ble_eq_true rfl) dX10_safe_4 (fun x_4 I_4 J_4 h_4 => ?_)
  have kI_4 : Kp 0 49 Ia I_4 := Kp_tr (Kp_rf (a := 0) (b := 49)) (Kp_wd h_4.1 (by decide) (by decide))
  have kJ_4 : Kp 0 49 Ja J_4 := Kp_tr (Kp_rf (a := 0) (b := 49)) (Kp_wd h_4.2.1 (by decide) (by decide))
  have cI_4 : CX I_4 := CX_kp hC h_4.1 (by decide) (by decide)
  have qI_4 := XI_o cI_4.1
  have r5_I_4 : I_4 1 5 = Ia 1 5 := by rw [h_4.1 1 (by decide)]
  have r6_I_4 : I_4 1 6 = Ia 1 6 := by rw [h_4.1 1 (by decide)]
  have r8_I_4 : I_4 1 8 = Ia 1 8 := by rw [h_4.1 1 (by decide)]
  have r9_I_4 : I_4 1 9 = Ia 1 9 := by rw [h_4.1 1 (by decide)]
  have r10_I_4 : I_4 1 10 = Ia 1 10 := by rw [h_4.1 1 (by decide)]
  have r11_I_4 : I_4 1 11 = Ia 1 11 := by rw [h_4.1 1 (by decide)]
  have rf_I_4 : FU (I_4 1 5) = FU (Ia 1 5) := by rw [r5_I_4]
  have wI_4 : Fw [18, 19, 20, 21, 22, 23, 24, 25, 26, 27, 28, 29, 30] [] Ia I_4 := Fw_kp Fw_rf h_4.1 (by decide)
  have r7_I_4 : I_4 1 7 = Ia 1 7 := by rw [h_4.1 1 (by decide)]
  have frI_4 : FRk I_4 J_4 := h_4.2.2.1
  refine rI hX (pc := 7) hT (Nat.le_refl 0) (Nat.le_refl 0) dX10_safe_7 ?_
  exact ⟨⟨kI_4, kJ_4, cI_4, (Fw_wd wI_4 (by decide) (by decide)), h_4.2.2.2⟩, frI_4⟩
set_option maxHeartbeats 4000000 in
set_option maxRecDepth 20000 in
theorem c8_X10_codes (l0 : Launch) {Ia Ja : aI1} {Ra : aR1} {Sa : aS1} (hL : LY Ra Sa) (hC : CX Ia) (hF : FRk Ia Ja) {a b c : Int} (ha0 : -2147483648 ≤ a) (ha1 : a < 2147483648) (hb0 : -2147483648 ≤ b) (hb1 : b < 2147483648) (hc0 : -2147483648 ≤ c) (hc1 : c < 2147483648) (hS : SR Ia) (hG : SRF Ia)  : CT l0 10 0 0 mX10_codes [kR (some 0), kI a, kI b, kI c] Ia Ja Ra Sa (cI (fun x I' J' => (Kp 0 49 Ia I' ∧ Kp 0 49 Ja J' ∧ CX I' ∧ Fw [37, 38, 39, 40, 41, 42, 43, 44, 45] [] Ia I' ∧ SR I' ∧ SRF I' ∧ (¬ (1 ≤ a ∧ a ≤ 3 ∧ 2 ≤ b ∧ b ≤ 4 ∧ 0 ≤ c ∧ c ≤ 8) → x = -1) ∧ ((1 ≤ a ∧ a ≤ 3 ∧ 2 ≤ b ∧ b ≤ 4 ∧ 0 ≤ c ∧ c ≤ 8) → x = TBX a b c)) ∧ FRk I' J') Ra Sa) := by
  refine ct_in pn_X10 (Nat.le_of_ble_eq_true rfl) (fun X hX hT hIn => ?_)
  have hX : aK l0 X cX10_codes 4 RX10 (some .int) 10 0 0 := hX
  change WW X 0 [some (kR (some 0)), some (kI a), some (kI b), some (kI c)] [] Ia Ja Ra Sa 0 0
  have hI := hC.1
  have hq := XI_o hI
  refine ww_iload_n hX (pc := 0) dX10_codes_0 rfl ?_
  refine ww_iload_n hX (pc := 1) dX10_codes_1 rfl ?_
  refine ww_iload_n hX (pc := 2) dX10_codes_2 rfl ?_
  refine sI3 hX (pc := 3) sX10_225 (c_X2_isSearched l0 (by omega) (by omega) (by omega) (by omega) (by omega) (by omega)) (by decide) (Nat.le_refl 0) (Nat.le_refl 0) (Nat.le_of_ble_eq_true rfl) dX10_codes_3 (fun x_3 I_3 J_3 h_3 => ?_)
  obtain ⟨rfl, rfl, h_3⟩ := h_3
  refine ww_if_eq hX (pc := 6) (tgt := 22) dX10_codes_6 (by decide) (fun h_6 => ?_) (fun h_6 => ?_)
  · simp only [w32_mod] at h_6
    refine ww_iconst hX (pc := 22) (x := (-1)) dX10_codes_22 rfl ?_
    refine rI hX (pc := 23) hT (Nat.le_refl 0) (Nat.le_refl 0) dX10_codes_23 ?_
    exact ⟨⟨(Kp_rf (a := 0) (b := 49)), (Kp_rf (a := 0) (b := 49)), hC, Fw_rf, hS, hG, by omega, by omega⟩, hF⟩
  · simp only [w32_mod] at h_6
    have k_3 := h_3.2.mp (by omega)
    clear h_3
    refine ww_aload_n hX (pc := 9) dX10_codes_9 rfl ?_
    refine ww_getR hX (pc := 10) fX10_71 (by decide) (xs_0 hL) (xr_0_8 hL) dX10_codes_10 ?_
    refine ww_iload_n hX (pc := 13) dX10_codes_13 rfl ?_
    refine ww_iload_n hX (pc := 14) dX10_codes_14 rfl ?_
    refine ww_iload_n hX (pc := 15) dX10_codes_15 rfl ?_
    refine vI3 hX (pc := 16) sX10_229 (xs_37 hL) (c6_X2_countCodes l0 hL (by omega) (by omega) (by omega) (by omega) (by omega) (by omega) hC.2.2 hS hG) (by decide) (Nat.le_refl 0) (Nat.le_refl 0) (Nat.le_of_ble_eq_true rfl) dX10_codes_16 (fun x_16 I_16 J_16 h_16 => ?_)
    have kI_16 : Kp 0 49 Ia I_16 := Kp_tr (Kp_rf (a := 0) (b := 49)) (Kp_wd h_16.1 (by decide) (by decide))
    have kJ_16 : Kp 0 49 Ja J_16 := Kp_tr (Kp_rf (a := 0) (b := 49)) (Kp_wd h_16.2.1 (by decide) (by decide))
    have ht16 : x_16 = TBX a b c := by
      unfold TBX
      by_cases h8 : c ≤ 3
      · rw [if_pos h8]; exact h_16.2.2.2.2.2.2.2 h8
      · rw [if_neg h8]; exact h_16.2.2.2.2.2.1 (by omega)
    have cI_16 : CX I_16 := CX_cs hC h_16.1 h_16.2.2.1
    have qI_16 := XI_o cI_16.1
    have r5_I_16 : I_16 1 5 = Ia 1 5 := by rw [h_16.1 1 (by decide)]
    have r6_I_16 : I_16 1 6 = Ia 1 6 := by rw [h_16.1 1 (by decide)]
    have r8_I_16 : I_16 1 8 = Ia 1 8 := by rw [h_16.1 1 (by decide)]
    have r9_I_16 : I_16 1 9 = Ia 1 9 := by rw [h_16.1 1 (by decide)]
    have r10_I_16 : I_16 1 10 = Ia 1 10 := by rw [h_16.1 1 (by decide)]
    have r11_I_16 : I_16 1 11 = Ia 1 11 := by rw [h_16.1 1 (by decide)]
    have rf_I_16 : FU (I_16 1 5) = FU (Ia 1 5) := by rw [r5_I_16]
    have wI_16 : Fw [37, 38, 39, 40, 41, 42, 43, 44, 45] [] Ia I_16 := Fw_kp Fw_rf h_16.1 (by decide)
    have r7_I_16 : I_16 1 7 = Ia 1 7 := by rw [h_16.1 1 (by decide)]
    have frI_16 : FRk I_16 J_16 := FRk_kp hF h_16.1 h_16.2.1 (by decide)
    refine ww_goto hX (pc := 19) (tgt := 23) dX10_codes_19 (by decide) ?_
    refine rI hX (pc := 23) hT (Nat.le_refl 0) (Nat.le_refl 0) dX10_codes_23 ?_
    exact ⟨⟨kI_16, kJ_16, cI_16, (Fw_wd wI_16 (by decide) (by decide)), h_16.2.2.2.1, h_16.2.2.2.2.1, by omega, by omega⟩, frI_16⟩
set_option maxHeartbeats 4000000 in
set_option maxRecDepth 20000 in
theorem c8_X10_learn (l0 : Launch) {Ia Ja : aI1} {Ra : aR1} {Sa : aS1} (hL : LY Ra Sa) (hC : CX Ia) (hF : FRk Ia Ja) {a : Int} (ha0 : -2147483648 ≤ a) (ha1 : a < 2147483648) (hW : ∀ i, i < 6 → ∀ w, Ra 4 i = some w → LawOK Ia Ra Sa w) {qsf : Nat → List zQ} (hqf : ∀ t : Nat, (t : Int) < Ia 1 9 → ∃ w, Ra 4 t = some w ∧ zLR Ia Sa w (qsf t))  : CT l0 10 0 0 mX10_learn [kR (some 0), kI a] Ia Ja Ra Sa (cI (fun x I' J' => (Kp 0 49 Ia I' ∧ Kp 0 49 Ja J' ∧ CX I' ∧ Fw [3, 15, 16, 17, 18, 19, 20, 21, 22, 23, 24, 25, 26, 27, 28, 29, 30, 33, 48] [(0, 16)] Ia I' ∧ (¬ (0 ≤ a ∧ a < Ia 1 9) → x = -2 ∧ RFc Ia I' (-2)) ∧ ((0 ≤ a ∧ a < Ia 1 9) → Fw [3, 15, 16, 17, 18, 19, 20, 21, 22, 23, 24, 25, 26, 27, 28, 29, 30, 33] [(0, 16)] Ia I' ∧ I' 0 16 = 0 ∧ (∀ j : Nat, I' 3 j = if (j : Int) ≤ FU (Ia 1 5) then zLd (qsf a.toNat) (Ia 1 5) (Ia 1 6) j else Ia 3 j) ∧ x = cnR (I' 3) (FU (Ia 1 5) + 1).toNat)) ∧ FRk I' J') Ra Sa) := by
  refine ct_in pn_X10 (Nat.le_of_ble_eq_true rfl) (fun X hX hT hIn => ?_)
  have hX : aK l0 X cX10_learn 5 RX10 (some .int) 10 0 0 := hX
  change WW X 0 [some (kR (some 0)), some (kI a), none, none, none] [] Ia Ja Ra Sa 0 0
  have hI := hC.1
  have hq := XI_o hI
  refine ww_iload_n hX (pc := 0) dX10_learn_0 rfl ?_
  refine ww_if_lt hX (pc := 1) (tgt := 15) dX10_learn_1 (by decide) (fun h_1 => ?_) (fun h_1 => ?_)
  · simp only [w32_mod] at h_1
    refine ww_aload_n hX (pc := 15) dX10_learn_15 rfl ?_
    refine ww_bipush hX (pc := 16) (x := (-2)) dX10_learn_16 (by decide) ?_
    refine vI1 hX (pc := 18) sX10_89 (xs_0 hL) (c8_X10_refuse l0 hL hC hF (by omega) (by omega)) (by decide) (Nat.le_refl 0) (Nat.le_refl 0) (Nat.le_of_ble_eq_true rfl) dX10_learn_18 (fun x_18 I_18 J_18 h_18 => ?_)
    obtain ⟨h_18, frI_18⟩ := h_18
    have kI_18 : Kp 0 49 Ia I_18 := Kp_tr (Kp_rf (a := 0) (b := 49)) (Kp_wd h_18.1 (by decide) (by decide))
    have kJ_18 : Kp 0 49 Ja J_18 := Kp_tr (Kp_rf (a := 0) (b := 49)) (Kp_wd h_18.2.1 (by decide) (by decide))
    have cI_18 : CX I_18 := h_18.2.2.1
    have qI_18 := XI_o cI_18.1
    have wI_18 : Fw [3, 15, 16, 17, 18, 19, 20, 21, 22, 23, 24, 25, 26, 27, 28, 29, 30, 33, 48] [(0, 16)] Ia I_18 := Fw_tr Fw_rf (Fw_wd h_18.2.2.2.1 (by decide) (by decide))
    have r5_I_18 : I_18 1 5 = Ia 1 5 := h_18.2.2.2.1 1 5 (by decide) (by decide) (by decide)
    have r6_I_18 : I_18 1 6 = Ia 1 6 := h_18.2.2.2.1 1 6 (by decide) (by decide) (by decide)
    have r7_I_18 : I_18 1 7 = Ia 1 7 := h_18.2.2.2.1 1 7 (by decide) (by decide) (by decide)
    have r8_I_18 : I_18 1 8 = Ia 1 8 := h_18.2.2.2.1 1 8 (by decide) (by decide) (by decide)
    have r9_I_18 : I_18 1 9 = Ia 1 9 := h_18.2.2.2.1 1 9 (by decide) (by decide) (by decide)
    have r10_I_18 : I_18 1 10 = Ia 1 10 := h_18.2.2.2.1 1 10 (by decide) (by decide) (by decide)
    have r11_I_18 : I_18 1 11 = Ia 1 11 := h_18.2.2.2.1 1 11 (by decide) (by decide) (by decide)
    have r81_I_18 : I_18 8 1 = Ia 8 1 := h_18.2.2.2.1 8 1 (by decide) (by decide) (by decide)
    have rf_I_18 : FU (I_18 1 5) = FU (Ia 1 5) := by rw [r5_I_18]
    have y3_I_18 : I_18 3 = Ia 3 := Fw_row h_18.2.2.2.1 3 (by decide) (by decide) (by decide)
    have xv_I_18 := h_18.2.2.2.2
    refine rI hX (pc := 21) hT (Nat.le_refl 0) (Nat.le_refl 0) dX10_learn_21 ?_
    exact ⟨⟨kI_18, kJ_18, cI_18, (Fw_wd wI_18 (by decide) (by decide)), (fun _ => ⟨xv_I_18.1, h_18.2.2.2.1, xv_I_18.2⟩), (fun h9 => absurd h9 (by omega))⟩, frI_18⟩
  · simp only [w32_mod] at h_1
    refine ww_iload_n hX (pc := 4) dX10_learn_4 rfl ?_
    refine ww_aload_n hX (pc := 5) dX10_learn_5 rfl ?_
    refine ww_getR hX (pc := 6) fX10_10 (by decide) (xs_0 hL) (xr_0_0 hL) dX10_learn_6 ?_
    refine ww_getI hX (pc := 9) fX10_170 (by decide) (xs_1 hL) dX10_learn_9 ?_
    refine ww_icmp_lt hX (pc := 12) (tgt := 22) dX10_learn_12 (by decide) (fun h_12 => ?_) (fun h_12 => ?_)
    · simp only [w32_mod] at h_12
      refine ww_aload_n hX (pc := 22) dX10_learn_22 rfl ?_
      refine ww_getR hX (pc := 23) fX10_10 (by decide) (xs_0 hL) (xr_0_0 hL) dX10_learn_23 ?_
      refine ww_getR hX (pc := 26) fX10_177 (by decide) (xs_1 hL) (xr_1_2 hL) dX10_learn_26 ?_
      refine ww_iload_n hX (pc := 29) dX10_learn_29 rfl ?_
      refine ww_aald hX (pc := 30) (Or.inl rfl) (xs_4 hL) (by decide) (by omega) (by omega) dX10_learn_30 ?_
      cases hlw : Ra 4 a.toNat with
      | none =>
        refine ww_astore_nN hX (pc := 31) (lv' := [some (kR (some 0)), some (kI a), some (kR none), none, none]) dX10_learn_31 (by decide) rfl rfl ?_
        refine ww_aload_nN hX (pc := 32) dX10_learn_32 rfl ?_
        refine ww_ifnonnullN hX (pc := 33) dX10_learn_33 ?_
        refine ww_aload_n hX (pc := 36) dX10_learn_36 rfl ?_
        refine ww_bipush hX (pc := 37) (x := (-2)) dX10_learn_37 (by decide) ?_
        refine vI1 hX (pc := 39) sX10_89 (xs_0 hL) (c8_X10_refuse l0 hL hC hF (by omega) (by omega)) (by decide) (Nat.le_refl 0) (Nat.le_refl 0) (Nat.le_of_ble_eq_true rfl) dX10_learn_39 (fun x_39 I_39 J_39 h_39 => ?_)
        obtain ⟨h_39, frI_39⟩ := h_39
        have kI_39 : Kp 0 49 Ia I_39 := Kp_tr (Kp_rf (a := 0) (b := 49)) (Kp_wd h_39.1 (by decide) (by decide))
        have kJ_39 : Kp 0 49 Ja J_39 := Kp_tr (Kp_rf (a := 0) (b := 49)) (Kp_wd h_39.2.1 (by decide) (by decide))
        have cI_39 : CX I_39 := h_39.2.2.1
        have qI_39 := XI_o cI_39.1
        have wI_39 : Fw [3, 15, 16, 17, 18, 19, 20, 21, 22, 23, 24, 25, 26, 27, 28, 29, 30, 33, 48] [(0, 16)] Ia I_39 := Fw_tr Fw_rf (Fw_wd h_39.2.2.2.1 (by decide) (by decide))
        have r5_I_39 : I_39 1 5 = Ia 1 5 := h_39.2.2.2.1 1 5 (by decide) (by decide) (by decide)
        have r6_I_39 : I_39 1 6 = Ia 1 6 := h_39.2.2.2.1 1 6 (by decide) (by decide) (by decide)
        have r7_I_39 : I_39 1 7 = Ia 1 7 := h_39.2.2.2.1 1 7 (by decide) (by decide) (by decide)
        have r8_I_39 : I_39 1 8 = Ia 1 8 := h_39.2.2.2.1 1 8 (by decide) (by decide) (by decide)
        have r9_I_39 : I_39 1 9 = Ia 1 9 := h_39.2.2.2.1 1 9 (by decide) (by decide) (by decide)
        have r10_I_39 : I_39 1 10 = Ia 1 10 := h_39.2.2.2.1 1 10 (by decide) (by decide) (by decide)
        have r11_I_39 : I_39 1 11 = Ia 1 11 := h_39.2.2.2.1 1 11 (by decide) (by decide) (by decide)
        have r81_I_39 : I_39 8 1 = Ia 8 1 := h_39.2.2.2.1 8 1 (by decide) (by decide) (by decide)
        have rf_I_39 : FU (I_39 1 5) = FU (Ia 1 5) := by rw [r5_I_39]
        have y3_I_39 : I_39 3 = Ia 3 := Fw_row h_39.2.2.2.1 3 (by decide) (by decide) (by decide)
        have xv_I_39 := h_39.2.2.2.2
        refine rI hX (pc := 42) hT (Nat.le_refl 0) (Nat.le_refl 0) dX10_learn_42 ?_
        exact ⟨⟨kI_39, kJ_39, cI_39, (Fw_wd wI_39 (by decide) (by decide)), (fun _ => (by
              obtain ⟨w9, hw9, -⟩ := hqf a.toNat (by omega)
              rw [hlw] at hw9
              cases hw9)), (fun _ => (by
              obtain ⟨w9, hw9, -⟩ := hqf a.toNat (by omega)
              rw [hlw] at hw9
              cases hw9))⟩, frI_39⟩
      | some w =>
        obtain ⟨hw73, hws, hwr0, hwr1, hwc, ⟨n1, hn1, hs1, hst1⟩, ⟨n2, hn2, hs2, hst2⟩⟩ := hW a.toNat (by omega) w hlw
        refine ww_astore_n hX (pc := 31) (lv' := [some (kR (some 0)), some (kI a), some (kR (some w)), none, none]) dX10_learn_31 (by decide) rfl rfl ?_
        refine ww_aload_n hX (pc := 32) dX10_learn_32 rfl ?_
        refine ww_ifnonnullS hX (pc := 33) (tgt := 43) dX10_learn_33 (by decide) ?_
        obtain ⟨w9, hw9, hlr⟩ := hqf a.toNat (by omega)
        have hw90 : w9 = w := by
          rw [hlw] at hw9
          cases hw9
          rfl
        rw [hw90] at hlr
        obtain ⟨hz2, hz12, hzc, n9, hzs1, hn9, hzm, hzs2⟩ := hlr
        have hzn1 : n9 = n1 := by
          rw [hs1] at hzs1
          cases hzs1
          rfl
        have hzn : n2 = 2 * (qsf a.toNat).length + 1 := by
          rw [hs2] at hzs2
          cases hzs2
          rfl
        refine ww_aload_n hX (pc := 43) dX10_learn_43 rfl ?_
        refine ww_getR hX (pc := 44) fX10_10 (by decide) (xs_0 hL) (xr_0_0 hL) dX10_learn_44 ?_
        refine vI0 hX (pc := 47) sX10_151 (xs_1 hL) (c_X1_full l0 hL hC.1) (by decide) (Nat.le_refl 0) (Nat.le_refl 0) (Nat.le_of_ble_eq_true rfl) dX10_learn_47 (fun x_47 I_47 J_47 h_47 => ?_)
        obtain ⟨rfl, rfl, h_47⟩ := h_47
        refine ww_istore_n hX (pc := 50) (lv' := [some (kR (some 0)), some (kI a), some (kR (some w)), some (kI x_47), none]) dX10_learn_50 (by decide) rfl rfl ?_
        refine ww_iconst hX (pc := 51) (x := 0) dX10_learn_51 rfl ?_
        refine ww_istore hX (pc := 52) (lv' := [some (kR (some 0)), some (kI a), some (kR (some w)), some (kI x_47), some (kI 0)]) dX10_learn_52 (by decide) rfl rfl ?_
        have hl_54 : ∀ (n_54 : Nat) (i : Int) (I2 : aI1) (J2 : aI1), (256 - i).toNat = n_54 → (Kp 0 49 Ia I2 ∧ Kp 0 49 Ja J2 ∧ CX I2 ∧ Fw [3, 15, 16, 17, 18, 19, 20, 21, 22, 23, 24, 25, 26, 27, 28, 29, 30, 33] [(0, 16)] Ia I2 ∧ (I2 1 5 = Ia 1 5 ∧ I2 1 6 = Ia 1 6) ∧ ((0 ≤ i ∧ i ≤ FU (Ia 1 5) + 1) ∧ (∀ j : Nat, I2 3 j = if (j : Int) < i then zLd (qsf a.toNat) (Ia 1 5) (Ia 1 6) j else Ia 3 j))) → WW X 54 [some (kR (some 0)), some (kI a), some (kR (some w)), some (kI x_47), some (kI i)] [] I2 J2 Ra Sa 0 0 := by
          intro n_54
          induction n_54 using Nat.strongRecOn with
          | ind n_54 ih_54 =>
            intro i I2 J2 hm_54 hv_54
            have hq_54 := Sh0_i hm_54
            clear hm_54
            obtain ⟨kI2, kJ2, cI2, wI2, hI20, hi, h3⟩ := hv_54
            have qI2 := XI_o cI2.1
            have rfI2 := congrArg FU hI20.1
            refine ww_iload hX (pc := 54) dX10_learn_54 rfl ?_
            refine ww_iload_n hX (pc := 56) dX10_learn_56 rfl ?_
            refine ww_icmp_gt hX (pc := 57) (tgt := 90) dX10_learn_57 (by decide) (fun h_57 => ?_) (fun h_57 => ?_)
            · simp only [w32_mod] at h_57
              refine ww_aload_n hX (pc := 90) dX10_learn_90 rfl ?_
              refine vV0 hX (pc := 91) sX10_111 (xs_0 hL) (c8_X10_codeChanged l0 hL cI2) (by decide) (Nat.le_refl 0) (Nat.le_refl 0) (Nat.le_of_ble_eq_true rfl) dX10_learn_91 (fun I_91 J_91 h_91 => ?_)
              obtain ⟨h_91, frI_91⟩ := h_91
              have kI_91 : Kp 0 49 Ia I_91 := Kp_tr kI2 (Kp_wd h_91.1 (by decide) (by decide))
              have kJ_91 : Kp 0 49 Ja J_91 := Kp_tr kJ2 (Kp_wd h_91.2.1 (by decide) (by decide))
              have cI_91 : CX I_91 := h_91.2.2.1
              have qI_91 := XI_o cI_91.1
              have wI_91 : Fw [3, 15, 16, 17, 18, 19, 20, 21, 22, 23, 24, 25, 26, 27, 28, 29, 30, 33] [(0, 16)] Ia I_91 := Fw_tr wI2 (Fw_wd h_91.2.2.2.1 (by decide) (by decide))
              have r5_I_91 : I_91 1 5 = I2 1 5 := h_91.2.2.2.1 1 5 (by decide) (by decide) (by decide)
              have r6_I_91 : I_91 1 6 = I2 1 6 := h_91.2.2.2.1 1 6 (by decide) (by decide) (by decide)
              have r7_I_91 : I_91 1 7 = I2 1 7 := h_91.2.2.2.1 1 7 (by decide) (by decide) (by decide)
              have r8_I_91 : I_91 1 8 = I2 1 8 := h_91.2.2.2.1 1 8 (by decide) (by decide) (by decide)
              have r9_I_91 : I_91 1 9 = I2 1 9 := h_91.2.2.2.1 1 9 (by decide) (by decide) (by decide)
              have r10_I_91 : I_91 1 10 = I2 1 10 := h_91.2.2.2.1 1 10 (by decide) (by decide) (by decide)
              have r11_I_91 : I_91 1 11 = I2 1 11 := h_91.2.2.2.1 1 11 (by decide) (by decide) (by decide)
              have r81_I_91 : I_91 8 1 = I2 8 1 := h_91.2.2.2.1 8 1 (by decide) (by decide) (by decide)
              have rf_I_91 : FU (I_91 1 5) = FU (I2 1 5) := by rw [r5_I_91]
              have y3_I_91 : I_91 3 = I2 3 := Fw_row h_91.2.2.2.1 3 (by decide) (by decide) (by decide)
              refine ww_aload_n hX (pc := 94) dX10_learn_94 rfl ?_
              refine ww_aload_n hX (pc := 95) dX10_learn_95 rfl ?_
              refine ww_getR hX (pc := 96) fX10_10 (by decide) (xs_0 hL) (xr_0_0 hL) dX10_learn_96 ?_
              refine vI0 hX (pc := 99) sX10_167 (xs_1 hL) (c5_X1_readCount l0 hL cI_91.1) (by decide) (Nat.le_refl 0) (Nat.le_refl 0) (Nat.le_of_ble_eq_true rfl) dX10_learn_99 (fun x_99 I_99 J_99 h_99 => ?_)
              obtain ⟨rfl, rfl, h_99⟩ := h_99
              refine vI1 hX (pc := 102) sX10_114 (xs_0 hL) (c8_X10_accept l0 hL cI_91 frI_91) (by decide) (Nat.le_refl 0) (Nat.le_refl 0) (Nat.le_of_ble_eq_true rfl) dX10_learn_102 (fun x_102 I_102 J_102 h_102 => ?_)
              obtain ⟨h_102, frI_102⟩ := h_102
              have kI_102 : Kp 0 49 Ia I_102 := Kp_tr kI_91 (Kp_wd h_102.1 (by decide) (by decide))
              have kJ_102 : Kp 0 49 Ja J_102 := Kp_tr kJ_91 (Kp_wd h_102.2.1 (by decide) (by decide))
              have cI_102 : CX I_102 := h_102.2.2.1
              have qI_102 := XI_o cI_102.1
              have wI_102 : Fw [3, 15, 16, 17, 18, 19, 20, 21, 22, 23, 24, 25, 26, 27, 28, 29, 30, 33] [(0, 16)] Ia I_102 := Fw_tr wI_91 (Fw_wd h_102.2.2.2.1 (by decide) (by decide))
              have r5_I_102 : I_102 1 5 = I_91 1 5 := h_102.2.2.2.1 1 5 (by decide) (by decide) (by decide)
              have r6_I_102 : I_102 1 6 = I_91 1 6 := h_102.2.2.2.1 1 6 (by decide) (by decide) (by decide)
              have r7_I_102 : I_102 1 7 = I_91 1 7 := h_102.2.2.2.1 1 7 (by decide) (by decide) (by decide)
              have r8_I_102 : I_102 1 8 = I_91 1 8 := h_102.2.2.2.1 1 8 (by decide) (by decide) (by decide)
              have r9_I_102 : I_102 1 9 = I_91 1 9 := h_102.2.2.2.1 1 9 (by decide) (by decide) (by decide)
              have r10_I_102 : I_102 1 10 = I_91 1 10 := h_102.2.2.2.1 1 10 (by decide) (by decide) (by decide)
              have r11_I_102 : I_102 1 11 = I_91 1 11 := h_102.2.2.2.1 1 11 (by decide) (by decide) (by decide)
              have r81_I_102 : I_102 8 1 = I_91 8 1 := h_102.2.2.2.1 8 1 (by decide) (by decide) (by decide)
              have rf_I_102 : FU (I_102 1 5) = FU (I_91 1 5) := by rw [r5_I_102]
              have y3_I_102 : I_102 3 = I_91 3 := Fw_row h_102.2.2.2.1 3 (by decide) (by decide) (by decide)
              have xv_I_102 := h_102.2.2.2.2
              refine rI hX (pc := 105) hT (Nat.le_refl 0) (Nat.le_refl 0) dX10_learn_105 ?_
              exact ⟨⟨kI_102, kJ_102, cI_102, (Fw_wd wI_102 (by decide) (by decide)), (fun h9 => absurd (by omega) h9), (fun _ => ⟨wI_102, xv_I_102.2, (fun j => by
                    rw [y3_I_102, y3_I_91, h3 j]
                    by_cases g : (j : Int) < i
                    · rw [if_pos g, if_pos (by omega)]
                    · rw [if_neg g, if_neg (by omega)]), by rw [xv_I_102.1, h_99, y3_I_102, rf_I_91]; exact congrArg (fun z : Int => cnR (I_91 3) (z + 1).toNat) (by omega)⟩)⟩, frI_102⟩
            · simp only [w32_mod] at h_57
              refine ww_aload_n hX (pc := 60) dX10_learn_60 rfl ?_
              refine ww_getR hX (pc := 61) fX10_10 (by decide) (xs_0 hL) (xr_0_0 hL) dX10_learn_61 ?_
              refine ww_getR hX (pc := 64) fX10_137 (by decide) (xs_1 hL) (xr_1_1 hL) dX10_learn_64 ?_
              refine ww_iload hX (pc := 67) dX10_learn_67 rfl ?_
              refine ww_aload_n hX (pc := 69) dX10_learn_69 rfl ?_
              refine ww_getR hX (pc := 70) fX10_39 (by decide) (xs_0 hL) (xr_0_4 hL) dX10_learn_70 ?_
              refine ww_aload_n hX (pc := 73) dX10_learn_73 rfl ?_
              refine ww_aload_n hX (pc := 74) dX10_learn_74 rfl ?_
              refine ww_getR hX (pc := 75) fX10_10 (by decide) (xs_0 hL) (xr_0_0 hL) dX10_learn_75 ?_
              refine ww_iload hX (pc := 78) dX10_learn_78 rfl ?_
              refine vI3 hX (pc := 80) sX10_184 (xs_15 hL) (c6_X0_ask l0 hL cI2.1 hws hwr0 hwr1 hs1 hs2 (by omega) (by omega) (by omega) (by omega) (by omega) (fun j hj => by rw [kI2 (w + 1) (by omega)]; exact hst1 j hj) (fun j hj => by rw [kI2 (w + 2) (by omega)]; exact hst2 j hj) (qs := qsf a.toNat) (by rw [kI2 w (by omega)]; exact hz2) hz12 (by rw [kI2 (w + 1) (by omega), kI2 (w + 2) (by omega)]; exact hzc) (fun j g1 g2 => by rw [kI2 (w + 2) (by omega)]; have h9 := hzm j g1 g2; omega) hzn (by omega) (by omega)) (by decide) (Nat.le_refl 0) (Nat.le_refl 0) (Nat.le_of_ble_eq_true rfl) dX10_learn_80 (fun x_80 I_80 J_80 h_80 => ?_)
              have kI_80 : Kp 0 49 Ia I_80 := Kp_tr kI2 (Kp_wd h_80.1 (by decide) (by decide))
              have kJ_80 : Kp 0 49 Ja J_80 := Kp_tr kJ2 (Kp_wd h_80.2.1 (by decide) (by decide))
              have cI_80 : CX I_80 := CX_kp cI2 h_80.1 (by decide) (by decide)
              have qI_80 := XI_o cI_80.1
              have r5_I_80 : I_80 1 5 = I2 1 5 := by rw [h_80.1 1 (by decide)]
              have r6_I_80 : I_80 1 6 = I2 1 6 := by rw [h_80.1 1 (by decide)]
              have r8_I_80 : I_80 1 8 = I2 1 8 := by rw [h_80.1 1 (by decide)]
              have r9_I_80 : I_80 1 9 = I2 1 9 := by rw [h_80.1 1 (by decide)]
              have r10_I_80 : I_80 1 10 = I2 1 10 := by rw [h_80.1 1 (by decide)]
              have r11_I_80 : I_80 1 11 = I2 1 11 := by rw [h_80.1 1 (by decide)]
              have rf_I_80 : FU (I_80 1 5) = FU (I2 1 5) := by rw [r5_I_80]
              have wI_80 : Fw [3, 15, 16, 17, 18, 19, 20, 21, 22, 23, 24, 25, 26, 27, 28, 29, 30, 33] [(0, 16)] Ia I_80 := Fw_kp wI2 h_80.1 (by decide)
              have r7_I_80 : I_80 1 7 = I2 1 7 := by rw [h_80.1 1 (by decide)]
              have y3_I_80 : I_80 3 = I2 3 := h_80.1 3 (by decide)
              have hgb := zGv_b (K := I2 1 6) (r := zTl (qsf a.toNat) (zEn i (I2 1 5) (I2 1 6))) (by omega) (by omega)
              have hgx := h_80.2.2
              refine ww_iast hX (pc := 83) (xs_3 hL) (by decide) (by omega) (by omega) dX10_learn_83 ?_
              refine ww_nmH (fun I_83 eI_83 => ?_)
              have kI_83 : Kp 0 49 Ia I_83 := by rw [eI_83]; exact Kp_up kI_80 _ _ (by decide)
              have cI_83 : CX I_83 := by rw [eI_83]; exact CX_x cI_80 (XI_3 cI_80.1 (by omega) (by omega)) (by decide)
              have qI_83 := XI_o cI_83.1
              have r5_I_83 : I_83 1 5 = I_80 1 5 := by rw [eI_83, up2_off _ _ _ (by decide)]
              have r6_I_83 : I_83 1 6 = I_80 1 6 := by rw [eI_83, up2_off _ _ _ (by decide)]
              have r8_I_83 : I_83 1 8 = I_80 1 8 := by rw [eI_83, up2_off _ _ _ (by decide)]
              have r9_I_83 : I_83 1 9 = I_80 1 9 := by rw [eI_83, up2_off _ _ _ (by decide)]
              have r10_I_83 : I_83 1 10 = I_80 1 10 := by rw [eI_83, up2_off _ _ _ (by decide)]
              have r11_I_83 : I_83 1 11 = I_80 1 11 := by rw [eI_83, up2_off _ _ _ (by decide)]
              have rf_I_83 : FU (I_83 1 5) = FU (I_80 1 5) := by rw [r5_I_83]
              have wI_83 : Fw [3, 15, 16, 17, 18, 19, 20, 21, 22, 23, 24, 25, 26, 27, 28, 29, 30, 33] [(0, 16)] Ia I_83 := by rw [eI_83]; exact Fw_up wI_80 (Or.inl (by decide))
              have r7_I_83 : I_83 1 7 = I_80 1 7 := by rw [eI_83, up2_n _ _ (Or.inl (by decide))]
              have t3 : ∀ j : Nat, I_83 3 j = if (j : Int) < i + 1 then zLd (qsf a.toNat) (Ia 1 5) (Ia 1 6) j else Ia 3 j := fun j => by
                rw [eI_83, up2_row]
                by_cases e9 : j = i.toNat
                · rw [e9, up1_s, if_pos (by omega), show ((i.toNat : Nat) : Int) = i by omega, h_80.2.2, hI20.1, hI20.2]
                  rfl
                · rw [up1_n _ _ e9, y3_I_80, h3 j]
                  by_cases e8 : (j : Int) < i
                  · rw [if_pos e8, if_pos (by omega)]
                  · rw [if_neg e8, if_neg (by omega)]
              refine ww_iinc hX (pc := 84) (lv' := [some (kR (some 0)), some (kI a), some (kR (some w)), some (kI x_47), some (kI (i + 1))]) dX10_learn_84 rfl (by decide) rfl rfl ?_
              refine ww_goto hX (pc := 87) (tgt := 54) dX10_learn_87 (by decide) ?_
              exact ih_54 _ (by have hm9 := Sh0_e hq_54; omega) (i + 1) I_83 J_80 rfl ⟨kI_83, kJ_80, cI_83, wI_83, ⟨by omega, by omega⟩, by omega, t3⟩
        exact hl_54 _ 0 Ia Ja rfl ⟨(Kp_rf (a := 0) (b := 49)), (Kp_rf (a := 0) (b := 49)), hC, Fw_rf, ⟨by omega, by omega⟩, by omega, (fun j => by rw [if_neg (by omega)])⟩
    · simp only [w32_mod] at h_12
      refine ww_aload_n hX (pc := 15) dX10_learn_15 rfl ?_
      refine ww_bipush hX (pc := 16) (x := (-2)) dX10_learn_16 (by decide) ?_
      refine vI1 hX (pc := 18) sX10_89 (xs_0 hL) (c8_X10_refuse l0 hL hC hF (by omega) (by omega)) (by decide) (Nat.le_refl 0) (Nat.le_refl 0) (Nat.le_of_ble_eq_true rfl) dX10_learn_18 (fun x_18 I_18 J_18 h_18 => ?_)
      obtain ⟨h_18, frI_18⟩ := h_18
      have kI_18 : Kp 0 49 Ia I_18 := Kp_tr (Kp_rf (a := 0) (b := 49)) (Kp_wd h_18.1 (by decide) (by decide))
      have kJ_18 : Kp 0 49 Ja J_18 := Kp_tr (Kp_rf (a := 0) (b := 49)) (Kp_wd h_18.2.1 (by decide) (by decide))
      have cI_18 : CX I_18 := h_18.2.2.1
      have qI_18 := XI_o cI_18.1
      have wI_18 : Fw [3, 15, 16, 17, 18, 19, 20, 21, 22, 23, 24, 25, 26, 27, 28, 29, 30, 33, 48] [(0, 16)] Ia I_18 := Fw_tr Fw_rf (Fw_wd h_18.2.2.2.1 (by decide) (by decide))
      have r5_I_18 : I_18 1 5 = Ia 1 5 := h_18.2.2.2.1 1 5 (by decide) (by decide) (by decide)
      have r6_I_18 : I_18 1 6 = Ia 1 6 := h_18.2.2.2.1 1 6 (by decide) (by decide) (by decide)
      have r7_I_18 : I_18 1 7 = Ia 1 7 := h_18.2.2.2.1 1 7 (by decide) (by decide) (by decide)
      have r8_I_18 : I_18 1 8 = Ia 1 8 := h_18.2.2.2.1 1 8 (by decide) (by decide) (by decide)
      have r9_I_18 : I_18 1 9 = Ia 1 9 := h_18.2.2.2.1 1 9 (by decide) (by decide) (by decide)
      have r10_I_18 : I_18 1 10 = Ia 1 10 := h_18.2.2.2.1 1 10 (by decide) (by decide) (by decide)
      have r11_I_18 : I_18 1 11 = Ia 1 11 := h_18.2.2.2.1 1 11 (by decide) (by decide) (by decide)
      have r81_I_18 : I_18 8 1 = Ia 8 1 := h_18.2.2.2.1 8 1 (by decide) (by decide) (by decide)
      have rf_I_18 : FU (I_18 1 5) = FU (Ia 1 5) := by rw [r5_I_18]
      have y3_I_18 : I_18 3 = Ia 3 := Fw_row h_18.2.2.2.1 3 (by decide) (by decide) (by decide)
      have xv_I_18 := h_18.2.2.2.2
      refine rI hX (pc := 21) hT (Nat.le_refl 0) (Nat.le_refl 0) dX10_learn_21 ?_
      exact ⟨⟨kI_18, kJ_18, cI_18, (Fw_wd wI_18 (by decide) (by decide)), (fun _ => ⟨xv_I_18.1, h_18.2.2.2.1, xv_I_18.2⟩), (fun h9 => absurd h9 (by omega))⟩, frI_18⟩
