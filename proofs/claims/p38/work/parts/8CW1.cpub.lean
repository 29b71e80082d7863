theorem CT_wI {l0 : Launch} {d mc ms : Nat} {M : aM} {av : List aV} {I J : aI1} {R : aR1} {S : aS1} {p q : Int → aI1 → aI1 → Prop} (h : CT l0 d mc ms M av I J R S (cI p R S)) (hw : ∀ x I' J', p x I' J' → q x I' J') : CT l0 d mc ms M av I J R S (cI q R S) := by
  intro E pr e ha hc hk s m args below hf happ hP hK
  obtain ⟨n, o, h1, h2, h3, ⟨⟨r, I', J', R', S', g1, ⟨x, e1, e2, e3, e4⟩, g3⟩, g4⟩, g5⟩ := h E pr e ha hc hk s m args below hf happ hP hK
  exact ⟨n, o, h1, h2, h3, ⟨⟨r, I', J', R', S', g1, ⟨x, e1, e2, e3, hw _ _ _ e4⟩, g3⟩, g4⟩, g5⟩
theorem CT_wJ {l0 : Launch} {d mc ms : Nat} {M : aM} {av : List aV} {I J : aI1} {R : aR1} {S : aS1} {p q : Int → aI1 → aI1 → Prop} (h : CT l0 d mc ms M av I J R S (cJ p R S)) (hw : ∀ x I' J', p x I' J' → q x I' J') : CT l0 d mc ms M av I J R S (cJ q R S) := by
  intro E pr e ha hc hk s m args below hf happ hP hK
  obtain ⟨n, o, h1, h2, h3, ⟨⟨r, I', J', R', S', g1, ⟨x, e1, e2, e3, e4⟩, g3⟩, g4⟩, g5⟩ := h E pr e ha hc hk s m args below hf happ hP hK
  exact ⟨n, o, h1, h2, h3, ⟨⟨r, I', J', R', S', g1, ⟨x, e1, e2, e3, hw _ _ _ e4⟩, g3⟩, g4⟩, g5⟩
theorem CT_wV {l0 : Launch} {d mc ms : Nat} {M : aM} {av : List aV} {I J : aI1} {R : aR1} {S : aS1} {p q : aI1 → aI1 → Prop} (h : CT l0 d mc ms M av I J R S (cV p R S)) (hw : ∀ I' J', p I' J' → q I' J') : CT l0 d mc ms M av I J R S (cV q R S) := by
  intro E pr e ha hc hk s m args below hf happ hP hK
  obtain ⟨n, o, h1, h2, h3, ⟨⟨r, I', J', R', S', g1, ⟨e1, e2, e3, e4⟩, g3⟩, g4⟩, g5⟩ := h E pr e ha hc hk s m args below hf happ hP hK
  exact ⟨n, o, h1, h2, h3, ⟨⟨r, I', J', R', S', g1, ⟨e1, e2, e3, hw _ _ e4⟩, g3⟩, g4⟩, g5⟩
/-- the tables that a MANNER chooses by are right -/
def KT (m : Int) (I : aI1) (o L T : Nat → Int) : Prop := (m = 1 → ∀ s : Nat, (s : Int) ≤ FU (I 1 5) → o s = oilS (I 2) s (I 1 5).toNat) ∧ (m = 2 → zLV (I 3) (I 1 7) (FU (I 1 5) + 1) (I 1 6) (-1) L) ∧ (m = 3 → MTc (I 3) (I 1 7) (I 1 5) (I 1 6) T)
theorem FRk_up {I J : aI1} {k j : Nat} {v : Int} (h : FRk I J) (hk : k ≠ 1 ∧ k ≠ 2 ∧ k ≠ 3 ∧ k ≠ 18 ∧ k ≠ 19 ∧ k ≠ 24) : FRk (up2 I k j v) J := by
  have e : ∀ a, a ≠ k → up2 I k j v a = I a := fun a ha => up2_off _ _ _ ha
  exact FRk_of h (e _ (by omega)) (by rw [e 1 (by omega)]) (by rw [e 1 (by omega)]) (by rw [e 1 (by omega)]) (e _ (by omega)) (e _ (by omega)) (e _ (by omega)) (e _ (by omega)) rfl rfl
theorem FRk_u1 {I J : aI1} {j : Nat} {v : Int} (h : FRk I J) (hk : j ≠ 5 ∧ j ≠ 6 ∧ j ≠ 7) : FRk (up2 I 1 j v) J := by
  have e : ∀ a, a ≠ 1 → up2 I 1 j v a = I a := fun a ha => up2_off _ _ _ ha
  have e1 : ∀ b, b ≠ j → up2 I 1 j v 1 b = I 1 b := fun b hb => up2_n _ _ (Or.inr hb)
  exact FRk_of h (e _ (by decide)) (e1 _ (by omega)) (e1 _ (by omega)) (e1 _ (by omega)) (e _ (by decide)) (e _ (by decide)) (e _ (by decide)) (e _ (by decide)) rfl rfl
theorem FRk_oil {I I1 I2 J : aI1} {j : Nat} {v : Int} (h : FRk I J) (e1 : I1 = up2 I 2 j v) (e2 : I2 = up2 I1 18 10 0) : FRk I2 J := by
  have f : ∀ a, a ≠ 2 → a ≠ 18 → I2 a = I a := fun a h1 h2 => by rw [e2, up2_off _ _ _ h2, e1, up2_off _ _ _ h1]
  have g : I2 18 = up1 (I 18) 10 0 := by rw [e2, up2_row, e1, up2_off _ _ _ (by decide)]
  obtain ⟨h0, h1, h2, h3⟩ := h
  refine ⟨?_, fun h9 => absurd (by rw [g, up1_s]) h9, fun h9 => LT_of (h2 (by rw [g, up1_n _ _ (by decide)] at h9; exact h9)) (by rw [f 1 (by decide) (by decide)]) (by rw [f 1 (by decide) (by decide)]) (by rw [f 1 (by decide) (by decide)]) (f 3 (by decide) (by decide)) (f 24 (by decide) (by decide)), fun h9 => MT_of (h3 (by rw [g, up1_n _ _ (by decide)] at h9; exact h9)) (by rw [f 1 (by decide) (by decide)]) (by rw [f 1 (by decide) (by decide)]) (by rw [f 1 (by decide) (by decide)]) (f 3 (by decide) (by decide)) rfl rfl⟩
  unfold FRf
  rw [g]
  exact ⟨by rw [up1_s]; omega, by rw [up1_n _ _ (by decide)]; exact h0.2.1, by rw [up1_n _ _ (by decide)]; exact h0.2.2⟩
theorem KT_p {m : Int} {I I' J' : aI1} (h1 : m = 1 → OT I') (h2 : m = 2 → LT I') (h3 : m = 3 → MT I' J') (e1 : I' 1 = I 1) (e2 : I' 2 = I 2) (e3 : I' 3 = I 3) : KT m I (I' 19) (I' 24) (J' 28) := by
  refine ⟨fun e s hs => ?_, fun e => ?_, fun e => ?_⟩
  · have h := h1 e s (by rw [e1]; exact hs)
    rw [e1, e2] at h
    exact h
  · have h := h2 e
    unfold LT at h
    rw [e1, e3] at h
    exact h
  · have h := MT_c (h3 e)
    rw [e1, e3] at h
    exact h
/-- how many are SENT in a DRAWN NIGHT, and how -/
def dS (a : Int) : Nat → Int
  | 0 => a
  | i + 1 => (dS a i * 1103 + 12345) % 1000003
def dN (nx : Int → Int → Int) (a K : Int) : Nat → Int
  | 0 => 0
  | i + 1 => nx (dN nx a K i) (dS a (i + 1) % K)
def NGc (nx : Int → Int → Int) (a K b : Int) (F : Nat → Int) (n u : Int) : Prop := (0 ≤ n ∧ n ≤ b) ∧ (∀ j : Nat, (j : Int) < n → F j = dN nx a K (j + 1) ∧ 0 ≤ dN nx a K (j + 1)) ∧ ((n = b ∧ u = -1) ∨ (n < b ∧ dN nx a K (n.toNat + 1) = -1 ∧ u = dS a (n.toNat + 1) % K))
theorem NGc_un {nx : Int → Int → Int} {a K b n m u v : Int} {F G : Nat → Int} (h : NGc nx a K b F n u) (k : NGc nx a K b G m v) : n = m ∧ u = v ∧ ∀ j : Nat, (j : Int) < n → F j = G j := by
  obtain ⟨⟨h0, h1⟩, h2, h3⟩ := h
  obtain ⟨⟨k0, k1⟩, k2, k3⟩ := k
  have e : n = m := by
    refine Decidable.byContradiction (fun hne => ?_)
    by_cases hlt : n < m
    · have g1 := (k2 n.toNat (by omega)).2
      rcases h3 with ⟨h3, -⟩ | ⟨-, h3, -⟩ <;> omega
    · have g1 := (h2 m.toNat (by omega)).2
      rcases k3 with ⟨k3, -⟩ | ⟨-, k3, -⟩ <;> omega
  subst e
  refine ⟨rfl, ?_, fun j hj => by rw [(h2 j hj).1, (k2 j hj).1]⟩
  rcases h3 with ⟨h3, h4⟩ | ⟨h3, h4, h5⟩
  · rcases k3 with ⟨k3, k4⟩ | ⟨k3, k4, k5⟩ <;> omega
  · rcases k3 with ⟨k3, k4⟩ | ⟨k3, k4, k5⟩
    · omega
    · rw [h5, k5]
/-- a TRAIL is JUDGED -/
def JGp (F : Nat → Int) (i : Nat) : Int := if i = 0 then 0 else w32 (F (i - 1))
def JG (ok : Int → Int → Prop) (F : Nat → Int) (n x : Int) : Prop := (x = -1 ∧ ∀ i : Nat, (i : Int) < n → ok (JGp F i) (w32 (F i))) ∨ (0 ≤ x ∧ x < n ∧ (∀ i : Nat, (i : Int) < x → ok (JGp F i) (w32 (F i))) ∧ ¬ ok (JGp F x.toNat) (w32 (F x.toNat)))
theorem n8_X4_oilOf (l0 : Launch) {Ia Ja : aI1} {Ra : aR1} {Sa : aS1} (hL : LY Ra Sa) (hI : XI Ia) (hF : FRk Ia Ja) {a : Int} (ha0 : 0 ≤ a) (ha1 : a ≤ FU (Ia 1 5)) : CT l0 2 0 0 mX4_oilOf [kR (some 18), kI a] Ia Ja Ra Sa (cI (fun x I' J' => Kp 18 31 Ia I' ∧ Kp 18 31 Ja J' ∧ FRk I' J' ∧ x = oilS (Ia 2) a.toNat (Ia 1 5).toNat) Ra Sa) :=
  CT_wI (c8_X4_oilOf l0 hL hI hF ha0 ha1) (fun x I' J' h => ⟨Kp_wd h.1 (by decide) (by decide), h.2.1 ▸ Kp_rf, h.2.1 ▸ h.2.2.1, h.2.2.2⟩)
theorem n8_X4_lastingOf (l0 : Launch) {Ia Ja : aI1} {Ra : aR1} {Sa : aS1} (hL : LY Ra Sa) (hI : XI Ia) (hF : FRk Ia Ja) {a : Int} (ha0 : 0 ≤ a) (ha1 : a ≤ FU (Ia 1 5)) : CT l0 4 0 0 mX4_lastingOf [kR (some 18), kI a] Ia Ja Ra Sa (cI (fun x I' J' => Kp 18 31 Ia I' ∧ Kp 18 31 Ja J' ∧ FRk I' J' ∧ ∃ L, zLV (Ia 3) (Ia 1 7) (FU (Ia 1 5) + 1) (Ia 1 6) (-1) L ∧ x = L a.toNat) Ra Sa) :=
  CT_wI (c8_X4_lastingOf l0 hL hI hF ha0 ha1) (fun x I' J' h => ⟨Kp_wd h.1 (by decide) (by decide), h.2.1 ▸ Kp_rf, h.2.1 ▸ h.2.2.1, h.2.2.2⟩)
theorem n8_X4_lastingWithout (l0 : Launch) {Ia Ja : aI1} {Ra : aR1} {Sa : aS1} (hL : LY Ra Sa) (hI : XI Ia) (hF : FRk Ia Ja) {a : Int} : CT l0 3 0 0 mX4_lastingWithout [kR (some 18), kI a] Ia Ja Ra Sa (cI (fun x I' J' => Kp 18 31 Ia I' ∧ Kp 18 31 Ja J' ∧ FRk I' J' ∧ ∃ L, zLV (Ia 3) (i_or (Ia 1 7) (i_shl 1 a)) (FU (Ia 1 5) + 1) (Ia 1 6) (-1) L ∧ x = L 0) Ra Sa) :=
  CT_wI (c8_X4_lastingWithout l0 hL hI) (fun x I' J' h => ⟨Kp_wd h.1 (by decide) (by decide), Kp_wd h.2.1 (by decide) (by decide), FRk_kp hF h.1 h.2.1 (by decide), h.2.2⟩)
theorem n8_X4_meanPart (l0 : Launch) {Ia Ja : aI1} {Ra : aR1} {Sa : aS1} (hL : LY Ra Sa) (hI : XI Ia) (hF : FRk Ia Ja) (hK : ∀ s : Nat, (s : Int) ≤ FU (Ia 1 5) → Ia 3 s < Ia 1 6) {a b : Int} (ha0 : 0 ≤ a) (ha1 : a ≤ FU (Ia 1 5)) (hb0 : 0 ≤ b) (hb1 : b ≤ 1) : CT l0 4 0 0 mX4_meanPart [kR (some 18), kI a, kI b] Ia Ja Ra Sa (cJ (fun x I' J' => Kp 18 31 Ia I' ∧ Kp 18 31 Ja J' ∧ FRk I' J' ∧ ∃ T, MTc (Ia 3) (Ia 1 7) (Ia 1 5) (Ia 1 6) T ∧ x = mPt (T a.toNat) (blw (Ia 3) (Ia 1 6) a.toNat) b) Ra Sa) :=
  CT_wJ (c8_X4_meanPart l0 hL hI hF hK ha0 ha1 hb0 hb1) (fun x I' J' h => ⟨Kp_wd h.1 (by decide) (by decide), Kp_wd h.2.1 (by decide) (by decide), h.2.2.1, h.2.2.2⟩)
theorem n8_X4_choose (l0 : Launch) {Ia Ja : aI1} {Ra : aR1} {Sa : aS1} (hL : LY Ra Sa) (hI : XI Ia) (hF : FRk Ia Ja) {a w m : Int} (ha0 : 0 ≤ a) (ha1 : a ≤ FU (Ia 1 5)) (hw0 : 0 ≤ w) (hw1 : w < 8) (hm0 : 0 ≤ m) (hm1 : m ≤ 3) (hTR : ∀ t : Nat, (t : Int) ≤ FU (Ia 1 5) → TR m Ia Ja t)  : CT l0 3 0 0 mX4_choose [kR (some 18), kI a, kI w, kI m] Ia Ja Ra Sa (cI (fun x I' J' => Kp 18 31 Ia I' ∧ Kp 18 31 Ja J' ∧ FRk I' J' ∧ (x = NX (bC m (Ia 19) (Ia 24) (Ja 28)) (Ia 3) (Ia 1 7) a (FU (Ia 1 5) + 1) w ∧ Kp 21 22 Ia I' ∧ Ja = J')) Ra Sa) :=
  CT_wI (c8_X4_choose l0 hL hI ha0 ha1 hw0 hw1 hm0 hm1 hTR) (fun x I' J' h => ⟨Kp_wd h.1 (by decide) (by decide), h.2.1 ▸ Kp_rf, FRk_kp (a := 21) (b := 22) hF h.1 (h.2.1 ▸ Kp_rf) (by decide), h.2.2, h.1, h.2.1⟩)
theorem n8_X4_wouldLight (l0 : Launch) {Ia Ja : aI1} {Ra : aR1} {Sa : aS1} (hL : LY Ra Sa) (hI : XI Ia) (hF : FRk Ia Ja) {a b m : Int} (ha0 : -2147483648 ≤ a) (ha1 : a < 2147483648) (hb0 : -2147483648 ≤ b) (hb1 : b < 2147483648) (hm0 : 0 ≤ m) (hm1 : m ≤ 3) (hTR : ∀ t : Nat, (t : Int) ≤ FU (Ia 1 5) → TR m Ia Ja t)  : CT l0 4 0 0 mX4_wouldLight [kR (some 18), kI a, kI b, kI m] Ia Ja Ra Sa (cI (fun x I' J' => Kp 18 31 Ia I' ∧ Kp 18 31 Ja J' ∧ FRk I' J' ∧ (((x = 0 ∨ x = 1) ∧ (x = 1 ↔ (0 ≤ a ∧ a ≤ FU (Ia 1 5) ∧ 0 ≤ b ∧ b ≤ FU (Ia 1 5) ∧ ¬ Ia 3 b.toNat = -1 ∧ NX (bC m (Ia 19) (Ia 24) (Ja 28)) (Ia 3) (Ia 1 7) a (FU (Ia 1 5) + 1) (Ia 3 b.toNat) = b))) ∧ Kp 21 22 Ia I' ∧ Ja = J')) Ra Sa) :=
  CT_wI (c8_X4_wouldLight l0 hL hI ha0 ha1 hb0 hb1 hm0 hm1 hTR) (fun x I' J' h => ⟨Kp_wd h.1 (by decide) (by decide), h.2.1 ▸ Kp_rf, FRk_kp (a := 21) (b := 22) hF h.1 (h.2.1 ▸ Kp_rf) (by decide), h.2.2, h.1, h.2.1⟩)
theorem n8_X4_findFailing (l0 : Launch) {Ia Ja : aI1} {Ra : aR1} {Sa : aS1} (hL : LY Ra Sa) (hI : XI Ia) (hF : FRk Ia Ja) (hTR : ∀ t : Nat, (t : Int) ≤ FU (Ia 1 5) → TR 2 Ia Ja t) : CT l0 3 0 0 mX4_findFailing [kR (some 18)] Ia Ja Ra Sa (cI (fun x I' J' => Kp 18 31 Ia I' ∧ Kp 18 31 Ja J' ∧ FRk I' J' ∧ FLg (fun s x => NX (bC 2 (Ia 19) (Ia 24) (Ja 28)) (Ia 3) (Ia 1 7) s (FU (Ia 1 5) + 1) x) (Ia 24) (Ia 3) (Ia 1 6) (I' 20) x) Ra Sa) :=
  CT_wI (c8_X4_findFailing l0 hL hI hTR) (fun x I' J' h => ⟨Kp_wd h.1 (by decide) (by decide), h.2.1 ▸ Kp_rf, FRk_kp (a := 20) (b := 22) hF h.1 (h.2.1 ▸ Kp_rf) (by decide), h.2.2⟩)
theorem n8_X4_findSafe (l0 : Launch) {Ia Ja : aI1} {Ra : aR1} {Sa : aS1} (hL : LY Ra Sa) (hI : XI Ia) (hF : FRk Ia Ja)  : CT l0 3 0 0 mX4_findSafe [kR (some 18)] Ia Ja Ra Sa (cI (fun x I' J' => Kp 18 31 Ia I' ∧ Kp 18 31 Ja J' ∧ FRk I' J' ∧ SFE (Ia 3) (Ia 1 7) (FU (Ia 1 5) + 1) x) Ra Sa) :=
  CT_wI (c8_X4_findSafe l0 hL hI) (fun x I' J' h => ⟨Kp_wd h.1 (by decide) (by decide), Kp_wd h.2.1 (by decide) (by decide), FRk_kp hF h.1 h.2.1 (by decide), h.2.2⟩)
set_option maxHeartbeats 4000000 in
set_option maxRecDepth 20000 in
theorem c8_X4_forgetTables (l0 : Launch) {Ia Ja : aI1} {Ra : aR1} {Sa : aS1} (hL : LY Ra Sa)  : CT l0 0 0 0 mX4_forgetTables [kR (some 18)] Ia Ja Ra Sa (cV (fun I' J' => Kp 18 31 Ia I' ∧ Kp 18 31 Ja J' ∧ FRk I' J') Ra Sa) := by
  refine ct_in pn_X4 (Nat.le_of_ble_eq_true rfl) (fun X hX hT hIn => ?_)
  have hX : aK l0 X cX4_forgetTables 1 RX4 none 0 0 0 := hX
  change WW X 0 [some (kR (some 18))] [] Ia Ja Ra Sa 0 0
  refine ww_aload_n hX (pc := 0) dX4_forgetTables_0 rfl ?_
  refine ww_iconst hX (pc := 1) (x := 0) dX4_forgetTables_1 rfl ?_
  refine ww_putZ hX (pc := 2) (fun h9 => absurd h9 (by decide)) gX4_51 rfl (by decide) (xs_18 hL) dX4_forgetTables_2 ?_
  refine ww_nmH (fun I_2 eI_2 => ?_)
  have kI_2 : Kp 18 31 Ia I_2 := by rw [eI_2]; exact Kp_up (Kp_rf (a := 18) (b := 31)) _ _ (by decide)
  refine ww_aload_n hX (pc := 5) dX4_forgetTables_5 rfl ?_
  refine ww_iconst hX (pc := 6) (x := 0) dX4_forgetTables_6 rfl ?_
  refine ww_putZ hX (pc := 7) (fun h9 => absurd h9 (by decide)) gX4_55 rfl (by decide) (xs_18 hL) dX4_forgetTables_7 ?_
  refine ww_nmH (fun I_7 eI_7 => ?_)
  have kI_7 : Kp 18 31 Ia I_7 := by rw [eI_7]; exact Kp_up kI_2 _ _ (by decide)
  refine ww_aload_n hX (pc := 10) dX4_forgetTables_10 rfl ?_
  refine ww_iconst hX (pc := 11) (x := 0) dX4_forgetTables_11 rfl ?_
  refine ww_putZ hX (pc := 12) (fun h9 => absurd h9 (by decide)) gX4_58 rfl (by decide) (xs_18 hL) dX4_forgetTables_12 ?_
  refine ww_nmH (fun I_12 eI_12 => ?_)
  have kI_12 : Kp 18 31 Ia I_12 := by rw [eI_12]; exact Kp_up kI_7 _ _ (by decide)
  refine rV hX (pc := 15) hT (Nat.le_refl 0) (Nat.le_refl 0) dX4_forgetTables_15 ?_
  exact ⟨kI_12, (Kp_rf (a := 18) (b := 31)), FRk_0 (by rw [eI_12, up2_n _ _ (Or.inr (by decide)), eI_7, up2_n _ _ (Or.inr (by decide)), eI_2, up2_s]) (by rw [eI_12, up2_n _ _ (Or.inr (by decide)), eI_7, up2_s]) (by rw [eI_12, up2_s])⟩
set_option maxHeartbeats 4000000 in
set_option maxRecDepth 20000 in
theorem c8_X10_accept (l0 : Launch) {Ia Ja : aI1} {Ra : aR1} {Sa : aS1} (hL : LY Ra Sa) (hC : CX Ia) (hF : FRk Ia Ja) {a : Int}   : CT l0 0 0 0 mX10_accept [kR (some 0), kI a] Ia Ja Ra Sa (cI (fun x I' J' => (Kp 0 49 Ia I' ∧ Kp 0 49 Ja J' ∧ CX I' ∧ Fw [] [(0, 16)] Ia I' ∧ x = a ∧ I' 0 16 = 0) ∧ FRk I' J') Ra Sa) := by
  refine ct_in pn_X10 (Nat.le_of_ble_eq_true rfl) (fun X hX hT hIn => ?_)
  have hX : aK l0 X cX10_accept 2 RX10 (some .int) 0 0 0 := hX
  change WW X 0 [some (kR (some 0)), some (kI a)] [] Ia Ja Ra Sa 0 0
  have hI := hC.1
  have hq := XI_o hI
  refine ww_aload_n hX (pc := 0) dX10_accept_0 rfl ?_
  refine ww_iconst hX (pc := 1) (x := 0) dX10_accept_1 rfl ?_
  refine ww_putI hX (pc := 2) (fun h9 => absurd h9 (by decide)) gX10_304 rfl (xs_0 hL) dX10_accept_2 ?_
  refine ww_nmH (fun I_2 eI_2 => ?_)
  have kI_2 : Kp 0 49 Ia I_2 := by rw [eI_2]; exact Kp_up (Kp_rf (a := 0) (b := 49)) _ _ (by decide)
  have cI_2 : CX I_2 := by rw [eI_2]; exact CX_x hC (XI_0 hC.1 (by decide)) (by decide)
  have qI_2 := XI_o cI_2.1
  have r5_I_2 : I_2 1 5 = Ia 1 5 := by rw [eI_2, up2_off _ _ _ (by decide)]
  have r6_I_2 : I_2 1 6 = Ia 1 6 := by rw [eI_2, up2_off _ _ _ (by decide)]
  have r8_I_2 : I_2 1 8 = Ia 1 8 := by rw [eI_2, up2_off _ _ _ (by decide)]
  have r9_I_2 : I_2 1 9 = Ia 1 9 := by rw [eI_2, up2_off _ _ _ (by decide)]
  have r10_I_2 : I_2 1 10 = Ia 1 10 := by rw [eI_2, up2_off _ _ _ (by decide)]
  have r11_I_2 : I_2 1 11 = Ia 1 11 := by rw [eI_2, up2_off _ _ _ (by decide)]
  have rf_I_2 : FU (I_2 1 5) = FU (Ia 1 5) := by rw [r5_I_2]
  have wI_2 : Fw [] [(0, 16)] Ia I_2 := by rw [eI_2]; exact Fw_up Fw_rf (Or.inr (by decide))
  have r7_I_2 : I_2 1 7 = Ia 1 7 := by rw [eI_2, up2_n _ _ (Or.inl (by decide))]
  have z16 : I_2 0 16 = 0 := by rw [eI_2, up2_s]
  have frI_2 : FRk I_2 Ja := by rw [eI_2]; exact FRk_up hF (by decide)
  refine ww_iload_n hX (pc := 5) dX10_accept_5 rfl ?_
  refine rI hX (pc := 6) hT (Nat.le_refl 0) (Nat.le_refl 0) dX10_accept_6 ?_
  exact ⟨⟨kI_2, (Kp_rf (a := 0) (b := 49)), cI_2, (Fw_wd wI_2 (by decide) (by decide)), rfl, z16⟩, frI_2⟩
set_option maxHeartbeats 4000000 in
set_option maxRecDepth 20000 in
theorem c8_X10_refuse (l0 : Launch) {Ia Ja : aI1} {Ra : aR1} {Sa : aS1} (hL : LY Ra Sa) (hC : CX Ia) (hF : FRk Ia Ja) {a : Int} (ha0 : -6 ≤ a) (ha1 : a ≤ -1)  : CT l0 0 0 0 mX10_refuse [kR (some 0), kI a] Ia Ja Ra Sa (cI (fun x I' J' => (Kp 0 49 Ia I' ∧ Kp 0 49 Ja J' ∧ CX I' ∧ Fw [48] [(0, 16)] Ia I' ∧ x = a ∧ I' 0 16 = a ∧ I' 48 = up1 (Ia 48) (-a).toNat (Ia 48 (-a).toNat + 1)) ∧ FRk I' J') Ra Sa) := by
  refine ct_in pn_X10 (Nat.le_of_ble_eq_true rfl) (fun X hX hT hIn => ?_)
  have hX : aK l0 X cX10_refuse 2 RX10 (some .int) 0 0 0 := hX
  change WW X 0 [some (kR (some 0)), some (kI a)] [] Ia Ja Ra Sa 0 0
  have hI := hC.1
  have hq := XI_o hI
  refine ww_aload_n hX (pc := 0) dX10_refuse_0 rfl ?_
  refine ww_iload_n hX (pc := 1) dX10_refuse_1 rfl ?_
  refine ww_putI hX (pc := 2) (fun h9 => absurd h9 (by decide)) gX10_304 rfl (xs_0 hL) dX10_refuse_2 ?_
  refine ww_nmH (fun I_2 eI_2 => ?_)
  have kI_2 : Kp 0 49 Ia I_2 := by rw [eI_2]; exact Kp_up (Kp_rf (a := 0) (b := 49)) _ _ (by decide)
  have cI_2 : CX I_2 := by rw [eI_2]; exact CX_x hC (XI_0 hC.1 (by decide)) (by decide)
  have qI_2 := XI_o cI_2.1
  have r5_I_2 : I_2 1 5 = Ia 1 5 := by rw [eI_2, up2_off _ _ _ (by decide)]
  have r6_I_2 : I_2 1 6 = Ia 1 6 := by rw [eI_2, up2_off _ _ _ (by decide)]
  have r8_I_2 : I_2 1 8 = Ia 1 8 := by rw [eI_2, up2_off _ _ _ (by decide)]
  have r9_I_2 : I_2 1 9 = Ia 1 9 := by rw [eI_2, up2_off _ _ _ (by decide)]
  have r10_I_2 : I_2 1 10 = Ia 1 10 := by rw [eI_2, up2_off _ _ _ (by decide)]
  have r11_I_2 : I_2 1 11 = Ia 1 11 := by rw [eI_2, up2_off _ _ _ (by decide)]
  have rf_I_2 : FU (I_2 1 5) = FU (Ia 1 5) := by rw [r5_I_2]
  have wI_2 : Fw [48] [(0, 16)] Ia I_2 := by rw [eI_2]; exact Fw_up Fw_rf (Or.inr (by decide))
  have r7_I_2 : I_2 1 7 = Ia 1 7 := by rw [eI_2, up2_n _ _ (Or.inl (by decide))]
  have z2 : I_2 0 16 = a := by rw [eI_2, up2_s]
  have y2 : I_2 48 = Ia 48 := by rw [eI_2, up2_off _ _ _ (by decide)]
  have frI_2 : FRk I_2 Ja := by rw [eI_2]; exact FRk_up hF (by decide)
  refine ww_iload_n hX (pc := 5) dX10_refuse_5 rfl ?_
  refine ww_if_ge hX (pc := 6) (tgt := 30) dX10_refuse_6 (by decide) (fun h_6 => ?_) (fun h_6 => ?_)
  · simp only [w32_mod] at h_6
    exfalso
    omega
  · simp only [w32_mod] at h_6
    refine ww_iload_n hX (pc := 9) dX10_refuse_9 rfl ?_
    refine ww_ineg hX (pc := 10) dX10_refuse_10 ?_
    refine ww_aload_n hX (pc := 11) dX10_refuse_11 rfl ?_
    refine ww_getR hX (pc := 12) fX10_82 (by decide) (xs_0 hL) (xr_0_11 hL) dX10_refuse_12 ?_
    refine ww_alen hX (pc := 15) (by decide) (xs_48 hL) dX10_refuse_15 ?_
    refine ww_icmp_ge hX (pc := 16) (tgt := 30) dX10_refuse_16 (by decide) (fun h_16 => ?_) (fun h_16 => ?_)
    · simp only [w32_mod] at h_16
      exfalso
      omega
    · simp only [w32_mod] at h_16
      refine ww_aload_n hX (pc := 19) dX10_refuse_19 rfl ?_
      refine ww_getR hX (pc := 20) fX10_82 (by decide) (xs_0 hL) (xr_0_11 hL) dX10_refuse_20 ?_
      refine ww_iload_n hX (pc := 23) dX10_refuse_23 rfl ?_
      refine ww_ineg hX (pc := 24) dX10_refuse_24 ?_
      refine ww_dup2 hX (pc := 25) dX10_refuse_25 ?_
      refine ww_iald hX (pc := 26) (xs_48 hL) (by decide) (by omega) (by omega) dX10_refuse_26 ?_
      refine ww_iconst hX (pc := 27) (x := 1) dX10_refuse_27 rfl ?_
      refine ww_iadd hX (pc := 28) dX10_refuse_28 ?_
      refine ww_iast hX (pc := 29) (xs_48 hL) (by decide) (by omega) (by omega) dX10_refuse_29 ?_
      refine ww_nmH (fun I_29 eI_29 => ?_)
      have kI_29 : Kp 0 49 Ia I_29 := by rw [eI_29]; exact Kp_up kI_2 _ _ (by decide)
      have cI_29 : CX I_29 := by rw [eI_29]; exact CX_up cI_2 (by decide)
      have qI_29 := XI_o cI_29.1
      have r5_I_29 : I_29 1 5 = I_2 1 5 := by rw [eI_29, up2_off _ _ _ (by decide)]
      have r6_I_29 : I_29 1 6 = I_2 1 6 := by rw [eI_29, up2_off _ _ _ (by decide)]
      have r8_I_29 : I_29 1 8 = I_2 1 8 := by rw [eI_29, up2_off _ _ _ (by decide)]
      have r9_I_29 : I_29 1 9 = I_2 1 9 := by rw [eI_29, up2_off _ _ _ (by decide)]
      have r10_I_29 : I_29 1 10 = I_2 1 10 := by rw [eI_29, up2_off _ _ _ (by decide)]
      have r11_I_29 : I_29 1 11 = I_2 1 11 := by rw [eI_29, up2_off _ _ _ (by decide)]
      have rf_I_29 : FU (I_29 1 5) = FU (I_2 1 5) := by rw [r5_I_29]
      have wI_29 : Fw [48] [(0, 16)] Ia I_29 := by rw [eI_29]; exact Fw_up wI_2 (Or.inl (by decide))
      have r7_I_29 : I_29 1 7 = I_2 1 7 := by rw [eI_29, up2_n _ _ (Or.inl (by decide))]
      have z29 : I_29 0 16 = a := by rw [eI_29, up2_off _ _ _ (by decide)]; exact z2
      have y29 : I_29 48 = up1 (Ia 48) (-a).toNat (Ia 48 (-a).toNat + 1) := by rw [eI_29, up2_row, y2]
      have frI_29 : FRk I_29 Ja := by rw [eI_29]; exact FRk_up frI_2 (by decide)
      refine ww_iload_n hX (pc := 30) dX10_refuse_30 rfl ?_
      refine rI hX (pc := 31) hT (Nat.le_refl 0) (Nat.le_refl 0) dX10_refuse_31 ?_
      exact ⟨⟨kI_29, (Kp_rf (a := 0) (b := 49)), cI_29, (Fw_wd wI_29 (by decide) (by decide)), rfl, z29, y29⟩, frI_29⟩
set_option maxHeartbeats 4000000 in
set_option maxRecDepth 20000 in
theorem c8_X10_torn (l0 : Launch) {Ia Ja : aI1} {Ra : aR1} {Sa : aS1} (hL : LY Ra Sa) (hC : CX Ia) (hF : FRk Ia Ja)  : CT l0 10 0 0 mX10_torn [kR (some 0)] Ia Ja Ra Sa (cI (fun x I' J' => (Kp 0 49 Ia I' ∧ Kp 0 49 Ja J' ∧ CX I' ∧ Fw [] [] Ia I' ∧ x = Ia 0 15) ∧ FRk I' J') Ra Sa) := by
  refine ct_in pn_X10 (Nat.le_of_ble_eq_true rfl) (fun X hX hT hIn => ?_)
  have hX : aK l0 X cX10_torn 1 RX10 (some .int) 10 0 0 := hX
  change WW X 0 [some (kR (some 0))] [] Ia Ja Ra Sa 0 0
  have hI := hC.1
  have hq := XI_o hI
  refine ww_aload_n hX (pc := 0) dX10_torn_0 rfl ?_
  refine ww_getI hX (pc := 1) fX10_164 (by decide) (xs_0 hL) dX10_torn_1 ?_
  refine rI hX (pc := 4) hT (Nat.le_refl 0) (Nat.le_refl 0) dX10_torn_4 ?_
  exact ⟨⟨(Kp_rf (a := 0) (b := 49)), (Kp_rf (a := 0) (b := 49)), hC, Fw_rf, rfl⟩, hF⟩
set_option maxHeartbeats 4000000 in
set_option maxRecDepth 20000 in
theorem c8_X10_dawn (l0 : Launch) {Ia Ja : aI1} {Ra : aR1} {Sa : aS1} (hL : LY Ra Sa) (hC : CX Ia) (hF : FRk Ia Ja)  : CT l0 10 0 0 mX10_dawn [kR (some 0)] Ia Ja Ra Sa (cI (fun x I' J' => (Kp 0 49 Ia I' ∧ Kp 0 49 Ja J' ∧ CX I' ∧ Fw [] [(1, 8), (1, 10)] Ia I' ∧ x = bc (Ia 1 8) ∧ I' 1 8 = 0 ∧ I' 1 10 = 0) ∧ FRk I' J') Ra Sa) := by
  refine ct_in pn_X10 (Nat.le_of_ble_eq_true rfl) (fun X hX hT hIn => ?_)
  have hX : aK l0 X cX10_dawn 2 RX10 (some .int) 10 0 0 := hX
  change WW X 0 [some (kR (some 0)), none] [] Ia Ja Ra Sa 0 0
  have hI := hC.1
  have hq := XI_o hI
  refine ww_aload_n hX (pc := 0) dX10_dawn_0 rfl ?_
  refine ww_getR hX (pc := 1) fX10_10 (by decide) (xs_0 hL) (xr_0_0 hL) dX10_dawn_1 ?_
  refine ww_getI hX (pc := 4) fX10_236 (by decide) (xs_1 hL) dX10_dawn_4 ?_
  refine sI1 hX (pc := 7) sX10_242 (c_J6_bitCount_0f7a4 l0) (by decide) (Nat.le_refl 0) (Nat.le_refl 0) (Nat.le_of_ble_eq_true rfl) dX10_dawn_7 (fun x_7 I_7 J_7 h_7 => ?_)
  obtain ⟨rfl, rfl, h_7⟩ := h_7
  refine ww_istore_n hX (pc := 10) (lv' := [some (kR (some 0)), some (kI x_7)]) dX10_dawn_10 (by decide) rfl rfl ?_
  refine ww_aload_n hX (pc := 11) dX10_dawn_11 rfl ?_
  refine ww_getR hX (pc := 12) fX10_10 (by decide) (xs_0 hL) (xr_0_0 hL) dX10_dawn_12 ?_
  refine ww_iconst hX (pc := 15) (x := 0) dX10_dawn_15 rfl ?_
  refine ww_putI hX (pc := 16) (fun h9 => absurd h9 (by decide)) gX10_236 rfl (xs_1 hL) dX10_dawn_16 ?_
  refine ww_nmH (fun I_16 eI_16 => ?_)
  have kI_16 : Kp 0 49 Ia I_16 := by rw [eI_16]; exact Kp_up (Kp_rf (a := 0) (b := 49)) _ _ (by decide)
  have cI_16 : CX I_16 := by rw [eI_16]; exact CX_x hC (XI_1_8 hC.1 (by omega) (by omega)) (by decide)
  have qI_16 := XI_o cI_16.1
  have r5_I_16 : I_16 1 5 = Ia 1 5 := by rw [eI_16, up2_n _ _ (Or.inr (by decide))]
  have r6_I_16 : I_16 1 6 = Ia 1 6 := by rw [eI_16, up2_n _ _ (Or.inr (by decide))]
  skip
  have r9_I_16 : I_16 1 9 = Ia 1 9 := by rw [eI_16, up2_n _ _ (Or.inr (by decide))]
  have r10_I_16 : I_16 1 10 = Ia 1 10 := by rw [eI_16, up2_n _ _ (Or.inr (by decide))]
  have r11_I_16 : I_16 1 11 = Ia 1 11 := by rw [eI_16, up2_n _ _ (Or.inr (by decide))]
  have rf_I_16 : FU (I_16 1 5) = FU (Ia 1 5) := by rw [r5_I_16]
  have wI_16 : Fw [] [(1, 8), (1, 10)] Ia I_16 := by rw [eI_16]; exact Fw_up Fw_rf (Or.inr (by decide))
  have r7_I_16 : I_16 1 7 = Ia 1 7 := by rw [eI_16, up2_n _ _ (Or.inr (by decide))]
  have z8_ : I_16 1 8 = 0 := by rw [eI_16, up2_s]
  have frI_16 : FRk I_16 Ja := by rw [eI_16]; exact FRk_u1 hF (by decide)
  refine ww_aload_n hX (pc := 19) dX10_dawn_19 rfl ?_
  refine ww_getR hX (pc := 20) fX10_10 (by decide) (xs_0 hL) (xr_0_0 hL) dX10_dawn_20 ?_
  refine ww_iconst hX (pc := 23) (x := 0) dX10_dawn_23 rfl ?_
  refine ww_putI hX (pc := 24) (fun h9 => absurd h9 (by decide)) gX10_239 rfl (xs_1 hL) dX10_dawn_24 ?_
  refine ww_nmH (fun I_24 eI_24 => ?_)
  have kI_24 : Kp 0 49 Ia I_24 := by rw [eI_24]; exact Kp_up kI_16 _ _ (by decide)
  have cI_24 : CX I_24 := by rw [eI_24]; exact CX_x cI_16 (XI_1_10 cI_16.1 (by omega) (by omega)) (by decide)
  have qI_24 := XI_o cI_24.1
  have r5_I_24 : I_24 1 5 = I_16 1 5 := by rw [eI_24, up2_n _ _ (Or.inr (by decide))]
  have r6_I_24 : I_24 1 6 = I_16 1 6 := by rw [eI_24, up2_n _ _ (Or.inr (by decide))]
  have r8_I_24 : I_24 1 8 = I_16 1 8 := by rw [eI_24, up2_n _ _ (Or.inr (by decide))]
  have r9_I_24 : I_24 1 9 = I_16 1 9 := by rw [eI_24, up2_n _ _ (Or.inr (by decide))]
  skip
  have r11_I_24 : I_24 1 11 = I_16 1 11 := by rw [eI_24, up2_n _ _ (Or.inr (by decide))]
  have rf_I_24 : FU (I_24 1 5) = FU (I_16 1 5) := by rw [r5_I_24]
  have wI_24 : Fw [] [(1, 8), (1, 10)] Ia I_24 := by rw [eI_24]; exact Fw_up wI_16 (Or.inr (by decide))
  have r7_I_24 : I_24 1 7 = I_16 1 7 := by rw [eI_24, up2_n _ _ (Or.inr (by decide))]
  have z10 : I_24 1 10 = 0 := by rw [eI_24, up2_s]
  have z8 : I_24 1 8 = 0 := by rw [eI_24, up2_n _ _ (Or.inr (by decide))]; exact z8_
  have frI_24 : FRk I_24 Ja := by rw [eI_24]; exact FRk_u1 frI_16 (by decide)
  refine ww_iload_n hX (pc := 27) dX10_dawn_27 rfl ?_
  refine rI hX (pc := 28) hT (Nat.le_refl 0) (Nat.le_refl 0) dX10_dawn_28 ?_
  exact ⟨⟨kI_24, (Kp_rf (a := 0) (b := 49)), cI_24, (Fw_wd wI_24 (by decide) (by decide)), h_7, z8, z10⟩, frI_24⟩
set_option maxHeartbeats 4000000 in
set_option maxRecDepth 20000 in
theorem c8_X10_spy (l0 : Launch) {Ia Ja : aI1} {Ra : aR1} {Sa : aS1} (hL : LY Ra Sa) (hC : CX Ia) (hF : FRk Ia Ja) {a : Int} (ha0 : -2147483648 ≤ a) (ha1 : a < 2147483648)  : CT l0 10 0 0 mX10_spy [kR (some 0), kI a] Ia Ja Ra Sa (cI (fun x I' J' => (Kp 0 49 Ia I' ∧ Kp 0 49 Ja J' ∧ CX I' ∧ Fw [] [] Ia I' ∧ True) ∧ FRk I' J') Ra Sa) := by
  refine ct_in pn_X10 (Nat.le_of_ble_eq_true rfl) (fun X hX hT hIn => ?_)
  have hX : aK l0 X cX10_spy 5 RX10 (some .int) 10 0 0 := hX
  change WW X 0 [some (kR (some 0)), some (kI a), none, none, none] [] Ia Ja Ra Sa 0 0
  have hI := hC.1
  have hq := XI_o hI
  refine ww_iload_n hX (pc := 0) dX10_spy_0 rfl ?_
  refine ww_if_lt hX (pc := 1) (tgt := 15) dX10_spy_1 (by decide) (fun h_1 => ?_) (fun h_1 => ?_)
  · simp only [w32_mod] at h_1
    refine ww_iconst hX (pc := 15) (x := (-1)) dX10_spy_15 rfl ?_
    refine rI hX (pc := 16) hT (Nat.le_refl 0) (Nat.le_refl 0) dX10_spy_16 ?_
    exact ⟨⟨(Kp_rf (a := 0) (b := 49)), (Kp_rf (a := 0) (b := 49)), hC, Fw_rf, trivial⟩, hF⟩
  · simp only [w32_mod] at h_1
    refine ww_iload_n hX (pc := 4) dX10_spy_4 rfl ?_
    refine ww_aload_n hX (pc := 5) dX10_spy_5 rfl ?_
    refine ww_getR hX (pc := 6) fX10_10 (by decide) (xs_0 hL) (xr_0_0 hL) dX10_spy_6 ?_
    refine ww_getI hX (pc := 9) fX10_93 (by decide) (xs_1 hL) dX10_spy_9 ?_
    refine ww_icmp_le hX (pc := 12) (tgt := 17) dX10_spy_12 (by decide) (fun h_12 => ?_) (fun h_12 => ?_)
    · simp only [w32_mod] at h_12
      refine ww_iconst hX (pc := 17) (x := 0) dX10_spy_17 rfl ?_
      refine ww_istore_n hX (pc := 18) (lv' := [some (kR (some 0)), some (kI a), some (kI 0), none, none]) dX10_spy_18 (by decide) rfl rfl ?_
      refine ww_aload_n hX (pc := 19) dX10_spy_19 rfl ?_
      refine ww_getR hX (pc := 20) fX10_10 (by decide) (xs_0 hL) (xr_0_0 hL) dX10_spy_20 ?_
      refine vI0 hX (pc := 23) sX10_151 (xs_1 hL) (c_X1_full l0 hL hC.1) (by decide) (Nat.le_refl 0) (Nat.le_refl 0) (Nat.le_of_ble_eq_true rfl) dX10_spy_23 (fun x_23 I_23 J_23 h_23 => ?_)
      obtain ⟨rfl, rfl, h_23⟩ := h_23
      refine ww_istore_n hX (pc := 26) (lv' := [some (kR (some 0)), some (kI a), some (kI 0), some (kI x_23), none]) dX10_spy_26 (by decide) rfl rfl ?_
      refine ww_iconst hX (pc := 27) (x := 0) dX10_spy_27 rfl ?_
      refine ww_istore hX (pc := 28) (lv' := [some (kR (some 0)), some (kI a), some (kI 0), some (kI x_23), some (kI 0)]) dX10_spy_28 (by decide) rfl rfl ?_
      have hl_30 : ∀ (n_30 : Nat) (g : Int) (i : Int), (256 - i).toNat = n_30 → (0 ≤ i ∧ i ≤ 256) → WW X 30 [some (kR (some 0)), some (kI a), some (kI g), some (kI x_23), some (kI i)] [] Ia Ja Ra Sa 0 0 := by
        intro n_30
        induction n_30 using Nat.strongRecOn with
        | ind n_30 ih_30 =>
          intro g i hm_30 hv_30
          have hq_30 := Sh0_i hm_30
          clear hm_30
          obtain ⟨hi0, hi1⟩ := hv_30
          refine ww_iload hX (pc := 30) dX10_spy_30 rfl ?_
          refine ww_iload_n hX (pc := 32) dX10_spy_32 rfl ?_
          refine ww_icmp_gt hX (pc := 33) (tgt := 63) dX10_spy_33 (by decide) (fun h_33 => ?_) (fun h_33 => ?_)
          · simp only [w32_mod] at h_33
            refine ww_iload_n hX (pc := 63) dX10_spy_63 rfl ?_
            refine rI hX (pc := 64) hT (Nat.le_refl 0) (Nat.le_refl 0) dX10_spy_64 ?_
            exact ⟨⟨(Kp_rf (a := 0) (b := 49)), (Kp_rf (a := 0) (b := 49)), hC, Fw_rf, trivial⟩, hF⟩
          · simp only [w32_mod] at h_33
            refine ww_iload hX (pc := 36) dX10_spy_36 rfl ?_
            refine sI1 hX (pc := 38) sX10_242 (c_J6_bitCount_0f7a4 l0) (by decide) (Nat.le_refl 0) (Nat.le_refl 0) (Nat.le_of_ble_eq_true rfl) dX10_spy_38 (fun x_38 I_38 J_38 h_38 => ?_)
            obtain ⟨rfl, rfl, h_38⟩ := h_38
            refine ww_iload_n hX (pc := 41) dX10_spy_41 rfl ?_
            refine ww_icmp_ne hX (pc := 42) (tgt := 57) dX10_spy_42 (by decide) (fun h_42 => ?_) (fun h_42 => ?_)
            · simp only [w32_mod] at h_42
              refine ww_iinc hX (pc := 57) (lv' := [some (kR (some 0)), some (kI a), some (kI g), some (kI x_23), some (kI (i + 1))]) dX10_spy_57 rfl (by decide) rfl rfl ?_
              refine ww_goto hX (pc := 60) (tgt := 30) dX10_spy_60 (by decide) ?_
              exact ih_30 _ (by have hm9 := Sh0_e hq_30; omega) g (i + 1) rfl ⟨by omega, by omega⟩
            · simp only [w32_mod] at h_42
              refine ww_iload_n hX (pc := 45) dX10_spy_45 rfl ?_
              refine ww_aload_n hX (pc := 46) dX10_spy_46 rfl ?_
              refine ww_getR hX (pc := 47) fX10_10 (by decide) (xs_0 hL) (xr_0_0 hL) dX10_spy_47 ?_
              refine ww_iload hX (pc := 50) dX10_spy_50 rfl ?_
              refine vI1 hX (pc := 52) sX10_269 (xs_1 hL) (c_X1_newsBit l0 hL hC.1 (by omega) (by omega)) (by decide) (Nat.le_refl 0) (Nat.le_refl 0) (Nat.le_of_ble_eq_true rfl) dX10_spy_52 (fun x_52 I_52 J_52 h_52 => ?_)
              obtain ⟨rfl, rfl, h_52⟩ := h_52
              refine ww_ior hX (pc := 55) dX10_spy_55 ?_
              refine ww_nmI (fun v_56 hv_56 => ?_)
              refine ww_istore_n hX (pc := 56) (lv' := [some (kR (some 0)), some (kI a), some (kI v_56), some (kI x_23), some (kI i)]) dX10_spy_56 (by decide) rfl rfl ?_
              refine ww_iinc hX (pc := 57) (lv' := [some (kR (some 0)), some (kI a), some (kI v_56), some (kI x_23), some (kI (i + 1))]) dX10_spy_57 rfl (by decide) rfl rfl ?_
              refine ww_goto hX (pc := 60) (tgt := 30) dX10_spy_60 (by decide) ?_
              exact ih_30 _ (by have hm9 := Sh0_e hq_30; omega) v_56 (i + 1) rfl ⟨by omega, by omega⟩
      exact hl_30 _ 0 0 rfl ⟨by omega, by omega⟩
    · simp only [w32_mod] at h_12
      refine ww_iconst hX (pc := 15) (x := (-1)) dX10_spy_15 rfl ?_
      refine rI hX (pc := 16) hT (Nat.le_refl 0) (Nat.le_refl 0) dX10_spy_16 ?_
      exact ⟨⟨(Kp_rf (a := 0) (b := 49)), (Kp_rf (a := 0) (b := 49)), hC, Fw_rf, trivial⟩, hF⟩
set_option maxHeartbeats 4000000 in
set_option maxRecDepth 20000 in
theorem c8_X10_end (l0 : Launch) {Ia Ja : aI1} {Ra : aR1} {Sa : aS1} (hL : LY Ra Sa) (hC : CX Ia) (hF : FRk Ia Ja) {a : Int} (ha0 : -2147483648 ≤ a) (ha1 : a < 2147483648)  : CT l0 10 0 0 mX10_end [kR (some 0), kI a] Ia Ja Ra Sa (cI (fun x I' J' => (Kp 0 49 Ia I' ∧ Kp 0 49 Ja J' ∧ CX I' ∧ Fw [] [(8, 1)] Ia I' ∧ ((0 ≤ a ∧ a ≤ Ia 8 1) → x = a ∧ I' 8 1 = a) ∧ (¬ (0 ≤ a ∧ a ≤ Ia 8 1) → x = -1 ∧ I' 8 1 = Ia 8 1)) ∧ FRk I' J') Ra Sa) := by
  refine ct_in pn_X10 (Nat.le_of_ble_eq_true rfl) (fun X hX hT hIn => ?_)
  have hX : aK l0 X cX10_end 2 RX10 (some .int) 10 0 0 := hX
  change WW X 0 [some (kR (some 0)), some (kI a)] [] Ia Ja Ra Sa 0 0
  have hI := hC.1
  have hq := XI_o hI
  refine ww_iload_n hX (pc := 0) dX10_end_0 rfl ?_
  refine ww_if_lt hX (pc := 1) (tgt := 15) dX10_end_1 (by decide) (fun h_1 => ?_) (fun h_1 => ?_)
  · simp only [w32_mod] at h_1
    refine ww_iconst hX (pc := 15) (x := (-1)) dX10_end_15 rfl ?_
    refine rI hX (pc := 16) hT (Nat.le_refl 0) (Nat.le_refl 0) dX10_end_16 ?_
    exact ⟨⟨(Kp_rf (a := 0) (b := 49)), (Kp_rf (a := 0) (b := 49)), hC, Fw_rf, by omega, by omega⟩, hF⟩
  · simp only [w32_mod] at h_1
    refine ww_iload_n hX (pc := 4) dX10_end_4 rfl ?_
    refine ww_aload_n hX (pc := 5) dX10_end_5 rfl ?_
    refine ww_getR hX (pc := 6) fX10_23 (by decide) (xs_0 hL) (xr_0_2 hL) dX10_end_6 ?_
    refine ww_getI hX (pc := 9) fX10_148 (by decide) (xs_8 hL) dX10_end_9 ?_
    refine ww_icmp_le hX (pc := 12) (tgt := 17) dX10_end_12 (by decide) (fun h_12 => ?_) (fun h_12 => ?_)
    · simp only [w32_mod] at h_12
      refine ww_aload_n hX (pc := 17) dX10_end_17 rfl ?_
      refine ww_getR hX (pc := 18) fX10_23 (by decide) (xs_0 hL) (xr_0_2 hL) dX10_end_18 ?_
      refine ww_iload_n hX (pc := 21) dX10_end_21 rfl ?_
      refine ww_putI hX (pc := 22) (fun h9 => absurd h9 (by decide)) gX10_148 rfl (xs_8 hL) dX10_end_22 ?_
      refine ww_nmH (fun I_22 eI_22 => ?_)
      have kI_22 : Kp 0 49 Ia I_22 := by rw [eI_22]; exact Kp_up (Kp_rf (a := 0) (b := 49)) _ _ (by decide)
      have cI_22 : CX I_22 := by rw [eI_22]; exact CX_x hC (XI_8_1 hC.1 (by omega) (by omega)) (by decide)
      have qI_22 := XI_o cI_22.1
      have r5_I_22 : I_22 1 5 = Ia 1 5 := by rw [eI_22, up2_off _ _ _ (by decide)]
      have r6_I_22 : I_22 1 6 = Ia 1 6 := by rw [eI_22, up2_off _ _ _ (by decide)]
      have r8_I_22 : I_22 1 8 = Ia 1 8 := by rw [eI_22, up2_off _ _ _ (by decide)]
      have r9_I_22 : I_22 1 9 = Ia 1 9 := by rw [eI_22, up2_off _ _ _ (by decide)]
      have r10_I_22 : I_22 1 10 = Ia 1 10 := by rw [eI_22, up2_off _ _ _ (by decide)]
      have r11_I_22 : I_22 1 11 = Ia 1 11 := by rw [eI_22, up2_off _ _ _ (by decide)]
      have rf_I_22 : FU (I_22 1 5) = FU (Ia 1 5) := by rw [r5_I_22]
      have wI_22 : Fw [] [(8, 1)] Ia I_22 := by rw [eI_22]; exact Fw_up Fw_rf (Or.inr (by decide))
      have r7_I_22 : I_22 1 7 = Ia 1 7 := by rw [eI_22, up2_n _ _ (Or.inl (by decide))]
      have z81 : I_22 8 1 = a := by rw [eI_22, up2_s]
      have frI_22 : FRk I_22 Ja := by rw [eI_22]; exact FRk_up hF (by decide)
      refine ww_iload_n hX (pc := 25) dX10_end_25 rfl ?_
      refine rI hX (pc := 26) hT (Nat.le_refl 0) (Nat.le_refl 0) dX10_end_26 ?_
      exact ⟨⟨kI_22, (Kp_rf (a := 0) (b := 49)), cI_22, (Fw_wd wI_22 (by decide) (by decide)), by omega, by omega⟩, frI_22⟩
    · simp only [w32_mod] at h_12
      refine ww_iconst hX (pc := 15) (x := (-1)) dX10_end_15 rfl ?_
      refine rI hX (pc := 16) hT (Nat.le_refl 0) (Nat.le_refl 0) dX10_end_16 ?_
      exact ⟨⟨(Kp_rf (a := 0) (b := 49)), (Kp_rf (a := 0) (b := 49)), hC, Fw_rf, by omega, by omega⟩, hF⟩
set_option maxHeartbeats 4000000 in
set_option maxRecDepth 20000 in
theorem c8_X10_feed (l0 : Launch) {Ia Ja : aI1} {Ra : aR1} {Sa : aS1} (hL : LY Ra Sa) (hC : CX Ia) (hF : FRk Ia Ja) {a b c e f : Int} (ha0 : -2147483648 ≤ a) (ha1 : a < 2147483648) (hb0 : -2147483648 ≤ b) (hb1 : b < 2147483648) (hc0 : -2147483648 ≤ c) (hc1 : c < 2147483648) (he0 : -2147483648 ≤ e) (he1 : e < 2147483648) (hf0 : -2147483648 ≤ f) (hf1 : f < 2147483648)  : CT l0 10 0 0 mX10_feed [kR (some 0), kI a, kI b, kI c, kI e, kI f] Ia Ja Ra Sa (cI (fun x I' J' => (Kp 0 49 Ia I' ∧ Kp 0 49 Ja J' ∧ CX I' ∧ Fw [8, 9] [] Ia I' ∧ (Ia 8 1 ≤ 380 → x = Ia 8 1 + 20 ∧ I' 8 1 = Ia 8 1 + 20 ∧ FDc (Ia 9) (I' 9) (Ia 8 1) a b c e f) ∧ (¬ Ia 8 1 ≤ 380 → x = -1 ∧ I' 8 1 = Ia 8 1 ∧ I' 9 = Ia 9)) ∧ FRk I' J') Ra Sa) := by
  refine ct_in pn_X10 (Nat.le_of_ble_eq_true rfl) (fun X hX hT hIn => ?_)
  have hX : aK l0 X cX10_feed 6 RX10 (some .int) 10 0 0 := hX
  change WW X 0 [some (kR (some 0)), some (kI a), some (kI b), some (kI c), some (kI e), some (kI f)] [] Ia Ja Ra Sa 0 0
  have hI := hC.1
  have hq := XI_o hI
  refine ww_aload_n hX (pc := 0) dX10_feed_0 rfl ?_
  refine ww_getR hX (pc := 1) fX10_23 (by decide) (xs_0 hL) (xr_0_2 hL) dX10_feed_1 ?_
  refine vI0 hX (pc := 4) sX10_140 (xs_8 hL) (c_X9_hasRoom l0 hL hC.1) (by decide) (Nat.le_refl 0) (Nat.le_refl 0) (Nat.le_of_ble_eq_true rfl) dX10_feed_4 (fun x_4 I_4 J_4 h_4 => ?_)
  obtain ⟨rfl, rfl, h_4⟩ := h_4
  refine ww_if_ne hX (pc := 7) (tgt := 12) dX10_feed_7 (by decide) (fun h_7 => ?_) (fun h_7 => ?_)
  · simp only [w32_mod] at h_7
    have k_4 := h_4.2.mp (by omega)
    clear h_4
    refine ww_aload_n hX (pc := 12) dX10_feed_12 rfl ?_
    refine ww_getR hX (pc := 13) fX10_23 (by decide) (xs_0 hL) (xr_0_2 hL) dX10_feed_13 ?_
    refine ww_iload_n hX (pc := 16) dX10_feed_16 rfl ?_
    refine vV1 hX (pc := 17) sX10_144 (xs_8 hL) (c5_X9_put l0 hL (by omega) (by omega) hC.1.2.2.2.2.2.2.2.2.2.2) (by decide) (Nat.le_refl 0) (Nat.le_refl 0) (Nat.le_of_ble_eq_true rfl) dX10_feed_17 (fun I_17 J_17 h_17 => ?_)
    have kI_17 : Kp 0 49 Ia I_17 := Kp_tr (Kp_rf (a := 0) (b := 49)) (Kp_wd h_17.1 (by decide) (by decide))
    have kJ_17 : Kp 0 49 Ja J_17 := Kp_tr (Kp_rf (a := 0) (b := 49)) (Kp_wd h_17.2.1 (by decide) (by decide))
    have l_17 := h_17.2.2.1
    have p_17 := h_17.2.2.2.2
    have cI_17 : CX I_17 := CX_put hC h_17.1 (by omega) (by omega) h_17.2.2.2.1
    have qI_17 := XI_o cI_17.1
    have r5_I_17 : I_17 1 5 = Ia 1 5 := by rw [h_17.1 1 (by decide)]
    have r6_I_17 : I_17 1 6 = Ia 1 6 := by rw [h_17.1 1 (by decide)]
    have r8_I_17 : I_17 1 8 = Ia 1 8 := by rw [h_17.1 1 (by decide)]
    have r9_I_17 : I_17 1 9 = Ia 1 9 := by rw [h_17.1 1 (by decide)]
    have r10_I_17 : I_17 1 10 = Ia 1 10 := by rw [h_17.1 1 (by decide)]
    have r11_I_17 : I_17 1 11 = Ia 1 11 := by rw [h_17.1 1 (by decide)]
    have rf_I_17 : FU (I_17 1 5) = FU (Ia 1 5) := by rw [r5_I_17]
    have wI_17 : Fw [8, 9] [] Ia I_17 := Fw_kp Fw_rf h_17.1 (by decide)
    have r7_I_17 : I_17 1 7 = Ia 1 7 := by rw [h_17.1 1 (by decide)]
    have frI_17 : FRk I_17 J_17 := FRk_kp hF h_17.1 h_17.2.1 (by decide)
    refine ww_aload_n hX (pc := 20) dX10_feed_20 rfl ?_
    refine ww_getR hX (pc := 21) fX10_23 (by decide) (xs_0 hL) (xr_0_2 hL) dX10_feed_21 ?_
    refine ww_iload_n hX (pc := 24) dX10_feed_24 rfl ?_
    refine vV1 hX (pc := 25) sX10_144 (xs_8 hL) (c5_X9_put l0 hL (by omega) (by omega) cI_17.1.2.2.2.2.2.2.2.2.2.2) (by decide) (Nat.le_refl 0) (Nat.le_refl 0) (Nat.le_of_ble_eq_true rfl) dX10_feed_25 (fun I_25 J_25 h_25 => ?_)
    have kI_25 : Kp 0 49 Ia I_25 := Kp_tr kI_17 (Kp_wd h_25.1 (by decide) (by decide))
    have kJ_25 : Kp 0 49 Ja J_25 := Kp_tr kJ_17 (Kp_wd h_25.2.1 (by decide) (by decide))
    have l_25 := h_25.2.2.1
    have p_25 := h_25.2.2.2.2
    have cI_25 : CX I_25 := CX_put cI_17 h_25.1 (by omega) (by omega) h_25.2.2.2.1
    have qI_25 := XI_o cI_25.1
    have r5_I_25 : I_25 1 5 = I_17 1 5 := by rw [h_25.1 1 (by decide)]
    have r6_I_25 : I_25 1 6 = I_17 1 6 := by rw [h_25.1 1 (by decide)]
    have r8_I_25 : I_25 1 8 = I_17 1 8 := by rw [h_25.1 1 (by decide)]
    have r9_I_25 : I_25 1 9 = I_17 1 9 := by rw [h_25.1 1 (by decide)]
    have r10_I_25 : I_25 1 10 = I_17 1 10 := by rw [h_25.1 1 (by decide)]
    have r11_I_25 : I_25 1 11 = I_17 1 11 := by rw [h_25.1 1 (by decide)]
    have rf_I_25 : FU (I_25 1 5) = FU (I_17 1 5) := by rw [r5_I_25]
    have wI_25 : Fw [8, 9] [] Ia I_25 := Fw_kp wI_17 h_25.1 (by decide)
    have r7_I_25 : I_25 1 7 = I_17 1 7 := by rw [h_25.1 1 (by decide)]
    have frI_25 : FRk I_25 J_25 := FRk_kp frI_17 h_25.1 h_25.2.1 (by decide)
    refine ww_aload_n hX (pc := 28) dX10_feed_28 rfl ?_
    refine ww_getR hX (pc := 29) fX10_23 (by decide) (xs_0 hL) (xr_0_2 hL) dX10_feed_29 ?_
    refine ww_iload_n hX (pc := 32) dX10_feed_32 rfl ?_
    refine vV1 hX (pc := 33) sX10_144 (xs_8 hL) (c5_X9_put l0 hL (by omega) (by omega) cI_25.1.2.2.2.2.2.2.2.2.2.2) (by decide) (Nat.le_refl 0) (Nat.le_refl 0) (Nat.le_of_ble_eq_true rfl) dX10_feed_33 (fun I_33 J_33 h_33 => ?_)
    have kI_33 : Kp 0 49 Ia I_33 := Kp_tr kI_25 (Kp_wd h_33.1 (by decide) (by decide))
    have kJ_33 : Kp 0 49 Ja J_33 := Kp_tr kJ_25 (Kp_wd h_33.2.1 (by decide) (by decide))
    have l_33 := h_33.2.2.1
    have p_33 := h_33.2.2.2.2
    have cI_33 : CX I_33 := CX_put cI_25 h_33.1 (by omega) (by omega) h_33.2.2.2.1
    have qI_33 := XI_o cI_33.1
    have r5_I_33 : I_33 1 5 = I_25 1 5 := by rw [h_33.1 1 (by decide)]
    have r6_I_33 : I_33 1 6 = I_25 1 6 := by rw [h_33.1 1 (by decide)]
    have r8_I_33 : I_33 1 8 = I_25 1 8 := by rw [h_33.1 1 (by decide)]
    have r9_I_33 : I_33 1 9 = I_25 1 9 := by rw [h_33.1 1 (by decide)]
    have r10_I_33 : I_33 1 10 = I_25 1 10 := by rw [h_33.1 1 (by decide)]
    have r11_I_33 : I_33 1 11 = I_25 1 11 := by rw [h_33.1 1 (by decide)]
    have rf_I_33 : FU (I_33 1 5) = FU (I_25 1 5) := by rw [r5_I_33]
    have wI_33 : Fw [8, 9] [] Ia I_33 := Fw_kp wI_25 h_33.1 (by decide)
    have r7_I_33 : I_33 1 7 = I_25 1 7 := by rw [h_33.1 1 (by decide)]
    have frI_33 : FRk I_33 J_33 := FRk_kp frI_25 h_33.1 h_33.2.1 (by decide)
    refine ww_aload_n hX (pc := 36) dX10_feed_36 rfl ?_
    refine ww_getR hX (pc := 37) fX10_23 (by decide) (xs_0 hL) (xr_0_2 hL) dX10_feed_37 ?_
    refine ww_iload hX (pc := 40) dX10_feed_40 rfl ?_
    refine vV1 hX (pc := 42) sX10_144 (xs_8 hL) (c5_X9_put l0 hL (by omega) (by omega) cI_33.1.2.2.2.2.2.2.2.2.2.2) (by decide) (Nat.le_refl 0) (Nat.le_refl 0) (Nat.le_of_ble_eq_true rfl) dX10_feed_42 (fun I_42 J_42 h_42 => ?_)
    have kI_42 : Kp 0 49 Ia I_42 := Kp_tr kI_33 (Kp_wd h_42.1 (by decide) (by decide))
    have kJ_42 : Kp 0 49 Ja J_42 := Kp_tr kJ_33 (Kp_wd h_42.2.1 (by decide) (by decide))
    have l_42 := h_42.2.2.1
    have p_42 := h_42.2.2.2.2
    have cI_42 : CX I_42 := CX_put cI_33 h_42.1 (by omega) (by omega) h_42.2.2.2.1
    have qI_42 := XI_o cI_42.1
    have r5_I_42 : I_42 1 5 = I_33 1 5 := by rw [h_42.1 1 (by decide)]
    have r6_I_42 : I_42 1 6 = I_33 1 6 := by rw [h_42.1 1 (by decide)]
    have r8_I_42 : I_42 1 8 = I_33 1 8 := by rw [h_42.1 1 (by decide)]
    have r9_I_42 : I_42 1 9 = I_33 1 9 := by rw [h_42.1 1 (by decide)]
    have r10_I_42 : I_42 1 10 = I_33 1 10 := by rw [h_42.1 1 (by decide)]
    have r11_I_42 : I_42 1 11 = I_33 1 11 := by rw [h_42.1 1 (by decide)]
    have rf_I_42 : FU (I_42 1 5) = FU (I_33 1 5) := by rw [r5_I_42]
    have wI_42 : Fw [8, 9] [] Ia I_42 := Fw_kp wI_33 h_42.1 (by decide)
    have r7_I_42 : I_42 1 7 = I_33 1 7 := by rw [h_42.1 1 (by decide)]
    have frI_42 : FRk I_42 J_42 := FRk_kp frI_33 h_42.1 h_42.2.1 (by decide)
    refine ww_aload_n hX (pc := 45) dX10_feed_45 rfl ?_
    refine ww_getR hX (pc := 46) fX10_23 (by decide) (xs_0 hL) (xr_0_2 hL) dX10_feed_46 ?_
    refine ww_iload hX (pc := 49) dX10_feed_49 rfl ?_
    refine vV1 hX (pc := 51) sX10_144 (xs_8 hL) (c5_X9_put l0 hL (by omega) (by omega) cI_42.1.2.2.2.2.2.2.2.2.2.2) (by decide) (Nat.le_refl 0) (Nat.le_refl 0) (Nat.le_of_ble_eq_true rfl) dX10_feed_51 (fun I_51 J_51 h_51 => ?_)
    have kI_51 : Kp 0 49 Ia I_51 := Kp_tr kI_42 (Kp_wd h_51.1 (by decide) (by decide))
    have kJ_51 : Kp 0 49 Ja J_51 := Kp_tr kJ_42 (Kp_wd h_51.2.1 (by decide) (by decide))
    have l_51 := h_51.2.2.1
    have p_51 := h_51.2.2.2.2
    have cI_51 : CX I_51 := CX_put cI_42 h_51.1 (by omega) (by omega) h_51.2.2.2.1
    have qI_51 := XI_o cI_51.1
    have r5_I_51 : I_51 1 5 = I_42 1 5 := by rw [h_51.1 1 (by decide)]
    have r6_I_51 : I_51 1 6 = I_42 1 6 := by rw [h_51.1 1 (by decide)]
    have r8_I_51 : I_51 1 8 = I_42 1 8 := by rw [h_51.1 1 (by decide)]
    have r9_I_51 : I_51 1 9 = I_42 1 9 := by rw [h_51.1 1 (by decide)]
    have r10_I_51 : I_51 1 10 = I_42 1 10 := by rw [h_51.1 1 (by decide)]
    have r11_I_51 : I_51 1 11 = I_42 1 11 := by rw [h_51.1 1 (by decide)]
    have rf_I_51 : FU (I_51 1 5) = FU (I_42 1 5) := by rw [r5_I_51]
    have wI_51 : Fw [8, 9] [] Ia I_51 := Fw_kp wI_42 h_51.1 (by decide)
    have r7_I_51 : I_51 1 7 = I_42 1 7 := by rw [h_51.1 1 (by decide)]
    have frI_51 : FRk I_51 J_51 := FRk_kp frI_42 h_51.1 h_51.2.1 (by decide)
    refine ww_aload_n hX (pc := 54) dX10_feed_54 rfl ?_
    refine ww_getR hX (pc := 55) fX10_23 (by decide) (xs_0 hL) (xr_0_2 hL) dX10_feed_55 ?_
    refine ww_getI hX (pc := 58) fX10_148 (by decide) (xs_8 hL) dX10_feed_58 ?_
    refine rI hX (pc := 61) hT (Nat.le_refl 0) (Nat.le_refl 0) dX10_feed_61 ?_
    exact ⟨⟨kI_51, kJ_51, cI_51, (Fw_wd wI_51 (by decide) (by decide)), (fun _ => ⟨by omega, by omega, FDc_of (by omega) p_17 (by rw [← l_17]; exact p_25) (by rw [← l_17, ← l_25]; exact p_33) (by rw [← l_17, ← l_25, ← l_33]; exact p_42) (by rw [← l_17, ← l_25, ← l_33, ← l_42]; exact p_51)⟩), (fun h9 => absurd (by omega) h9)⟩, frI_51⟩
  · simp only [w32_mod] at h_7
    refine ww_iconst hX (pc := 10) (x := (-1)) dX10_feed_10 rfl ?_
    refine rI hX (pc := 11) hT (Nat.le_refl 0) (Nat.le_refl 0) dX10_feed_11 ?_
    exact ⟨⟨(Kp_rf (a := 0) (b := 49)), (Kp_rf (a := 0) (b := 49)), hC, Fw_rf, (fun h9 => absurd h9 (by omega)), (fun _ => ⟨rfl, rfl, rfl⟩)⟩, hF⟩
set_option maxHeartbeats 4000000 in
set_option maxRecDepth 20000 in
theorem c8_X10_trail (l0 : Launch) {Ia Ja : aI1} {Ra : aR1} {Sa : aS1} (hL : LY Ra Sa) (hC : CX Ia) (hF : FRk Ia Ja)  : CT l0 10 0 0 mX10_trail [kR (some 0)] Ia Ja Ra Sa (cI (fun x I' J' => (Kp 0 49 Ia I' ∧ Kp 0 49 Ja J' ∧ CX I' ∧ Fw [46, 48] [(0, 12), (0, 16), (8, 1)] Ia I' ∧ (Ia 8 1 = 0 → x = -6 ∧ RFc Ia I' (-6)) ∧ (¬ Ia 8 1 = 0 → x = min (Ia 8 1) 30 ∧ Fw [46] [(0, 12), (0, 16), (8, 1)] Ia I' ∧ I' 0 16 = 0 ∧ I' 0 12 = min (Ia 8 1) 30 ∧ I' 8 1 = 0 ∧ (∀ j : Nat, (j : Int) < min (Ia 8 1) 30 → I' 46 j = Ia 9 j))) ∧ FRk I' J') Ra Sa) := by
  refine ct_in pn_X10 (Nat.le_of_ble_eq_true rfl) (fun X hX hT hIn => ?_)
  have hX : aK l0 X cX10_trail 2 RX10 (some .int) 10 0 0 := hX
  change WW X 0 [some (kR (some 0)), none] [] Ia Ja Ra Sa 0 0
  have hI := hC.1
  have hq := XI_o hI
  refine ww_aload_n hX (pc := 0) dX10_trail_0 rfl ?_
  refine ww_getR hX (pc := 1) fX10_23 (by decide) (xs_0 hL) (xr_0_2 hL) dX10_trail_1 ?_
  refine ww_getI hX (pc := 4) fX10_148 (by decide) (xs_8 hL) dX10_trail_4 ?_
  refine ww_if_ne hX (pc := 7) (tgt := 17) dX10_trail_7 (by decide) (fun h_7 => ?_) (fun h_7 => ?_)
  · simp only [w32_mod] at h_7
    refine ww_aload_n hX (pc := 17) dX10_trail_17 rfl ?_
    refine ww_aload_n hX (pc := 18) dX10_trail_18 rfl ?_
    refine ww_getR hX (pc := 19) fX10_23 (by decide) (xs_0 hL) (xr_0_2 hL) dX10_trail_19 ?_
    refine ww_getI hX (pc := 22) fX10_148 (by decide) (xs_8 hL) dX10_trail_22 ?_
    refine ww_bipush hX (pc := 25) (x := 30) dX10_trail_25 (by decide) ?_
    refine ww_mmin hX (pc := 27) tb_920 tb_579 tb_13 tb_580 (by decide) (Nat.le_refl 0) (Nat.le_refl 0) (Nat.le_of_ble_eq_true rfl) dX10_trail_27 ?_
    refine ww_toI (b := min (Ia 8 1) 30) (by rw [i_min_r (by omega) (by omega) (by omega) (by omega)]) ?_
    refine ww_putI hX (pc := 30) (fun h9 => absurd h9 (by decide)) gX10_256 rfl (xs_0 hL) dX10_trail_30 ?_
    refine ww_nmH (fun I_30 eI_30 => ?_)
    have kI_30 : Kp 0 49 Ia I_30 := by rw [eI_30]; exact Kp_up (Kp_rf (a := 0) (b := 49)) _ _ (by decide)
    have cI_30 : CX I_30 := by rw [eI_30]; exact CX_x hC (XI_0_12 hC.1 (by omega) (by omega)) (by decide)
    have qI_30 := XI_o cI_30.1
    have r5_I_30 : I_30 1 5 = Ia 1 5 := by rw [eI_30, up2_off _ _ _ (by decide)]
    have r6_I_30 : I_30 1 6 = Ia 1 6 := by rw [eI_30, up2_off _ _ _ (by decide)]
    have r8_I_30 : I_30 1 8 = Ia 1 8 := by rw [eI_30, up2_off _ _ _ (by decide)]
    have r9_I_30 : I_30 1 9 = Ia 1 9 := by rw [eI_30, up2_off _ _ _ (by decide)]
    have r10_I_30 : I_30 1 10 = Ia 1 10 := by rw [eI_30, up2_off _ _ _ (by decide)]
    have r11_I_30 : I_30 1 11 = Ia 1 11 := by rw [eI_30, up2_off _ _ _ (by decide)]
    have rf_I_30 : FU (I_30 1 5) = FU (Ia 1 5) := by rw [r5_I_30]
    have wI_30 : Fw [46] [(0, 12), (0, 16), (8, 1)] Ia I_30 := by rw [eI_30]; exact Fw_up Fw_rf (Or.inr (by decide))
    have r7_I_30 : I_30 1 7 = Ia 1 7 := by rw [eI_30, up2_n _ _ (Or.inl (by decide))]
    have y9_I_30 : I_30 9 = Ia 9 := by rw [eI_30, up2_off _ _ _ (by decide)]
    have y46_I_30 : I_30 46 = Ia 46 := by rw [eI_30, up2_off _ _ _ (by decide)]
    have z12 : I_30 0 12 = min (Ia 8 1) 30 := by rw [eI_30, up2_s]
    have q81 : I_30 8 1 = Ia 8 1 := by rw [eI_30, up2_off _ _ _ (by decide)]
    have frI_30 : FRk I_30 Ja := by rw [eI_30]; exact FRk_up hF (by decide)
    refine ww_iconst hX (pc := 33) (x := 0) dX10_trail_33 rfl ?_
    refine ww_istore_n hX (pc := 34) (lv' := [some (kR (some 0)), some (kI 0)]) dX10_trail_34 (by decide) rfl rfl ?_
    have hl_35 : ∀ (n_35 : Nat) (i : Int) (I2 : aI1) (J2 : aI1), (30 - i).toNat = n_35 → (Kp 0 49 Ia I2 ∧ Kp 0 49 Ja J2 ∧ CX I2 ∧ FRk I2 J2 ∧ Fw [46] [(0, 12), (0, 16), (8, 1)] Ia I2 ∧ (I2 1 5 = I_30 1 5 ∧ I2 1 6 = I_30 1 6) ∧ ((0 ≤ i ∧ i ≤ min (Ia 8 1) 30 ∧ I2 0 12 = min (Ia 8 1) 30 ∧ I2 8 1 = Ia 8 1) ∧ I2 9 = Ia 9 ∧ (∀ j : Nat, (j : Int) < i → I2 46 j = Ia 9 j))) → WW X 35 [some (kR (some 0)), some (kI i)] [] I2 J2 Ra Sa 0 0 := by
      intro n_35
      induction n_35 using Nat.strongRecOn with
      | ind n_35 ih_35 =>
        intro i I2 J2 hm_35 hv_35
        have hq_35 := Sh0_i hm_35
        clear hm_35
        obtain ⟨kI2, kJ2, cI2, frI2, wI2, hI20, ⟨hi, i2_9, h46⟩⟩ := hv_35
        have qI2 := XI_o cI2.1
        have rfI2 := congrArg FU hI20.1
        refine ww_iload_n hX (pc := 35) dX10_trail_35 rfl ?_
        refine ww_aload_n hX (pc := 36) dX10_trail_36 rfl ?_
        refine ww_getI hX (pc := 37) fX10_256 (by decide) (xs_0 hL) dX10_trail_37 ?_
        refine ww_icmp_ge hX (pc := 40) (tgt := 63) dX10_trail_40 (by decide) (fun h_40 => ?_) (fun h_40 => ?_)
        · simp only [w32_mod] at h_40
          refine ww_aload_n hX (pc := 63) dX10_trail_63 rfl ?_
          refine ww_getR hX (pc := 64) fX10_23 (by decide) (xs_0 hL) (xr_0_2 hL) dX10_trail_64 ?_
          refine ww_iconst hX (pc := 67) (x := 0) dX10_trail_67 rfl ?_
          refine ww_putI hX (pc := 68) (fun h9 => absurd h9 (by decide)) gX10_148 rfl (xs_8 hL) dX10_trail_68 ?_
          refine ww_nmH (fun I_68 eI_68 => ?_)
          have kI_68 : Kp 0 49 Ia I_68 := by rw [eI_68]; exact Kp_up kI2 _ _ (by decide)
          have cI_68 : CX I_68 := by rw [eI_68]; exact CX_x cI2 (XI_8_1 cI2.1 (by omega) (by omega)) (by decide)
          have qI_68 := XI_o cI_68.1
          have r5_I_68 : I_68 1 5 = I2 1 5 := by rw [eI_68, up2_off _ _ _ (by decide)]
          have r6_I_68 : I_68 1 6 = I2 1 6 := by rw [eI_68, up2_off _ _ _ (by decide)]
          have r8_I_68 : I_68 1 8 = I2 1 8 := by rw [eI_68, up2_off _ _ _ (by decide)]
          have r9_I_68 : I_68 1 9 = I2 1 9 := by rw [eI_68, up2_off _ _ _ (by decide)]
          have r10_I_68 : I_68 1 10 = I2 1 10 := by rw [eI_68, up2_off _ _ _ (by decide)]
          have r11_I_68 : I_68 1 11 = I2 1 11 := by rw [eI_68, up2_off _ _ _ (by decide)]
          have rf_I_68 : FU (I_68 1 5) = FU (I2 1 5) := by rw [r5_I_68]
          have wI_68 : Fw [46] [(0, 12), (0, 16), (8, 1)] Ia I_68 := by rw [eI_68]; exact Fw_up wI2 (Or.inr (by decide))
          have r7_I_68 : I_68 1 7 = I2 1 7 := by rw [eI_68, up2_n _ _ (Or.inl (by decide))]
          have y9_I_68 : I_68 9 = I2 9 := by rw [eI_68, up2_off _ _ _ (by decide)]
          have y46_I_68 : I_68 46 = I2 46 := by rw [eI_68, up2_off _ _ _ (by decide)]
          have z12_ : I_68 0 12 = I2 0 12 := by rw [eI_68, up2_off _ _ _ (by decide)]
          have z81 : I_68 8 1 = 0 := by rw [eI_68, up2_s]
          have frI_68 : FRk I_68 J2 := by rw [eI_68]; exact FRk_up frI2 (by decide)
          refine ww_aload_n hX (pc := 71) dX10_trail_71 rfl ?_
          refine ww_aload_n hX (pc := 72) dX10_trail_72 rfl ?_
          refine ww_getI hX (pc := 73) fX10_256 (by decide) (xs_0 hL) dX10_trail_73 ?_
          refine vI1 hX (pc := 76) sX10_114 (xs_0 hL) (c8_X10_accept l0 hL cI_68 frI_68) (by decide) (Nat.le_refl 0) (Nat.le_refl 0) (Nat.le_of_ble_eq_true rfl) dX10_trail_76 (fun x_76 I_76 J_76 h_76 => ?_)
          obtain ⟨h_76, frI_76⟩ := h_76
          have kI_76 : Kp 0 49 Ia I_76 := Kp_tr kI_68 (Kp_wd h_76.1 (by decide) (by decide))
          have kJ_76 : Kp 0 49 Ja J_76 := Kp_tr kJ2 (Kp_wd h_76.2.1 (by decide) (by decide))
          have cI_76 : CX I_76 := h_76.2.2.1
          have qI_76 := XI_o cI_76.1
          have wI_76 : Fw [46] [(0, 12), (0, 16), (8, 1)] Ia I_76 := Fw_tr wI_68 (Fw_wd h_76.2.2.2.1 (by decide) (by decide))
          have r5_I_76 : I_76 1 5 = I_68 1 5 := h_76.2.2.2.1 1 5 (by decide) (by decide) (by decide)
          have r6_I_76 : I_76 1 6 = I_68 1 6 := h_76.2.2.2.1 1 6 (by decide) (by decide) (by decide)
          have r7_I_76 : I_76 1 7 = I_68 1 7 := h_76.2.2.2.1 1 7 (by decide) (by decide) (by decide)
          have r8_I_76 : I_76 1 8 = I_68 1 8 := h_76.2.2.2.1 1 8 (by decide) (by decide) (by decide)
          have r9_I_76 : I_76 1 9 = I_68 1 9 := h_76.2.2.2.1 1 9 (by decide) (by decide) (by decide)
          have r10_I_76 : I_76 1 10 = I_68 1 10 := h_76.2.2.2.1 1 10 (by decide) (by decide) (by decide)
          have r11_I_76 : I_76 1 11 = I_68 1 11 := h_76.2.2.2.1 1 11 (by decide) (by decide) (by decide)
          have r81_I_76 : I_76 8 1 = I_68 8 1 := h_76.2.2.2.1 8 1 (by decide) (by decide) (by decide)
          have rf_I_76 : FU (I_76 1 5) = FU (I_68 1 5) := by rw [r5_I_76]
          have y9_I_76 : I_76 9 = I_68 9 := Fw_row h_76.2.2.2.1 9 (by decide) (by decide) (by decide)
          have y46_I_76 : I_76 46 = I_68 46 := Fw_row h_76.2.2.2.1 46 (by decide) (by decide) (by decide)
          have xv_I_76 := h_76.2.2.2.2
          refine rI hX (pc := 79) hT (Nat.le_refl 0) (Nat.le_refl 0) dX10_trail_79 ?_
          exact ⟨⟨kI_76, kJ_76, cI_76, (Fw_wd wI_76 (by decide) (by decide)), (fun h9 => absurd h9 (by omega)), (fun _ => ⟨by omega, wI_76, xv_I_76.2, by rw [h_76.2.2.2.1 0 12 (by decide) (by decide) (by decide)]; omega, by omega, (fun j hj => by rw [y46_I_76, y46_I_68]; exact h46 j (by omega))⟩)⟩, frI_76⟩
        · simp only [w32_mod] at h_40
          refine ww_aload_n hX (pc := 43) dX10_trail_43 rfl ?_
          refine ww_getR hX (pc := 44) fX10_75 (by decide) (xs_0 hL) (xr_0_9 hL) dX10_trail_44 ?_
          refine ww_iload_n hX (pc := 47) dX10_trail_47 rfl ?_
          refine ww_aload_n hX (pc := 48) dX10_trail_48 rfl ?_
          refine ww_getR hX (pc := 49) fX10_23 (by decide) (xs_0 hL) (xr_0_2 hL) dX10_trail_49 ?_
          refine ww_iload_n hX (pc := 52) dX10_trail_52 rfl ?_
          refine vI1 hX (pc := 53) sX10_155 (xs_8 hL) (c_X9_byteAt l0 hL cI2.1 (by omega) (by omega)) (by decide) (Nat.le_refl 0) (Nat.le_refl 0) (Nat.le_of_ble_eq_true rfl) dX10_trail_53 (fun x_53 I_53 J_53 h_53 => ?_)
          obtain ⟨rfl, rfl, h_53⟩ := h_53
          refine ww_iast hX (pc := 56) (xs_46 hL) (by decide) (by omega) (by omega) dX10_trail_56 ?_
          refine ww_nmH (fun I_56 eI_56 => ?_)
          have kI_56 : Kp 0 49 Ia I_56 := by rw [eI_56]; exact Kp_up kI2 _ _ (by decide)
          have cI_56 : CX I_56 := by rw [eI_56]; exact CX_up cI2 (by decide)
          have qI_56 := XI_o cI_56.1
          have r5_I_56 : I_56 1 5 = I2 1 5 := by rw [eI_56, up2_off _ _ _ (by decide)]
          have r6_I_56 : I_56 1 6 = I2 1 6 := by rw [eI_56, up2_off _ _ _ (by decide)]
          have r8_I_56 : I_56 1 8 = I2 1 8 := by rw [eI_56, up2_off _ _ _ (by decide)]
          have r9_I_56 : I_56 1 9 = I2 1 9 := by rw [eI_56, up2_off _ _ _ (by decide)]
          have r10_I_56 : I_56 1 10 = I2 1 10 := by rw [eI_56, up2_off _ _ _ (by decide)]
          have r11_I_56 : I_56 1 11 = I2 1 11 := by rw [eI_56, up2_off _ _ _ (by decide)]
          have rf_I_56 : FU (I_56 1 5) = FU (I2 1 5) := by rw [r5_I_56]
          have wI_56 : Fw [46] [(0, 12), (0, 16), (8, 1)] Ia I_56 := by rw [eI_56]; exact Fw_up wI2 (Or.inl (by decide))
          have r7_I_56 : I_56 1 7 = I2 1 7 := by rw [eI_56, up2_n _ _ (Or.inl (by decide))]
          have y9_I_56 : I_56 9 = I2 9 := by rw [eI_56, up2_off _ _ _ (by decide)]
          have z12_ : I_56 0 12 = I2 0 12 := by rw [eI_56, up2_off _ _ _ (by decide)]
          have q81_ : I_56 8 1 = I2 8 1 := by rw [eI_56, up2_off _ _ _ (by decide)]
          have t46 : ∀ j : Nat, (j : Int) < i + 1 → I_56 46 j = Ia 9 j := fun j hj => by
            rw [eI_56, up2_row]
            by_cases e9 : j = i.toNat
            · rw [e9, up1_s, h_53.2.1 (by omega), i2_9]
            · rw [up1_n _ _ e9]; exact h46 j (by omega)
          have frI_56 : FRk I_56 J2 := by rw [eI_56]; exact FRk_up frI2 (by decide)
          refine ww_iinc hX (pc := 57) (lv' := [some (kR (some 0)), some (kI (i + 1))]) dX10_trail_57 rfl (by decide) rfl rfl ?_
          refine ww_goto hX (pc := 60) (tgt := 35) dX10_trail_60 (by decide) ?_
          exact ih_35 _ (by have hm9 := Sh0_e hq_35; omega) (i + 1) I_56 J2 rfl ⟨kI_56, kJ2, cI_56, frI_56, wI_56, ⟨by omega, by omega⟩, ⟨by omega, by rw [y9_I_56]; exact i2_9, t46⟩⟩
    exact hl_35 _ 0 I_30 Ja rfl ⟨kI_30, (Kp_rf (a := 0) (b := 49)), cI_30, frI_30, wI_30, ⟨by omega, by omega⟩, ⟨by omega, y9_I_30, fun j hj => absurd hj (by omega)⟩⟩
  · simp only [w32_mod] at h_7
    refine ww_aload_n hX (pc := 10) dX10_trail_10 rfl ?_
    refine ww_bipush hX (pc := 11) (x := (-6)) dX10_trail_11 (by decide) ?_
    refine vI1 hX (pc := 13) sX10_89 (xs_0 hL) (c8_X10_refuse l0 hL hC hF (by omega) (by omega)) (by decide) (Nat.le_refl 0) (Nat.le_refl 0) (Nat.le_of_ble_eq_true rfl) dX10_trail_13 (fun x_13 I_13 J_13 h_13 => ?_)
    obtain ⟨h_13, frI_13⟩ := h_13
    have kI_13 : Kp 0 49 Ia I_13 := Kp_tr (Kp_rf (a := 0) (b := 49)) (Kp_wd h_13.1 (by decide) (by decide))
    have kJ_13 : Kp 0 49 Ja J_13 := Kp_tr (Kp_rf (a := 0) (b := 49)) (Kp_wd h_13.2.1 (by decide) (by decide))
    have cI_13 : CX I_13 := h_13.2.2.1
    have qI_13 := XI_o cI_13.1
    have wI_13 : Fw [46, 48] [(0, 12), (0, 16), (8, 1)] Ia I_13 := Fw_tr Fw_rf (Fw_wd h_13.2.2.2.1 (by decide) (by decide))
    have r5_I_13 : I_13 1 5 = Ia 1 5 := h_13.2.2.2.1 1 5 (by decide) (by decide) (by decide)
    have r6_I_13 : I_13 1 6 = Ia 1 6 := h_13.2.2.2.1 1 6 (by decide) (by decide) (by decide)
    have r7_I_13 : I_13 1 7 = Ia 1 7 := h_13.2.2.2.1 1 7 (by decide) (by decide) (by decide)
    have r8_I_13 : I_13 1 8 = Ia 1 8 := h_13.2.2.2.1 1 8 (by decide) (by decide) (by decide)
    have r9_I_13 : I_13 1 9 = Ia 1 9 := h_13.2.2.2.1 1 9 (by decide) (by decide) (by decide)
    have r10_I_13 : I_13 1 10 = Ia 1 10 := h_13.2.2.2.1 1 10 (by decide) (by decide) (by decide)
    have r11_I_13 : I_13 1 11 = Ia 1 11 := h_13.2.2.2.1 1 11 (by decide) (by decide) (by decide)
    have r81_I_13 : I_13 8 1 = Ia 8 1 := h_13.2.2.2.1 8 1 (by decide) (by decide) (by decide)
    have rf_I_13 : FU (I_13 1 5) = FU (Ia 1 5) := by rw [r5_I_13]
    have y9_I_13 : I_13 9 = Ia 9 := Fw_row h_13.2.2.2.1 9 (by decide) (by decide) (by decide)
    have y46_I_13 : I_13 46 = Ia 46 := Fw_row h_13.2.2.2.1 46 (by decide) (by decide) (by decide)
    have xv_I_13 := h_13.2.2.2.2
    refine rI hX (pc := 16) hT (Nat.le_refl 0) (Nat.le_refl 0) dX10_trail_16 ?_
    exact ⟨⟨kI_13, kJ_13, cI_13, (Fw_wd wI_13 (by decide) (by decide)), (fun _ => ⟨xv_I_13.1, h_13.2.2.2.1, xv_I_13.2⟩), (fun h9 => absurd (by omega) h9)⟩, frI_13⟩
set_option maxHeartbeats 4000000 in
set_option maxRecDepth 20000 in
theorem c8_X10_of (l0 : Launch) {Ia Ja : aI1} {Ra : aR1} {Sa : aS1} (hL : LY Ra Sa) (hC : CX Ia) (hF : FRk Ia Ja) {a : Int} (ha0 : -2147483648 ≤ a) (ha1 : a < 2147483648)  : CT l0 10 0 0 mX10_of [kR (some 0), kI a] Ia Ja Ra Sa (cI (fun x I' J' => (Kp 0 49 Ia I' ∧ Kp 0 49 Ja J' ∧ CX I' ∧ Fw [] [] Ia I' ∧ ((0 ≤ a ∧ a ≤ FU (Ia 1 5)) → x = Ia 3 a.toNat) ∧ (¬ (0 ≤ a ∧ a ≤ FU (Ia 1 5)) → x = -1)) ∧ FRk I' J') Ra Sa) := by
  refine ct_in pn_X10 (Nat.le_of_ble_eq_true rfl) (fun X hX hT hIn => ?_)
  have hX : aK l0 X cX10_of 2 RX10 (some .int) 10 0 0 := hX
  change WW X 0 [some (kR (some 0)), some (kI a)] [] Ia Ja Ra Sa 0 0
  have hI := hC.1
  have hq := XI_o hI
  refine ww_aload_n hX (pc := 0) dX10_of_0 rfl ?_
  refine ww_getR hX (pc := 1) fX10_10 (by decide) (xs_0 hL) (xr_0_0 hL) dX10_of_1 ?_
  refine ww_iload_n hX (pc := 4) dX10_of_4 rfl ?_
  refine vI1 hX (pc := 5) sX10_131 (xs_1 hL) (c_X1_isState l0 hL hC.1 (by omega)) (by decide) (Nat.le_refl 0) (Nat.le_refl 0) (Nat.le_of_ble_eq_true rfl) dX10_of_5 (fun x_5 I_5 J_5 h_5 => ?_)
  obtain ⟨rfl, rfl, h_5⟩ := h_5
  refine ww_if_eq hX (pc := 8) (tgt := 23) dX10_of_8 (by decide) (fun h_8 => ?_) (fun h_8 => ?_)
  · simp only [w32_mod] at h_8
    refine ww_iconst hX (pc := 23) (x := (-1)) dX10_of_23 rfl ?_
    refine rI hX (pc := 24) hT (Nat.le_refl 0) (Nat.le_refl 0) dX10_of_24 ?_
    exact ⟨⟨(Kp_rf (a := 0) (b := 49)), (Kp_rf (a := 0) (b := 49)), hC, Fw_rf, by omega, by omega⟩, hF⟩
  · simp only [w32_mod] at h_8
    have k_5 := h_5.2.mp (by omega)
    clear h_5
    refine ww_aload_n hX (pc := 11) dX10_of_11 rfl ?_
    refine ww_getR hX (pc := 12) fX10_10 (by decide) (xs_0 hL) (xr_0_0 hL) dX10_of_12 ?_
    refine ww_getR hX (pc := 15) fX10_137 (by decide) (xs_1 hL) (xr_1_1 hL) dX10_of_15 ?_
    refine ww_iload_n hX (pc := 18) dX10_of_18 rfl ?_
    refine ww_iald hX (pc := 19) (xs_3 hL) (by decide) (by omega) (by omega) dX10_of_19 ?_
    refine ww_goto hX (pc := 20) (tgt := 24) dX10_of_20 (by decide) ?_
    refine rI hX (pc := 24) hT (Nat.le_refl 0) (Nat.le_refl 0) dX10_of_24 ?_
    exact ⟨⟨(Kp_rf (a := 0) (b := 49)), (Kp_rf (a := 0) (b := 49)), hC, Fw_rf, by omega, by omega⟩, hF⟩
set_option maxHeartbeats 4000000 in
set_option maxRecDepth 20000 in
theorem c8_X10_ways (l0 : Launch) {Ia Ja : aI1} {Ra : aR1} {Sa : aS1} (hL : LY Ra Sa) (hC : CX Ia) (hF : FRk Ia Ja) {a b : Int} (ha0 : -2147483648 ≤ a) (ha1 : a < 2147483648) (hb0 : -2147483648 ≤ b) (hb1 : b < 2147483648)  : CT l0 10 0 0 mX10_ways [kR (some 0), kI a, kI b] Ia Ja Ra Sa (cI (fun x I' J' => (Kp 0 49 Ia I' ∧ Kp 0 49 Ja J' ∧ CX I' ∧ Fw [] [] Ia I' ∧ ((0 ≤ a ∧ a ≤ FU (Ia 1 5) ∧ 0 ≤ b ∧ b < Ia 1 6) → x = fW (wyF (Ia 3) (Ia 1 7) a (FU (Ia 1 5) + 1) b) 0 (FU (Ia 1 5) + 1).toNat) ∧ (¬ (0 ≤ a ∧ a ≤ FU (Ia 1 5) ∧ 0 ≤ b ∧ b < Ia 1 6) → x = -1)) ∧ FRk I' J') Ra Sa) := by
  refine ct_in pn_X10 (Nat.le_of_ble_eq_true rfl) (fun X hX hT hIn => ?_)
  have hX : aK l0 X cX10_ways 3 RX10 (some .int) 10 0 0 := hX
  change WW X 0 [some (kR (some 0)), some (kI a), some (kI b)] [] Ia Ja Ra Sa 0 0
  have hI := hC.1
  have hq := XI_o hI
  refine ww_aload_n hX (pc := 0) dX10_ways_0 rfl ?_
  refine ww_getR hX (pc := 1) fX10_10 (by decide) (xs_0 hL) (xr_0_0 hL) dX10_ways_1 ?_
  refine ww_iload_n hX (pc := 4) dX10_ways_4 rfl ?_
  refine vI1 hX (pc := 5) sX10_131 (xs_1 hL) (c_X1_isState l0 hL hC.1 (by omega)) (by decide) (Nat.le_refl 0) (Nat.le_refl 0) (Nat.le_of_ble_eq_true rfl) dX10_ways_5 (fun x_5 I_5 J_5 h_5 => ?_)
  obtain ⟨rfl, rfl, h_5⟩ := h_5
  refine ww_if_eq hX (pc := 8) (tgt := 22) dX10_ways_8 (by decide) (fun h_8 => ?_) (fun h_8 => ?_)
  · simp only [w32_mod] at h_8
    refine ww_iconst hX (pc := 22) (x := (-1)) dX10_ways_22 rfl ?_
    refine rI hX (pc := 23) hT (Nat.le_refl 0) (Nat.le_refl 0) dX10_ways_23 ?_
    exact ⟨⟨(Kp_rf (a := 0) (b := 49)), (Kp_rf (a := 0) (b := 49)), hC, Fw_rf, (fun h9 => absurd h9 (by omega)), (fun _ => rfl)⟩, hF⟩
  · simp only [w32_mod] at h_8
    have k_5 := h_5.2.mp (by omega)
    clear h_5
    refine ww_aload_n hX (pc := 11) dX10_ways_11 rfl ?_
    refine ww_getR hX (pc := 12) fX10_10 (by decide) (xs_0 hL) (xr_0_0 hL) dX10_ways_12 ?_
    refine ww_iload_n hX (pc := 15) dX10_ways_15 rfl ?_
    refine vI1 hX (pc := 16) sX10_134 (xs_1 hL) (c_X1_isNews l0 hL hC.1 (by omega)) (by decide) (Nat.le_refl 0) (Nat.le_refl 0) (Nat.le_of_ble_eq_true rfl) dX10_ways_16 (fun x_16 I_16 J_16 h_16 => ?_)
    obtain ⟨rfl, rfl, h_16⟩ := h_16
    refine ww_if_ne hX (pc := 19) (tgt := 24) dX10_ways_19 (by decide) (fun h_19 => ?_) (fun h_19 => ?_)
    · simp only [w32_mod] at h_19
      have k_16 := h_16.2.mp (by omega)
      clear h_16
      refine ww_aload_n hX (pc := 24) dX10_ways_24 rfl ?_
      refine ww_getR hX (pc := 25) fX10_10 (by decide) (xs_0 hL) (xr_0_0 hL) dX10_ways_25 ?_
      refine ww_iload_n hX (pc := 28) dX10_ways_28 rfl ?_
      refine ww_iload_n hX (pc := 29) dX10_ways_29 rfl ?_
      refine vI2 hX (pc := 30) sX10_198 (xs_1 hL) (c7_X1_countWays l0 hL hC.1 (by omega) (by omega) (by omega) (by omega)) (by decide) (Nat.le_refl 0) (Nat.le_refl 0) (Nat.le_of_ble_eq_true rfl) dX10_ways_30 (fun x_30 I_30 J_30 h_30 => ?_)
      obtain ⟨rfl, rfl, h_30⟩ := h_30
      refine rI hX (pc := 33) hT (Nat.le_refl 0) (Nat.le_refl 0) dX10_ways_33 ?_
      exact ⟨⟨(Kp_rf (a := 0) (b := 49)), (Kp_rf (a := 0) (b := 49)), hC, Fw_rf, (fun _ => h_30), (fun h9 => absurd (by omega) h9)⟩, hF⟩
    · simp only [w32_mod] at h_19
      refine ww_iconst hX (pc := 22) (x := (-1)) dX10_ways_22 rfl ?_
      refine rI hX (pc := 23) hT (Nat.le_refl 0) (Nat.le_refl 0) dX10_ways_23 ?_
      exact ⟨⟨(Kp_rf (a := 0) (b := 49)), (Kp_rf (a := 0) (b := 49)), hC, Fw_rf, (fun h9 => absurd h9 (by omega)), (fun _ => rfl)⟩, hF⟩
set_option maxHeartbeats 4000000 in
set_option maxRecDepth 20000 in
theorem c8_X10_reached (l0 : Launch) {Ia Ja : aI1} {Ra : aR1} {Sa : aS1} (hL : LY Ra Sa) (hC : CX Ia) (hF : FRk Ia Ja) {a : Int} (ha0 : -2147483648 ≤ a) (ha1 : a < 2147483648)  : CT l0 10 0 0 mX10_reached [kR (some 0), kI a] Ia Ja Ra Sa (cI (fun x I' J' => (Kp 0 49 Ia I' ∧ Kp 0 49 Ja J' ∧ CX I' ∧ Fw [] [] Ia I' ∧ (a = -1 → x = fW (rcF (Ia 3) (Ia 1 7)) 0 (FU (Ia 1 5) + 1).toNat) ∧ (¬ a = -1 → 0 ≤ a ∧ a ≤ FU (Ia 1 5) → (x = 0 ∨ x = 1) ∧ (x = 1 ↔ RC (Ia 3) (Ia 1 7) a.toNat)) ∧ (¬ a = -1 → ¬ (0 ≤ a ∧ a ≤ FU (Ia 1 5)) → x = -1)) ∧ FRk I' J') Ra Sa) := by
  refine ct_in pn_X10 (Nat.le_of_ble_eq_true rfl) (fun X hX hT hIn => ?_)
  have hX : aK l0 X cX10_reached 2 RX10 (some .int) 10 0 0 := hX
  change WW X 0 [some (kR (some 0)), some (kI a)] [] Ia Ja Ra Sa 0 0
  have hI := hC.1
  have hq := XI_o hI
  refine ww_iload_n hX (pc := 0) dX10_reached_0 rfl ?_
  refine ww_iconst hX (pc := 1) (x := (-1)) dX10_reached_1 rfl ?_
  refine ww_icmp_ne hX (pc := 2) (tgt := 13) dX10_reached_2 (by decide) (fun h_2 => ?_) (fun h_2 => ?_)
  · simp only [w32_mod] at h_2
    refine ww_aload_n hX (pc := 13) dX10_reached_13 rfl ?_
    refine ww_getR hX (pc := 14) fX10_10 (by decide) (xs_0 hL) (xr_0_0 hL) dX10_reached_14 ?_
    refine ww_iload_n hX (pc := 17) dX10_reached_17 rfl ?_
    refine vI1 hX (pc := 18) sX10_131 (xs_1 hL) (c_X1_isState l0 hL hC.1 (by omega)) (by decide) (Nat.le_refl 0) (Nat.le_refl 0) (Nat.le_of_ble_eq_true rfl) dX10_reached_18 (fun x_18 I_18 J_18 h_18 => ?_)
    obtain ⟨rfl, rfl, h_18⟩ := h_18
    refine ww_if_ne hX (pc := 21) (tgt := 26) dX10_reached_21 (by decide) (fun h_21 => ?_) (fun h_21 => ?_)
    · simp only [w32_mod] at h_21
      have k_18 := h_18.2.mp (by omega)
      clear h_18
      refine ww_aload_n hX (pc := 26) dX10_reached_26 rfl ?_
      refine ww_getR hX (pc := 27) fX10_10 (by decide) (xs_0 hL) (xr_0_0 hL) dX10_reached_27 ?_
      refine ww_iload_n hX (pc := 30) dX10_reached_30 rfl ?_
      refine vI1 hX (pc := 31) sX10_213 (xs_1 hL) (c7_X1_isReached l0 hL hC.1 (by omega) (by omega)) (by decide) (Nat.le_refl 0) (Nat.le_refl 0) (Nat.le_of_ble_eq_true rfl) dX10_reached_31 (fun x_31 I_31 J_31 h_31 => ?_)
      obtain ⟨rfl, rfl, h_31⟩ := h_31
      refine ww_if_eq hX (pc := 34) (tgt := 41) dX10_reached_34 (by decide) (fun h_34 => ?_) (fun h_34 => ?_)
      · simp only [w32_mod] at h_34
        refine ww_iconst hX (pc := 41) (x := 0) dX10_reached_41 rfl ?_
        refine rI hX (pc := 42) hT (Nat.le_refl 0) (Nat.le_refl 0) dX10_reached_42 ?_
        exact ⟨⟨(Kp_rf (a := 0) (b := 49)), (Kp_rf (a := 0) (b := 49)), hC, Fw_rf, (fun h9 => absurd h9 (by omega)), (fun _ _ => ⟨by omega, fun h9 => absurd h9 (by decide), fun h9 => absurd (h_31.2.mpr h9) (by omega)⟩), (fun _ h9 => absurd (by omega) h9)⟩, hF⟩
      · simp only [w32_mod] at h_34
        refine ww_iconst hX (pc := 37) (x := 1) dX10_reached_37 rfl ?_
        refine ww_goto hX (pc := 38) (tgt := 42) dX10_reached_38 (by decide) ?_
        refine rI hX (pc := 42) hT (Nat.le_refl 0) (Nat.le_refl 0) dX10_reached_42 ?_
        exact ⟨⟨(Kp_rf (a := 0) (b := 49)), (Kp_rf (a := 0) (b := 49)), hC, Fw_rf, (fun h9 => absurd h9 (by omega)), (fun _ _ => ⟨by omega, fun _ => h_31.2.mp (by omega), fun _ => rfl⟩), (fun _ h9 => absurd (by omega) h9)⟩, hF⟩
    · simp only [w32_mod] at h_21
      refine ww_iconst hX (pc := 24) (x := (-1)) dX10_reached_24 rfl ?_
      refine rI hX (pc := 25) hT (Nat.le_refl 0) (Nat.le_refl 0) dX10_reached_25 ?_
      exact ⟨⟨(Kp_rf (a := 0) (b := 49)), (Kp_rf (a := 0) (b := 49)), hC, Fw_rf, (fun h9 => absurd h9 (by omega)), (fun _ h9 => absurd h9 (by omega)), (fun _ _ => rfl)⟩, hF⟩
  · simp only [w32_mod] at h_2
    refine ww_aload_n hX (pc := 5) dX10_reached_5 rfl ?_
    refine ww_getR hX (pc := 6) fX10_10 (by decide) (xs_0 hL) (xr_0_0 hL) dX10_reached_6 ?_
    refine vI0 hX (pc := 9) sX10_210 (xs_1 hL) (c7_X1_countReached l0 hL hC.1) (by decide) (Nat.le_refl 0) (Nat.le_refl 0) (Nat.le_of_ble_eq_true rfl) dX10_reached_9 (fun x_9 I_9 J_9 h_9 => ?_)
    obtain ⟨rfl, rfl, h_9⟩ := h_9
    refine rI hX (pc := 12) hT (Nat.le_refl 0) (Nat.le_refl 0) dX10_reached_12 ?_
    exact ⟨⟨(Kp_rf (a := 0) (b := 49)), (Kp_rf (a := 0) (b := 49)), hC, Fw_rf, (fun _ => h_9), (fun h9 => absurd (by omega) h9), (fun h9 => absurd (by omega) h9)⟩, hF⟩
set_option maxHeartbeats 4000000 in
set_option maxRecDepth 20000 in
theorem c8_X10_maybe (l0 : Launch) {Ia Ja : aI1} {Ra : aR1} {Sa : aS1} (hL : LY Ra Sa) (hC : CX Ia) (hF : FRk Ia Ja) {a b : Int} (ha0 : -2147483648 ≤ a) (ha1 : a < 2147483648) (hb0 : -2147483648 ≤ b) (hb1 : b < 2147483648)  : CT l0 10 0 0 mX10_maybe [kR (some 0), kI a, kI b] Ia Ja Ra Sa (cI (fun x I' J' => (Kp 0 49 Ia I' ∧ Kp 0 49 Ja J' ∧ CX I' ∧ Fw [] [] Ia I' ∧ ((0 ≤ a ∧ a ≤ FU (Ia 1 5) ∧ 0 ≤ b ∧ b ≤ 8) → x = fW (mbF (Ia 3) (Ia 1 7) a (FU (Ia 1 5) + 1) b) 0 (FU (Ia 1 5) + 1).toNat) ∧ (¬ (0 ≤ a ∧ a ≤ FU (Ia 1 5) ∧ 0 ≤ b ∧ b ≤ 8) → x = -1)) ∧ FRk I' J') Ra Sa) := by
  refine ct_in pn_X10 (Nat.le_of_ble_eq_true rfl) (fun X hX hT hIn => ?_)
  have hX : aK l0 X cX10_maybe 6 RX10 (some .int) 10 0 0 := hX
  change WW X 0 [some (kR (some 0)), some (kI a), some (kI b), none, none, none] [] Ia Ja Ra Sa 0 0
  have hI := hC.1
  have hq := XI_o hI
  refine ww_aload_n hX (pc := 0) dX10_maybe_0 rfl ?_
  refine ww_getR hX (pc := 1) fX10_10 (by decide) (xs_0 hL) (xr_0_0 hL) dX10_maybe_1 ?_
  refine ww_iload_n hX (pc := 4) dX10_maybe_4 rfl ?_
  refine vI1 hX (pc := 5) sX10_131 (xs_1 hL) (c_X1_isState l0 hL hC.1 (by omega)) (by decide) (Nat.le_refl 0) (Nat.le_refl 0) (Nat.le_of_ble_eq_true rfl) dX10_maybe_5 (fun x_5 I_5 J_5 h_5 => ?_)
  obtain ⟨rfl, rfl, h_5⟩ := h_5
  refine ww_if_eq hX (pc := 8) (tgt := 21) dX10_maybe_8 (by decide) (fun h_8 => ?_) (fun h_8 => ?_)
  · simp only [w32_mod] at h_8
    refine ww_iconst hX (pc := 21) (x := (-1)) dX10_maybe_21 rfl ?_
    refine rI hX (pc := 22) hT (Nat.le_refl 0) (Nat.le_refl 0) dX10_maybe_22 ?_
    exact ⟨⟨(Kp_rf (a := 0) (b := 49)), (Kp_rf (a := 0) (b := 49)), hC, Fw_rf, (fun h9 => absurd h9 (by omega)), (fun _ => rfl)⟩, hF⟩
  · simp only [w32_mod] at h_8
    have k_5 := h_5.2.mp (by omega)
    clear h_5
    refine ww_iload_n hX (pc := 11) dX10_maybe_11 rfl ?_
    refine ww_if_lt hX (pc := 12) (tgt := 21) dX10_maybe_12 (by decide) (fun h_12 => ?_) (fun h_12 => ?_)
    · simp only [w32_mod] at h_12
      refine ww_iconst hX (pc := 21) (x := (-1)) dX10_maybe_21 rfl ?_
      refine rI hX (pc := 22) hT (Nat.le_refl 0) (Nat.le_refl 0) dX10_maybe_22 ?_
      exact ⟨⟨(Kp_rf (a := 0) (b := 49)), (Kp_rf (a := 0) (b := 49)), hC, Fw_rf, (fun h9 => absurd h9 (by omega)), (fun _ => rfl)⟩, hF⟩
    · simp only [w32_mod] at h_12
      refine ww_iload_n hX (pc := 15) dX10_maybe_15 rfl ?_
      refine ww_bipush hX (pc := 16) (x := 8) dX10_maybe_16 (by decide) ?_
      refine ww_icmp_le hX (pc := 18) (tgt := 23) dX10_maybe_18 (by decide) (fun h_18 => ?_) (fun h_18 => ?_)
      · simp only [w32_mod] at h_18
        refine ww_iconst hX (pc := 23) (x := 0) dX10_maybe_23 rfl ?_
        refine ww_istore_n hX (pc := 24) (lv' := [some (kR (some 0)), some (kI a), some (kI b), some (kI 0), none, none]) dX10_maybe_24 (by decide) rfl rfl ?_
        refine ww_aload_n hX (pc := 25) dX10_maybe_25 rfl ?_
        refine ww_getR hX (pc := 26) fX10_10 (by decide) (xs_0 hL) (xr_0_0 hL) dX10_maybe_26 ?_
        refine vI0 hX (pc := 29) sX10_151 (xs_1 hL) (c_X1_full l0 hL hC.1) (by decide) (Nat.le_refl 0) (Nat.le_refl 0) (Nat.le_of_ble_eq_true rfl) dX10_maybe_29 (fun x_29 I_29 J_29 h_29 => ?_)
        obtain ⟨rfl, rfl, h_29⟩ := h_29
        refine ww_istore hX (pc := 32) (lv' := [some (kR (some 0)), some (kI a), some (kI b), some (kI 0), some (kI x_29), none]) dX10_maybe_32 (by decide) rfl rfl ?_
        refine ww_iload_n hX (pc := 34) dX10_maybe_34 rfl ?_
        refine ww_istore hX (pc := 35) (lv' := [some (kR (some 0)), some (kI a), some (kI b), some (kI 0), some (kI x_29), some (kI a)]) dX10_maybe_35 (by decide) rfl rfl ?_
        have hl_37 : ∀ (n_37 : Nat) (g : Int) (to : Int), (x_29 + 1 - to).toNat = n_37 → ((0 ≤ to ∧ to < 2147483648) ∧ a.toNat &&& to.toNat = a.toNat ∧ (-2147483648 ≤ g ∧ g < 2147483648) ∧ g = fW (mbF (Ia 3) (Ia 1 7) a (FU (Ia 1 5) + 1) b) 0 to.toNat) → WW X 37 [some (kR (some 0)), some (kI a), some (kI b), some (kI g), some (kI x_29), some (kI to)] [] Ia Ja Ra Sa 0 0 := by
          intro n_37
          induction n_37 using Nat.strongRecOn with
          | ind n_37 ih_37 =>
            intro g to hm_37 hv_37
            have hq_37 := Sh0_i hm_37
            clear hm_37
            obtain ⟨⟨hto0, hto1⟩, hsu, hgr, hg⟩ := hv_37
            refine ww_iload hX (pc := 37) dX10_maybe_37 rfl ?_
            refine ww_iload hX (pc := 39) dX10_maybe_39 rfl ?_
            refine ww_icmp_gt hX (pc := 41) (tgt := 78) dX10_maybe_41 (by decide) (fun h_41 => ?_) (fun h_41 => ?_)
            · simp only [w32_mod] at h_41
              refine ww_iload_n hX (pc := 78) dX10_maybe_78 rfl ?_
              refine rI hX (pc := 79) hT (Nat.le_refl 0) (Nat.le_refl 0) dX10_maybe_79 ?_
              exact ⟨⟨(Kp_rf (a := 0) (b := 49)), (Kp_rf (a := 0) (b := 49)), hC, Fw_rf, (fun _ => by rw [hg]; exact fW_N (by omega) (fun v t h => mbF_N v t (by omega))), (fun h9 => absurd (by omega) h9)⟩, hF⟩
            · simp only [w32_mod] at h_41
              have hnx := fW_nx (f := mbF (Ia 3) (Ia 1 7) a (FU (Ia 1 5) + 1) b) (z := 0) (to := to) (e := a) (by omega) (by omega) (by omega) (by omega) hsu mbF_n
              have hxr := i_xor_256 (a := to) (b := a) (by omega) (by omega) (by omega) (by omega)
              have hbc := bc_r hxr.1 hxr.2
              refine ww_iload hX (pc := 44) dX10_maybe_44 rfl ?_
              refine ww_iload_n hX (pc := 46) dX10_maybe_46 rfl ?_
              refine ww_ixor hX (pc := 47) dX10_maybe_47 ?_
              refine sI1 hX (pc := 48) sX10_242 (c_J6_bitCount_0f7a4 l0) (by decide) (Nat.le_refl 0) (Nat.le_refl 0) (Nat.le_of_ble_eq_true rfl) dX10_maybe_48 (fun x_48 I_48 J_48 h_48 => ?_)
              obtain ⟨rfl, rfl, h_48⟩ := h_48
              refine ww_iload_n hX (pc := 51) dX10_maybe_51 rfl ?_
              refine ww_icmp_gt hX (pc := 52) (tgt := 67) dX10_maybe_52 (by decide) (fun h_52 => ?_) (fun h_52 => ?_)
              · simp only [w32_mod] at h_52
                have hst : mbF (Ia 3) (Ia 1 7) a (FU (Ia 1 5) + 1) b g to.toNat = g := mbF_x (by omega) (by omega) (by omega) (by omega) (by rw [← h_48]; omega)
                have hgr2 := hgr
                refine ww_iload hX (pc := 67) dX10_maybe_67 rfl ?_
                refine ww_iconst hX (pc := 69) (x := 1) dX10_maybe_69 rfl ?_
                refine ww_iadd hX (pc := 70) dX10_maybe_70 ?_
                refine ww_iload_n hX (pc := 71) dX10_maybe_71 rfl ?_
                refine ww_ior hX (pc := 72) dX10_maybe_72 ?_
                refine ww_nmI (fun v_73 hv_73 => ?_)
                refine ww_istore hX (pc := 73) (lv' := [some (kR (some 0)), some (kI a), some (kI b), some (kI g), some (kI x_29), some (kI v_73)]) dX10_maybe_73 (by decide) rfl rfl ?_
                refine ww_goto hX (pc := 75) (tgt := 37) dX10_maybe_75 (by decide) ?_
                have hor := i_or_ge (a := to + 1) (b := a) (by omega) (by omega) (by omega) (by omega)
                exact ih_37 _ (by have hm9 := Sh0_e hq_37; omega) g v_73 rfl ⟨⟨by omega, by omega⟩, by rw [hv_73]; exact or_nx_sub (by omega) (by omega) (by omega) (by omega), hgr2, by rw [hv_73, hnx, ← hg, hst]⟩
              · simp only [w32_mod] at h_52
                refine ww_iload_n hX (pc := 55) dX10_maybe_55 rfl ?_
                refine ww_aload_n hX (pc := 56) dX10_maybe_56 rfl ?_
                refine ww_getR hX (pc := 57) fX10_10 (by decide) (xs_0 hL) (xr_0_0 hL) dX10_maybe_57 ?_
                refine ww_iload hX (pc := 60) dX10_maybe_60 rfl ?_
                refine vI1 hX (pc := 62) sX10_269 (xs_1 hL) (c7_X1_newsBit l0 hL hC.1 (by omega) (by omega)) (by decide) (Nat.le_refl 0) (Nat.le_refl 0) (Nat.le_of_ble_eq_true rfl) dX10_maybe_62 (fun x_62 I_62 J_62 h_62 => ?_)
                obtain ⟨rfl, rfl, h_62⟩ := h_62
                refine ww_ior hX (pc := 65) dX10_maybe_65 ?_
                refine ww_nmI (fun v_66 hv_66 => ?_)
                refine ww_istore_n hX (pc := 66) (lv' := [some (kR (some 0)), some (kI a), some (kI b), some (kI v_66), some (kI x_29), some (kI to)]) dX10_maybe_66 (by decide) rfl rfl ?_
                have hst : mbF (Ia 3) (Ia 1 7) a (FU (Ia 1 5) + 1) b g to.toNat = v_66 := by
                  rw [hv_66, h_62]
                  exact (mbF_y (by omega) (by omega) (by omega) (by omega) (by omega) hsu hgr.1 hgr.2 (by rw [← h_48]; omega)).symm
                have hgr2 := ior_r g x_62
                rw [← hv_66] at hgr2
                refine ww_iload hX (pc := 67) dX10_maybe_67 rfl ?_
                refine ww_iconst hX (pc := 69) (x := 1) dX10_maybe_69 rfl ?_
                refine ww_iadd hX (pc := 70) dX10_maybe_70 ?_
                refine ww_iload_n hX (pc := 71) dX10_maybe_71 rfl ?_
                refine ww_ior hX (pc := 72) dX10_maybe_72 ?_
                refine ww_nmI (fun v_73 hv_73 => ?_)
                refine ww_istore hX (pc := 73) (lv' := [some (kR (some 0)), some (kI a), some (kI b), some (kI v_66), some (kI x_29), some (kI v_73)]) dX10_maybe_73 (by decide) rfl rfl ?_
                refine ww_goto hX (pc := 75) (tgt := 37) dX10_maybe_75 (by decide) ?_
                have hor := i_or_ge (a := to + 1) (b := a) (by omega) (by omega) (by omega) (by omega)
                exact ih_37 _ (by have hm9 := Sh0_e hq_37; omega) v_66 v_73 rfl ⟨⟨by omega, by omega⟩, by rw [hv_73]; exact or_nx_sub (by omega) (by omega) (by omega) (by omega), hgr2, by rw [hv_73, hnx, ← hg, hst]⟩
        exact hl_37 _ 0 a rfl ⟨⟨by omega, by omega⟩, Nat.and_self _, by omega, (fW_e mbF_n).symm⟩
      · simp only [w32_mod] at h_18
        refine ww_iconst hX (pc := 21) (x := (-1)) dX10_maybe_21 rfl ?_
        refine rI hX (pc := 22) hT (Nat.le_refl 0) (Nat.le_refl 0) dX10_maybe_22 ?_
        exact ⟨⟨(Kp_rf (a := 0) (b := 49)), (Kp_rf (a := 0) (b := 49)), hC, Fw_rf, (fun h9 => absurd h9 (by omega)), (fun _ => rfl)⟩, hF⟩
set_option maxHeartbeats 4000000 in
set_option maxRecDepth 20000 in
theorem c8_X10_hurts (l0 : Launch) {Ia Ja : aI1} {Ra : aR1} {Sa : aS1} (hL : LY Ra Sa) (hC : CX Ia) (hF : FRk Ia Ja) {a : Int} (ha0 : -2147483648 ≤ a) (ha1 : a < 2147483648)  : CT l0 10 0 0 mX10_hurts [kR (some 0), kI a] Ia Ja Ra Sa (cI (fun x I' J' => (Kp 0 49 Ia I' ∧ Kp 0 49 Ja J' ∧ CX I' ∧ Fw [18, 19, 20, 21, 22, 23, 24, 25, 26, 27, 28, 29, 30] [] Ia I' ∧ ((0 ≤ a ∧ a < Ia 1 5) → ∃ L, zLV (Ia 3) (i_or (Ia 1 7) (i_shl 1 a)) (FU (Ia 1 5) + 1) (Ia 1 6) (-1) L ∧ x = L 0) ∧ (¬ (0 ≤ a ∧ a < Ia 1 5) → x = -1)) ∧ FRk I' J') Ra Sa) := by
  refine ct_in pn_X10 (Nat.le_of_ble_eq_true rfl) (fun X hX hT hIn => ?_)
  have hX : aK l0 X cX10_hurts 2 RX10 (some .int) 10 0 0 := hX
  change WW X 0 [some (kR (some 0)), some (kI a)] [] Ia Ja Ra Sa 0 0
  have hI := hC.1
  have hq := XI_o hI
  refine ww_aload_n hX (pc := 0) dX10_hurts_0 rfl ?_
  refine ww_getR hX (pc := 1) fX10_10 (by decide) (xs_0 hL) (xr_0_0 hL) dX10_hurts_1 ?_
  refine ww_iload_n hX (pc := 4) dX10_hurts_4 rfl ?_
  refine vI1 hX (pc := 5) sX10_120 (xs_1 hL) (c_X1_isLamp l0 hL hC.1 (by omega)) (by decide) (Nat.le_refl 0) (Nat.le_refl 0) (Nat.le_of_ble_eq_true rfl) dX10_hurts_5 (fun x_5 I_5 J_5 h_5 => ?_)
  obtain ⟨rfl, rfl, h_5⟩ := h_5
  refine ww_if_eq hX (pc := 8) (tgt := 22) dX10_hurts_8 (by decide) (fun h_8 => ?_) (fun h_8 => ?_)
  · simp only [w32_mod] at h_8
    refine ww_iconst hX (pc := 22) (x := (-1)) dX10_hurts_22 rfl ?_
    refine rI hX (pc := 23) hT (Nat.le_refl 0) (Nat.le_refl 0) dX10_hurts_23 ?_
    exact ⟨⟨(Kp_rf (a := 0) (b := 49)), (Kp_rf (a := 0) (b := 49)), hC, Fw_rf, (fun h9 => absurd h9 (by omega)), (fun _ => rfl)⟩, hF⟩
  · simp only [w32_mod] at h_8
    have k_5 := h_5.2.mp (by omega)
    clear h_5
    refine ww_aload_n hX (pc := 11) dX10_hurts_11 rfl ?_
    refine ww_getR hX (pc := 12) fX10_48 (by decide) (xs_0 hL) (xr_0_5 hL) dX10_hurts_12 ?_
    refine ww_iload_n hX (pc := 15) dX10_hurts_15 rfl ?_
    refine vI1 hX (pc := 16) sX10_222 (xs_18 hL) (n8_X4_lastingWithout l0 hL hC.1 hF) (by decide) (Nat.le_refl 0) (Nat.le_refl 0) (Nat.le_of_ble_eq_true rfl) dX10_hurts_16 (fun x_16 I_16 J_16 h_16 => ?_)
    have kI_16 : Kp 0 49 Ia I_16 := Kp_tr (Kp_rf (a := 0) (b := 49)) (Kp_wd h_16.1 (by decide) (by decide))
    have kJ_16 : Kp 0 49 Ja J_16 := Kp_tr (Kp_rf (a := 0) (b := 49)) (Kp_wd h_16.2.1 (by decide) (by decide))
    have cI_16 : CX I_16 := CX_kp hC h_16.1 (by decide) (by decide)
    have qI_16 := XI_o cI_16.1
    have r5_I_16 : I_16 1 5 = Ia 1 5 := by rw [h_16.1 1 (by decide)]
    have r6_I_16 : I_16 1 6 = Ia 1 6 := by rw [h_16.1 1 (by decide)]
    have r8_I_16 : I_16 1 8 = Ia 1 8 := by rw [h_16.1 1 (by decide)]
    have r9_I_16 : I_16 1 9 = Ia 1 9 := by rw [h_16.1 1 (by decide)]
    have r10_I_16 : I_16 1 10 = Ia 1 10 := by rw [h_16.1 1 (by decide)]
    have r11_I_16 : I_16 1 11 = Ia 1 11 := by rw [h_16.1 1 (by decide)]
    have rf_I_16 : FU (I_16 1 5) = FU (Ia 1 5) := by rw [r5_I_16]
    have wI_16 : Fw [18, 19, 20, 21, 22, 23, 24, 25, 26, 27, 28, 29, 30] [] Ia I_16 := Fw_kp Fw_rf h_16.1 (by decide)
    have r7_I_16 : I_16 1 7 = Ia 1 7 := by rw [h_16.1 1 (by decide)]
    have frI_16 : FRk I_16 J_16 := h_16.2.2.1
    refine ww_goto hX (pc := 19) (tgt := 23) dX10_hurts_19 (by decide) ?_
    refine rI hX (pc := 23) hT (Nat.le_refl 0) (Nat.le_refl 0) dX10_hurts_23 ?_
    exact ⟨⟨kI_16, kJ_16, cI_16, (Fw_wd wI_16 (by decide) (by decide)), (fun _ => h_16.2.2.2), (fun h9 => absurd (by omega) h9)⟩, frI_16⟩
set_option maxHeartbeats 4000000 in
set_option maxRecDepth 20000 in
theorem c8_X10_safe (l0 : Launch) {Ia Ja : aI1} {Ra : aR1} {Sa : aS1} (hL : LY Ra Sa) (hC : CX Ia) (hF : FRk Ia Ja)  : CT l0 10 0 0 mX10_safe [kR (some 0)] Ia Ja Ra Sa (cI (fun x I' J' => (Kp 0 49 Ia I' ∧ Kp 0 49 Ja J' ∧ CX I' ∧ Fw [18, 19, 20, 21, 22, 23, 24, 25, 26, 27, 28, 29, 30] [] Ia I' ∧ SFE (Ia 3) (Ia 1 7) (FU (Ia 1 5) + 1) x) ∧ FRk I' J') Ra Sa) := by
  refine ct_in pn_X10 (Nat.le_of_ble_eq_true rfl) (fun X hX hT hIn => ?_)
  have hX : aK l0 X cX10_safe 1 RX10 (some .int) 10 0 0 := hX
  change WW X 0 [some (kR (some 0))] [] Ia Ja Ra Sa 0 0
  have hI := hC.1
  have hq := XI_o hI
  refine ww_aload_n hX (pc := 0) dX10_safe_0 rfl ?_
  refine ww_getR hX (pc := 1) fX10_48 (by decide) (xs_0 hL) (xr_0_5 hL) dX10_safe_1 ?_
  refine vI0 hX (pc := 4) sX10_272 (xs_18 hL) (n8_X4_findSafe l0 hL hC.1 hF) (by decide) (Nat.le_refl 0) (Nat.le_refl 0) (Nat.le_of_ble_eq_true rfl) dX10_safe_4 (fun x_4 I_4 J_4 h_4 => ?_)
  have kI_4 : Kp 0 49 Ia I_4 := Kp_tr (Kp_rf (a := 0) (b := 49)) (Kp_wd h_4.1 (by decide) (by decide))
  have kJ_4 : Kp 0 49 Ja J_4 := Kp_tr (Kp_rf (a := 0) (b := 49)) (Kp_wd h_4.2.1 (by decide) (by decide))
  have cI_4 : CX I_4 := CX_kp hC h_4.1 (by decide) (by decide)
  have qI_4 := XI_o cI_4.1
  have r5_I_4 : I_4 1 5 = Ia 1 5 := by rw [h_4.1 1 (by decide)]
  have r6_I_4 : I_4 1 6 = Ia 1 6 := by rw [h_4.1 1 (by decide)]
  have r8_I_4 : I_4 1 8 = Ia 1 8 := by rw [h_4.1 1 (by decide)]
  have r9_I_4 : I_4 1 9 = Ia 1 9 := by rw [h_4.1 1 (by decide)]
  have r10_I_4 : I_4 1 10 = Ia 1 10 := by rw [h_4.1 1 (by decide)]
  have r11_I_4 : I_4 1 11 = Ia 1 11 := by rw [h_4.1 1 (by decide)]
  have rf_I_4 : FU (I_4 1 5) = FU (Ia 1 5) := by rw [r5_I_4]
  have wI_4 : Fw [18, 19, 20, 21, 22, 23, 24, 25, 26, 27, 28, 29, 30] [] Ia I_4 := Fw_kp Fw_rf h_4.1 (by decide)
  have r7_I_4 : I_4 1 7 = Ia 1 7 := by rw [h_4.1 1 (by decide)]
  have frI_4 : FRk I_4 J_4 := h_4.2.2.1
  refine rI hX (pc := 7) hT (Nat.le_refl 0) (Nat.le_refl 0) dX10_safe_7 ?_
  exact ⟨⟨kI_4, kJ_4, cI_4, (Fw_wd wI_4 (by decide) (by decide)), h_4.2.2.2⟩, frI_4⟩
set_option maxHeartbeats 4000000 in
set_option maxRecDepth 20000 in
theorem c8_X10_codes (l0 : Launch) {Ia Ja : aI1} {Ra : aR1} {Sa : aS1} (hL : LY Ra Sa) (hC : CX Ia) (hF : FRk Ia Ja) {a b c : Int} (ha0 : -2147483648 ≤ a) (ha1 : a < 2147483648) (hb0 : -2147483648 ≤ b) (hb1 : b < 2147483648) (hc0 : -2147483648 ≤ c) (hc1 : c < 2147483648) (hS : SR Ia) (hG : SRF Ia)  : CT l0 10 0 0 mX10_codes [kR (some 0), kI a, kI b, kI c] Ia Ja Ra Sa (cI (fun x I' J' => (Kp 0 49 Ia I' ∧ Kp 0 49 Ja J' ∧ CX I' ∧ Fw [37, 38, 39, 40, 41, 42, 43, 44, 45] [] Ia I' ∧ SR I' ∧ SRF I' ∧ (¬ (1 ≤ a ∧ a ≤ 3 ∧ 2 ≤ b ∧ b ≤ 4 ∧ 0 ≤ c ∧ c ≤ 8) → x = -1) ∧ ((1 ≤ a ∧ a ≤ 3 ∧ 2 ≤ b ∧ b ≤ 4 ∧ 0 ≤ c ∧ c ≤ 8) → x = TBX a b c)) ∧ FRk I' J') Ra Sa) := by
  refine ct_in pn_X10 (Nat.le_of_ble_eq_true rfl) (fun X hX hT hIn => ?_)
  have hX : aK l0 X cX10_codes 4 RX10 (some .int) 10 0 0 := hX
  change WW X 0 [some (kR (some 0)), some (kI a), some (kI b), some (kI c)] [] Ia Ja Ra Sa 0 0
  have hI := hC.1
  have hq := XI_o hI
  refine ww_iload_n hX (pc := 0) dX10_codes_0 rfl ?_
  refine ww_iload_n hX (pc := 1) dX10_codes_1 rfl ?_
  refine ww_iload_n hX (pc := 2) dX10_codes_2 rfl ?_
  refine sI3 hX (pc := 3) sX10_225 (c_X2_isSearched l0 (by omega) (by omega) (by omega) (by omega) (by omega) (by omega)) (by decide) (Nat.le_refl 0) (Nat.le_refl 0) (Nat.le_of_ble_eq_true rfl) dX10_codes_3 (fun x_3 I_3 J_3 h_3 => ?_)
  obtain ⟨rfl, rfl, h_3⟩ := h_3
  refine ww_if_eq hX (pc := 6) (tgt := 22) dX10_codes_6 (by decide) (fun h_6 => ?_) (fun h_6 => ?_)
  · simp only [w32_mod] at h_6
    refine ww_iconst hX (pc := 22) (x := (-1)) dX10_codes_22 rfl ?_
    refine rI hX (pc := 23) hT (Nat.le_refl 0) (Nat.le_refl 0) dX10_codes_23 ?_
    exact ⟨⟨(Kp_rf (a := 0) (b := 49)), (Kp_rf (a := 0) (b := 49)), hC, Fw_rf, hS, hG, by omega, by omega⟩, hF⟩
  · simp only [w32_mod] at h_6
    have k_3 := h_3.2.mp (by omega)
    clear h_3
    refine ww_aload_n hX (pc := 9) dX10_codes_9 rfl ?_
    refine ww_getR hX (pc := 10) fX10_71 (by decide) (xs_0 hL) (xr_0_8 hL) dX10_codes_10 ?_
    refine ww_iload_n hX (pc := 13) dX10_codes_13 rfl ?_
    refine ww_iload_n hX (pc := 14) dX10_codes_14 rfl ?_
    refine ww_iload_n hX (pc := 15) dX10_codes_15 rfl ?_
    refine vI3 hX (pc := 16) sX10_229 (xs_37 hL) (c6_X2_countCodes l0 hL (by omega) (by omega) (by omega) (by omega) (by omega) (by omega) hC.2.2 hS hG) (by decide) (Nat.le_refl 0) (Nat.le_refl 0) (Nat.le_of_ble_eq_true rfl) dX10_codes_16 (fun x_16 I_16 J_16 h_16 => ?_)
    have kI_16 : Kp 0 49 Ia I_16 := Kp_tr (Kp_rf (a := 0) (b := 49)) (Kp_wd h_16.1 (by decide) (by decide))
    have kJ_16 : Kp 0 49 Ja J_16 := Kp_tr (Kp_rf (a := 0) (b := 49)) (Kp_wd h_16.2.1 (by decide) (by decide))
    have ht16 : x_16 = TBX a b c := by
      unfold TBX
      by_cases h8 : c ≤ 3
      · rw [if_pos h8]; exact h_16.2.2.2.2.2.2.2 h8
      · rw [if_neg h8]; exact h_16.2.2.2.2.2.1 (by omega)
    have cI_16 : CX I_16 := CX_cs hC h_16.1 h_16.2.2.1
    have qI_16 := XI_o cI_16.1
    have r5_I_16 : I_16 1 5 = Ia 1 5 := by rw [h_16.1 1 (by decide)]
    have r6_I_16 : I_16 1 6 = Ia 1 6 := by rw [h_16.1 1 (by decide)]
    have r8_I_16 : I_16 1 8 = Ia 1 8 := by rw [h_16.1 1 (by decide)]
    have r9_I_16 : I_16 1 9 = Ia 1 9 := by rw [h_16.1 1 (by decide)]
    have r10_I_16 : I_16 1 10 = Ia 1 10 := by rw [h_16.1 1 (by decide)]
    have r11_I_16 : I_16 1 11 = Ia 1 11 := by rw [h_16.1 1 (by decide)]
    have rf_I_16 : FU (I_16 1 5) = FU (Ia 1 5) := by rw [r5_I_16]
    have wI_16 : Fw [37, 38, 39, 40, 41, 42, 43, 44, 45] [] Ia I_16 := Fw_kp Fw_rf h_16.1 (by decide)
    have r7_I_16 : I_16 1 7 = Ia 1 7 := by rw [h_16.1 1 (by decide)]
    have frI_16 : FRk I_16 J_16 := FRk_kp hF h_16.1 h_16.2.1 (by decide)
    refine ww_goto hX (pc := 19) (tgt := 23) dX10_codes_19 (by decide) ?_
    refine rI hX (pc := 23) hT (Nat.le_refl 0) (Nat.le_refl 0) dX10_codes_23 ?_
    exact ⟨⟨kI_16, kJ_16, cI_16, (Fw_wd wI_16 (by decide) (by decide)), h_16.2.2.2.1, h_16.2.2.2.2.1, by omega, by omega⟩, frI_16⟩
