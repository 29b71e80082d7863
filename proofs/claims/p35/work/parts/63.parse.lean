section
/-- the reader's state -/
def PI (I : aI1) : Prop := (0 ≤ I 49 15 ∧ I 49 15 ≤ 400) ∧ (0 ≤ I 49 16 ∧ I 49 16 ≤ I 49 15) ∧ (-1 ≤ I 49 18 ∧ I 49 18 ≤ 400) ∧ RG (I 57) (I 49 15 + 1) ∧ RG (I 59) (I 49 15 + 1) ∧ I 57 (I 49 15).toNat = 0
theorem PI_o {I : aI1} (h : PI I) : (0 ≤ I 49 15 ∧ I 49 15 ≤ 400) ∧ (0 ≤ I 49 16 ∧ I 49 16 ≤ I 49 15) ∧ (-1 ≤ I 49 18 ∧ I 49 18 ≤ 400) := ⟨h.1, h.2.1, h.2.2.1⟩
theorem PI_t {I : aI1} (h : PI I) : (0 ≤ I 57 (I 49 16).toNat ∧ I 57 (I 49 16).toNat ≤ 400) ∧ (0 ≤ I 59 (I 49 16).toNat ∧ I 59 (I 49 16).toNat ≤ 400) := by
  have h1 := PI_o h
  exact ⟨h.2.2.2.1 _ (by omega), h.2.2.2.2.1 _ (by omega)⟩
theorem PI_lt {I : aI1} (h : PI I) (hz : 1 ≤ I 57 (I 49 16).toNat) : I 49 16 < I 49 15 := by
  have h1 := PI_o h
  by_cases e : I 49 16 = I 49 15
  · rw [e] at hz
    have := h.2.2.2.2.2
    omega
  · omega
/-- what the reader's steps say, kept shut -/
def NB (I : aI1) : Prop := ¬ I 49 18 = -1
def FN (x : Int) (I : aI1) : Prop := x = 1 ↔ I 49 18 = -1
theorem FN_1 {x : Int} {I : aI1} (h : FN x I) (hx : x = 1) : I 49 18 = -1 := h.mp hx
theorem FN_0 {x : Int} {I : aI1} (h : FN x I) (hx : x = 0) : NB I := fun g => by have := h.mpr g; omega
def NOP (c : Nat → Int) (r : Int) (I : aI1) : Prop := I 49 18 = -1 → ¬ c (I 49 16).toNat = r
def TK (x : Int) (c : Nat → Int) (r : Int) (I I' : aI1) : Prop := (x = 1 → I 49 18 = -1 ∧ c (I 49 16).toNat = r ∧ I' 49 16 = I 49 16 + 1) ∧ (x = 0 → I' 49 16 = I 49 16 ∧ NOP c r I)
def MU (c : Nat → Int) (r : Int) (I I' : aI1) : Prop := I' 49 18 = -1 → I 49 18 = -1 ∧ c (I 49 16).toNat = r ∧ I' 49 16 = I 49 16 + 1
def LF (I I' : aI1) : Prop := I' 49 18 = -1 → I 49 18 = -1 ∧ I' 49 16 = I 49 16 + 1
theorem TK_1 {x : Int} {c : Nat → Int} {r : Int} {I I' : aI1} (h : TK x c r I I') (hx : x = 1) : I 49 18 = -1 ∧ c (I 49 16).toNat = r ∧ I' 49 16 = I 49 16 + 1 := h.1 hx
theorem TK_0 {x : Int} {c : Nat → Int} {r : Int} {I I' : aI1} (h : TK x c r I I') (hx : x = 0) : I' 49 16 = I 49 16 ∧ NOP c r I := h.2 hx
theorem PI_f {I : aI1} {j : Nat} {v : Int} (h : PI I) (hj : j = 16 ∨ j = 17 ∨ j = 18) (h16 : j = 16 → 0 ≤ v ∧ v ≤ I 49 15) (h18 : j = 18 → -1 ≤ v ∧ v ≤ 400) : PI (up2 I 49 j v) := by
  have e : ∀ q, q ≠ j → up2 I 49 j v 49 q = I 49 q := fun q hq => up2_n _ _ (Or.inr hq)
  have e2 : ∀ a, a ≠ 49 → up2 I 49 j v a = I a := fun a ha => up2_off _ _ _ ha
  unfold PI at h ⊢
  rw [e2 57 (by decide), e2 59 (by decide), e 15 (by omega)]
  refine ⟨h.1, ?_, ?_, h.2.2.2⟩
  · by_cases q : j = 16
    · rw [q, up2_s]; exact h16 q
    · rw [e 16 (by omega)]; exact h.2.1
  · by_cases q : j = 18
    · rw [q, up2_s]; exact h18 q
    · rw [e 18 (by omega)]; exact h.2.2.1
def pvw (I : aI1) (i : Nat) : Int := if (i : Int) < I 49 15 then I 57 i else 0
theorem pvw_tr {rs fs : List Nat} {I I' : aI1} {c : Nat → Int} (h : Ch rs fs I I') (h1 : 15 ∉ fs) (h2 : 57 ∉ rs) (hc : pvw I = c) : pvw I' = c := by
  rw [← hc]
  funext i
  unfold pvw
  rw [h.1 57 (by decide) h2, h.2 15 h1]
theorem pvw_at {I : aI1} {c : Nat → Int} (h : PI I) (hc : pvw I = c) : c (I 49 16).toNat = I 57 (I 49 16).toNat := by
  have h1 := PI_o h
  rw [← hc]
  unfold pvw
  by_cases e : I 49 16 < I 49 15
  · rw [if_pos (by omega)]
  · rw [if_neg (by omega), show I 49 16 = I 49 15 by omega]
    exact h.2.2.2.2.2.symm
def QP (G : Nat → Nat → Prop) (I I' : aI1) : Prop := I' 49 18 = -1 → I 49 18 = -1 ∧ G (I 49 16).toNat (I' 49 16).toNat
theorem QP_no {G : Nat → Nat → Prop} {I I' : aI1} (h : NB I') : QP G I I' := fun g => absurd g h
def GPm (c : Nat → Int) : Nat → Nat → Nat → Prop
  | 0 => GPart (fun _ _ => False) c
  | k + 1 => GPart (GSum c k) c
theorem GSum_eq (c : Nat → Int) (m : Nat) : GSum c m = GSeq (GSeq (GPm c m) opT c) opS c := by cases m <;> rfl
def GPlm (c : Nat → Int) : Nat → Nat → Nat → Prop
  | 0 => GPlain (fun _ _ => False) (GSum c 0) c
  | k + 1 => GPlain (GTest c k) (GSum c (k + 1)) c
theorem GTest_eq (c : Nat → Int) (m : Nat) : GTest c m = GSeq (GSeq (GPlm c m) opA c) opO c := by cases m <;> rfl
theorem QP_br {c : Nat → Int} {m : Nat} {I I1 I2 I3 : aI1} (hb : I 49 18 = -1) (hc : c (I 49 16).toNat = 191) (h0 : 0 ≤ I 49 16) (h1 : I1 49 16 = I 49 16 + 1) (h2 : QP (GSum c m) I1 I2) (h02 : 0 ≤ I2 49 16) {r : Int} (hr : r = 193) (h3 : MU c r I2 I3) : QP (GPm c (m + 1)) I I3 := fun h => by
  obtain ⟨g1, g2, g3⟩ := h3 h
  obtain ⟨-, g4⟩ := h2 g1
  refine ⟨hb, Or.inr ⟨hc, (I2 49 16).toNat, ?_, g2.trans hr, by omega⟩⟩
  rw [show (I 49 16).toNat + 1 = (I1 49 16).toNat by omega]
  exact g4
theorem QP_lf {c : Nat → Int} {m : Nat} {I I1 : aI1} (hb : I 49 18 = -1) (h0 : 0 ≤ I 49 16) (hl : GLeaf c (I 49 16).toNat) (h1 : LF I I1) : QP (GPm c m) I I1 := fun h => by
  have h2 := (h1 h).2
  refine ⟨hb, ?_⟩
  cases m
  · exact Or.inl ⟨hl, by omega⟩
  · exact Or.inl ⟨hl, by omega⟩
def LQ (T : Nat → Nat → Prop) (op : Int → Prop) (c : Nat → Int) (I I5 : aI1) : Prop := I5 49 18 = -1 → I 49 18 = -1 ∧ ∀ b, (∃ n, GRest T op c n (I5 49 16).toNat b) → GSeq T op c (I 49 16).toNat b
theorem LQ_0 {T : Nat → Nat → Prop} {op : Int → Prop} {c : Nat → Int} {I I5 : aI1} (h : QP T I I5) : LQ T op c I I5 := fun g => ⟨(h g).1, fun _ hb => ⟨_, (h g).2, hb⟩⟩
theorem LQ_s {T : Nat → Nat → Prop} {op : Int → Prop} {c : Nat → Int} {I I5 I6 I7 : aI1} (h : LQ T op c I I5) (h0 : 0 ≤ I5 49 16) (ho : op (c (I5 49 16).toNat)) (h6 : I6 49 16 = I5 49 16 + 1) (h8 : I6 49 18 = I5 49 18) (h7 : QP T I6 I7) : LQ T op c I I7 := fun g => by
  obtain ⟨g1, g2⟩ := h7 g
  obtain ⟨g3, g4⟩ := h (by omega)
  refine ⟨g3, fun b hb => g4 b ?_⟩
  obtain ⟨n, hn⟩ := hb
  refine ⟨n + 1, ho, (I7 49 16).toNat, ?_, hn⟩
  rw [show (I5 49 16).toNat + 1 = (I6 49 16).toNat by omega]
  exact g2
theorem LQ_e {T : Nat → Nat → Prop} {op : Int → Prop} {c : Nat → Int} {I I5 I6 : aI1} (h : LQ T op c I I5) (h6 : I6 49 16 = I5 49 16) (h8 : I6 49 18 = I5 49 18) (ho : I5 49 18 = -1 → ¬ op (c (I5 49 16).toNat)) : QP (GSeq T op c) I I6 := fun g => by
  obtain ⟨g1, g2⟩ := h (by omega)
  refine ⟨g1, ?_⟩
  rw [h6]
  exact g2 _ ⟨0, rfl, ho (by omega)⟩
set_option maxHeartbeats 4000000 in
set_option maxRecDepth 20000 in
theorem c_X11_fine (l0 : Launch) {Ia Ja : aI1} {Ra : aR1} {Sa : aS1} (hL : LY Ra Sa) (hQ : RX Ia) (hP : PI Ia)  : CT l0 0 0 0 mX11_fine [kR (some 49)] Ia Ja Ra Sa (cI (fun x I' J' => Ia = I' ∧ Ja = J' ∧ (0 ≤ x ∧ x ≤ 1) ∧ FN x Ia) Ra Sa) := by
  refine ct_in pn_X11 (Nat.le_of_ble_eq_true rfl) (fun X hX hT hIn => ?_)
  have hX : aK l0 X cX11_fine 1 RX11 (some .boolean) 0 0 0 := hX
  change WW X 0 [some (kR (some 49))] [] Ia Ja Ra Sa 0 0
  have qIa := RX_w hQ
  have oIa := PI_o hP
  have tIa := PI_t hP
  refine ww_aload_n hX (pc := 0) dX11_fine_0 rfl ?_
  refine ww_getI hX (pc := 1) fX11_155 (by decide) (xs_49 hL) dX11_fine_1 ?_
  refine ww_iconst hX (pc := 4) (x := (-1)) dX11_fine_4 rfl ?_
  refine ww_icmp_ne hX (pc := 5) (tgt := 12) dX11_fine_5 (by decide) (fun h_5 => ?_) (fun h_5 => ?_)
  · simp only [w32_mod] at h_5
    refine ww_iconst hX (pc := 12) (x := 0) dX11_fine_12 rfl ?_
    refine rZ hX (pc := 13) hT (Nat.le_refl 0) (Nat.le_refl 0) dX11_fine_13 (by decide) ?_
    exact ⟨rfl, rfl, by omega, (by unfold FN; omega)⟩
  · simp only [w32_mod] at h_5
    refine ww_iconst hX (pc := 8) (x := 1) dX11_fine_8 rfl ?_
    refine ww_goto hX (pc := 9) (tgt := 13) dX11_fine_9 (by decide) ?_
    refine rZ hX (pc := 13) hT (Nat.le_refl 0) (Nat.le_refl 0) dX11_fine_13 (by decide) ?_
    exact ⟨rfl, rfl, by omega, (by unfold FN; omega)⟩
set_option maxHeartbeats 4000000 in
set_option maxRecDepth 20000 in
theorem c_X11_faults (l0 : Launch) {Ia Ja : aI1} {Ra : aR1} {Sa : aS1} (hL : LY Ra Sa) (hQ : RX Ia) (hP : PI Ia)  : CT l0 1 0 0 mX11_faults [kR (some 49)] Ia Ja Ra Sa (cV (fun I' J' => Ch [] [18] Ia I' ∧ Kp 49 73 Ja J' ∧ RX I' ∧ PI I' ∧ I' 49 16 = Ia 49 16 ∧ NB I') Ra Sa) := by
  refine ct_in pn_X11 (Nat.le_of_ble_eq_true rfl) (fun X hX hT hIn => ?_)
  have hX : aK l0 X cX11_faults 1 RX11 none 1 0 0 := hX
  change WW X 0 [some (kR (some 49))] [] Ia Ja Ra Sa 0 0
  have qIa := RX_w hQ
  have oIa := PI_o hP
  have tIa := PI_t hP
  refine ww_aload_n hX (pc := 0) dX11_faults_0 rfl ?_
  refine vI0 hX (pc := 1) sX11_158 (xs_49 hL) (c_X11_fine l0 hL hQ  hP) (by decide) (Nat.le_refl 0) (Nat.le_refl 0) (Nat.le_of_ble_eq_true rfl) dX11_faults_1 (fun x_1 I_1 J_1 h_1 => ?_)
  obtain ⟨rfl, rfl, h_1⟩ := h_1
  refine ww_if_eq hX (pc := 4) (tgt := 20) dX11_faults_4 (by decide) (fun h_4 => ?_) (fun h_4 => ?_)
  · simp only [w32_mod] at h_4
    have nb := FN_0 h_1.2 (by omega)
    refine rV hX (pc := 20) hT (Nat.le_refl 0) (Nat.le_refl 0) dX11_faults_20 ?_
    exact ⟨Ch_rf, (Kp_rf (a := 49) (b := 73)), hQ, hP, by omega, nb⟩
  · simp only [w32_mod] at h_4
    have bb := FN_1 h_1.2 (by omega)
    refine ww_aload_n hX (pc := 7) dX11_faults_7 rfl ?_
    refine ww_aload_n hX (pc := 8) dX11_faults_8 rfl ?_
    refine ww_getR hX (pc := 9) fX11_49 (by decide) (xs_49 hL) (xr_49_14 hL) dX11_faults_9 ?_
    refine ww_aload_n hX (pc := 12) dX11_faults_12 rfl ?_
    refine ww_getI hX (pc := 13) fX11_162 (by decide) (xs_49 hL) dX11_faults_13 ?_
    refine ww_iald hX (pc := 16) (xs_59 hL) (by decide) (by omega) (by omega) dX11_faults_16 ?_
    refine ww_putI hX (pc := 17) (fun h9 => absurd h9 (by decide)) gX11_155 rfl (xs_49 hL) dX11_faults_17 ?_
    refine ww_nmH (fun I_17 eI_17 => ?_)
    have kI_17 : Ch [] [18] Ia I_17 := by rw [eI_17]; exact Ch_f Ch_rf (by decide)
    have cI_17 : RX I_17 := by rw [eI_17]; exact RX_f hQ (by decide)
    have qI_17 := RX_w cI_17
    have f15_I_17 : I_17 49 15 = Ia 49 15 := by rw [eI_17, up2_n _ _ (Or.inr (by decide))]
    have f16_I_17 : I_17 49 16 = Ia 49 16 := by rw [eI_17, up2_n _ _ (Or.inr (by decide))]
    have f17_I_17 : I_17 49 17 = Ia 49 17 := by rw [eI_17, up2_n _ _ (Or.inr (by decide))]
    have w18 : I_17 49 18 = Ia 59 (Ia 49 16).toNat := by rw [eI_17, up2_s]
    have pI_17 : PI I_17 := by rw [eI_17]; exact PI_f hP (by decide) (fun h => absurd h (by decide)) (fun _ => ⟨by omega, by omega⟩)
    have oI_17 := PI_o pI_17
    refine rV hX (pc := 20) hT (Nat.le_refl 0) (Nat.le_refl 0) dX11_faults_20 ?_
    exact ⟨kI_17, (Kp_rf (a := 49) (b := 73)), cI_17, pI_17, by omega, by unfold NB; omega⟩
set_option maxHeartbeats 4000000 in
set_option maxRecDepth 20000 in
theorem c_X11_takes0 (l0 : Launch) {Ia Ja : aI1} {Ra : aR1} {Sa : aS1} (hL : LY Ra Sa) (hQ : RX Ia) {r : Int} (hP : PI Ia) {c : Nat → Int} (hc : pvw Ia = c) (hr0 : 1 ≤ r) (hr1 : r ≤ 400)  : CT l0 1 0 0 mX11_takes0 [kR (some 49), kI r] Ia Ja Ra Sa (cI (fun x I' J' => Ch [] [16] Ia I' ∧ Kp 49 73 Ja J' ∧ RX I' ∧ PI I' ∧ (0 ≤ x ∧ x ≤ 1) ∧ I' 49 18 = Ia 49 18 ∧ (Ia 49 16 ≤ I' 49 16 ∧ I' 49 16 ≤ Ia 49 16 + 1) ∧ TK x c r Ia I') Ra Sa) := by
  refine ct_in pn_X11 (Nat.le_of_ble_eq_true rfl) (fun X hX hT hIn => ?_)
  have hX : aK l0 X cX11_takes0 3 RX11 (some .boolean) 1 0 0 := hX
  change WW X 0 [some (kR (some 49)), some (kI r), none] [] Ia Ja Ra Sa 0 0
  have qIa := RX_w hQ
  have oIa := PI_o hP
  have tIa := PI_t hP
  have atIa := pvw_at hP hc
  refine ww_aload_n hX (pc := 0) dX11_takes0_0 rfl ?_
  refine vI0 hX (pc := 1) sX11_158 (xs_49 hL) (c_X11_fine l0 hL hQ  hP) (by decide) (Nat.le_refl 0) (Nat.le_refl 0) (Nat.le_of_ble_eq_true rfl) dX11_takes0_1 (fun x_1 I_1 J_1 h_1 => ?_)
  obtain ⟨rfl, rfl, h_1⟩ := h_1
  refine ww_if_eq hX (pc := 4) (tgt := 24) dX11_takes0_4 (by decide) (fun h_4 => ?_) (fun h_4 => ?_)
  · simp only [w32_mod] at h_4
    have nb := FN_0 h_1.2 (by omega)
    refine ww_iconst hX (pc := 24) (x := 0) dX11_takes0_24 rfl ?_
    refine ww_istore_n hX (pc := 25) (lv' := [some (kR (some 49)), some (kI r), some (kI 0)]) dX11_takes0_25 (by decide) rfl rfl ?_
    refine ww_iload_n hX (pc := 26) dX11_takes0_26 rfl ?_
    refine ww_if_eq hX (pc := 27) (tgt := 40) dX11_takes0_27 (by decide) (fun h_27 => ?_) (fun h_27 => ?_)
    · simp only [w32_mod] at h_27
      refine ww_iload_n hX (pc := 40) dX11_takes0_40 rfl ?_
      refine rZ hX (pc := 41) hT (Nat.le_refl 0) (Nat.le_refl 0) dX11_takes0_41 (by decide) ?_
      exact ⟨Ch_rf, (Kp_rf (a := 49) (b := 73)), hQ, hP, by omega, by omega, by omega, ⟨fun h => absurd h (by decide), fun _ => ⟨by omega, fun g => absurd g nb⟩⟩⟩
    · simp only [w32_mod] at h_27
      exfalso
      omega
  · simp only [w32_mod] at h_4
    have bb := FN_1 h_1.2 (by omega)
    refine ww_aload_n hX (pc := 7) dX11_takes0_7 rfl ?_
    refine ww_getR hX (pc := 8) fX11_43 (by decide) (xs_49 hL) (xr_49_12 hL) dX11_takes0_8 ?_
    refine ww_aload_n hX (pc := 11) dX11_takes0_11 rfl ?_
    refine ww_getI hX (pc := 12) fX11_162 (by decide) (xs_49 hL) dX11_takes0_12 ?_
    refine ww_iald hX (pc := 15) (xs_57 hL) (by decide) (by omega) (by omega) dX11_takes0_15 ?_
    refine ww_iload_n hX (pc := 16) dX11_takes0_16 rfl ?_
    refine ww_icmp_ne hX (pc := 17) (tgt := 24) dX11_takes0_17 (by decide) (fun h_17 => ?_) (fun h_17 => ?_)
    · simp only [w32_mod] at h_17
      refine ww_iconst hX (pc := 24) (x := 0) dX11_takes0_24 rfl ?_
      refine ww_istore_n hX (pc := 25) (lv' := [some (kR (some 49)), some (kI r), some (kI 0)]) dX11_takes0_25 (by decide) rfl rfl ?_
      refine ww_iload_n hX (pc := 26) dX11_takes0_26 rfl ?_
      refine ww_if_eq hX (pc := 27) (tgt := 40) dX11_takes0_27 (by decide) (fun h_27 => ?_) (fun h_27 => ?_)
      · simp only [w32_mod] at h_27
        refine ww_iload_n hX (pc := 40) dX11_takes0_40 rfl ?_
        refine rZ hX (pc := 41) hT (Nat.le_refl 0) (Nat.le_refl 0) dX11_takes0_41 (by decide) ?_
        exact ⟨Ch_rf, (Kp_rf (a := 49) (b := 73)), hQ, hP, by omega, by omega, by omega, ⟨fun h => absurd h (by decide), fun _ => ⟨by omega, fun g => (by omega)⟩⟩⟩
      · simp only [w32_mod] at h_27
        exfalso
        omega
    · simp only [w32_mod] at h_17
      refine ww_iconst hX (pc := 20) (x := 1) dX11_takes0_20 rfl ?_
      refine ww_goto hX (pc := 21) (tgt := 25) dX11_takes0_21 (by decide) ?_
      refine ww_istore_n hX (pc := 25) (lv' := [some (kR (some 49)), some (kI r), some (kI 1)]) dX11_takes0_25 (by decide) rfl rfl ?_
      refine ww_iload_n hX (pc := 26) dX11_takes0_26 rfl ?_
      refine ww_if_eq hX (pc := 27) (tgt := 40) dX11_takes0_27 (by decide) (fun h_27 => ?_) (fun h_27 => ?_)
      · simp only [w32_mod] at h_27
        exfalso
        omega
      · simp only [w32_mod] at h_27
        refine ww_aload_n hX (pc := 30) dX11_takes0_30 rfl ?_
        refine ww_dupR hX (pc := 31) dX11_takes0_31 ?_
        refine ww_getI hX (pc := 32) fX11_162 (by decide) (xs_49 hL) dX11_takes0_32 ?_
        refine ww_iconst hX (pc := 35) (x := 1) dX11_takes0_35 rfl ?_
        refine ww_iadd hX (pc := 36) dX11_takes0_36 ?_
        refine ww_putI hX (pc := 37) (fun h9 => absurd h9 (by decide)) gX11_162 rfl (xs_49 hL) dX11_takes0_37 ?_
        have lt37 := PI_lt hP (by omega)
        refine ww_nmH (fun I_37 eI_37 => ?_)
        have kI_37 : Ch [] [16] Ia I_37 := by rw [eI_37]; exact Ch_f Ch_rf (by decide)
        have cI_37 : RX I_37 := by rw [eI_37]; exact RX_f hQ (by decide)
        have qI_37 := RX_w cI_37
        have f15_I_37 : I_37 49 15 = Ia 49 15 := by rw [eI_37, up2_n _ _ (Or.inr (by decide))]
        have f17_I_37 : I_37 49 17 = Ia 49 17 := by rw [eI_37, up2_n _ _ (Or.inr (by decide))]
        have f18_I_37 : I_37 49 18 = Ia 49 18 := by rw [eI_37, up2_n _ _ (Or.inr (by decide))]
        have w16 : I_37 49 16 = Ia 49 16 + 1 := by rw [eI_37, up2_s]
        have pI_37 : PI I_37 := by rw [eI_37]; exact PI_f hP (by decide) (fun _ => ⟨by omega, by omega⟩) (fun h => absurd h (by decide))
        have oI_37 := PI_o pI_37
        refine ww_iload_n hX (pc := 40) dX11_takes0_40 rfl ?_
        refine rZ hX (pc := 41) hT (Nat.le_refl 0) (Nat.le_refl 0) dX11_takes0_41 (by decide) ?_
        exact ⟨kI_37, (Kp_rf (a := 49) (b := 73)), cI_37, pI_37, by omega, by omega, by omega, ⟨fun _ => ⟨bb, by omega, w16⟩, fun h => absurd h (by decide)⟩⟩
theorem MU_1 {c : Nat → Int} {r : Int} {I I' : aI1} (h : I 49 18 = -1 ∧ c (I 49 16).toNat = r ∧ I' 49 16 = I 49 16 + 1) : MU c r I I' := fun _ => h
theorem MU_0 {c : Nat → Int} {r : Int} {I I' : aI1} (h : NB I') : MU c r I I' := fun g => absurd g h
set_option maxHeartbeats 4000000 in
set_option maxRecDepth 20000 in
theorem c_X11_must (l0 : Launch) {Ia Ja : aI1} {Ra : aR1} {Sa : aS1} (hL : LY Ra Sa) (hQ : RX Ia) {r : Int} (hP : PI Ia) {c : Nat → Int} (hc : pvw Ia = c) (hr0 : 1 ≤ r) (hr1 : r ≤ 400)  : CT l0 2 0 0 mX11_must [kR (some 49), kI r] Ia Ja Ra Sa (cV (fun I' J' => Ch [] [16, 18] Ia I' ∧ Kp 49 73 Ja J' ∧ RX I' ∧ PI I' ∧ Ia 49 16 ≤ I' 49 16 ∧ MU c r Ia I') Ra Sa) := by
  refine ct_in pn_X11 (Nat.le_of_ble_eq_true rfl) (fun X hX hT hIn => ?_)
  have hX : aK l0 X cX11_must 2 RX11 none 2 0 0 := hX
  change WW X 0 [some (kR (some 49)), some (kI r)] [] Ia Ja Ra Sa 0 0
  have qIa := RX_w hQ
  have oIa := PI_o hP
  have tIa := PI_t hP
  have atIa := pvw_at hP hc
  refine ww_aload_n hX (pc := 0) dX11_must_0 rfl ?_
  refine ww_iload_n hX (pc := 1) dX11_must_1 rfl ?_
  refine vI1 hX (pc := 2) sX11_165 (xs_49 hL) (c_X11_takes0 l0 hL hQ  hP hc (by omega) (by omega)) (by decide) (Nat.le_refl 0) (Nat.le_refl 0) (Nat.le_of_ble_eq_true rfl) dX11_must_2 (fun x_2 I_2 J_2 h_2 => ?_)
  have kJ_2 : Kp 49 73 Ja J_2 := Kp_tr (Kp_rf (a := 49) (b := 73)) h_2.2.1
  have kI_2 : Ch [] [16, 18] Ia I_2 := Ch_tr Ch_rf (Ch_wd h_2.1 (by decide) (by decide))
  have cI_2 : RX I_2 := h_2.2.2.1
  have qI_2 := RX_w cI_2
  have f15_I_2 : I_2 49 15 = Ia 49 15 := h_2.1.2 15 (by decide)
  have f17_I_2 : I_2 49 17 = Ia 49 17 := h_2.1.2 17 (by decide)
  have f18_I_2 : I_2 49 18 = Ia 49 18 := h_2.1.2 18 (by decide)
  have pI_2 : PI I_2 := h_2.2.2.2.1
  have oI_2 := PI_o pI_2
  have yI_2 := h_2.2.2.2.2
  refine ww_if_ne hX (pc := 5) (tgt := 12) dX11_must_5 (by decide) (fun h_5 => ?_) (fun h_5 => ?_)
  · simp only [w32_mod] at h_5
    have s2 := TK_1 yI_2.2.2.2 (by omega)
    refine rV hX (pc := 12) hT (Nat.le_refl 0) (Nat.le_refl 0) dX11_must_12 ?_
    exact ⟨kI_2, kJ_2, cI_2, pI_2, by omega, MU_1 s2⟩
  · simp only [w32_mod] at h_5
    refine ww_aload_n hX (pc := 8) dX11_must_8 rfl ?_
    refine vV0 hX (pc := 9) sX11_168 (xs_49 hL) (c_X11_faults l0 hL cI_2  pI_2) (by decide) (Nat.le_refl 0) (Nat.le_refl 0) (Nat.le_of_ble_eq_true rfl) dX11_must_9 (fun I_9 J_9 h_9 => ?_)
    have kJ_9 : Kp 49 73 Ja J_9 := Kp_tr kJ_2 h_9.2.1
    have kI_9 : Ch [] [16, 18] Ia I_9 := Ch_tr kI_2 (Ch_wd h_9.1 (by decide) (by decide))
    have cI_9 : RX I_9 := h_9.2.2.1
    have qI_9 := RX_w cI_9
    have f15_I_9 : I_9 49 15 = I_2 49 15 := h_9.1.2 15 (by decide)
    have f16_I_9 : I_9 49 16 = I_2 49 16 := h_9.1.2 16 (by decide)
    have f17_I_9 : I_9 49 17 = I_2 49 17 := h_9.1.2 17 (by decide)
    have pI_9 : PI I_9 := h_9.2.2.2.1
    have oI_9 := PI_o pI_9
    have yI_9 := h_9.2.2.2.2
    refine rV hX (pc := 12) hT (Nat.le_refl 0) (Nat.le_refl 0) dX11_must_12 ?_
    exact ⟨kI_9, kJ_9, cI_9, pI_9, by omega, MU_0 yI_9.2⟩
set_option maxHeartbeats 4000000 in
set_option maxRecDepth 20000 in
theorem c_X11_leaf (l0 : Launch) {Ia Ja : aI1} {Ra : aR1} {Sa : aS1} (hL : LY Ra Sa) (hQ : RX Ia) (hP : PI Ia) (hz : 1 ≤ Ia 57 (Ia 49 16).toNat)  : CT l0 2 0 0 mX11_leaf [kR (some 49)] Ia Ja Ra Sa (cV (fun I' J' => Ch [] [16, 17, 18] Ia I' ∧ Kp 49 73 Ja J' ∧ RX I' ∧ PI I' ∧ Ia 49 16 ≤ I' 49 16 ∧ LF Ia I') Ra Sa) := by
  refine ct_in pn_X11 (Nat.le_of_ble_eq_true rfl) (fun X hX hT hIn => ?_)
  have hX : aK l0 X cX11_leaf 1 RX11 none 2 0 0 := hX
  change WW X 0 [some (kR (some 49))] [] Ia Ja Ra Sa 0 0
  have qIa := RX_w hQ
  have oIa := PI_o hP
  have tIa := PI_t hP
  refine ww_aload_n hX (pc := 0) dX11_leaf_0 rfl ?_
  refine ww_getI hX (pc := 1) fX11_171 (by decide) (xs_49 hL) dX11_leaf_1 ?_
  refine ww_bipush hX (pc := 4) (x := 50) dX11_leaf_4 (by decide) ?_
  refine ww_icmp_ne hX (pc := 6) (tgt := 13) dX11_leaf_6 (by decide) (fun h_6 => ?_) (fun h_6 => ?_)
  · simp only [w32_mod] at h_6
    refine ww_aload_n hX (pc := 13) dX11_leaf_13 rfl ?_
    refine ww_dupR hX (pc := 14) dX11_leaf_14 ?_
    refine ww_getI hX (pc := 15) fX11_171 (by decide) (xs_49 hL) dX11_leaf_15 ?_
    refine ww_iconst hX (pc := 18) (x := 1) dX11_leaf_18 rfl ?_
    refine ww_iadd hX (pc := 19) dX11_leaf_19 ?_
    refine ww_putI hX (pc := 20) (fun h9 => absurd h9 (by decide)) gX11_171 rfl (xs_49 hL) dX11_leaf_20 ?_
    refine ww_nmH (fun I_20 eI_20 => ?_)
    have kI_20 : Ch [] [16, 17, 18] Ia I_20 := by rw [eI_20]; exact Ch_f Ch_rf (by decide)
    have cI_20 : RX I_20 := by rw [eI_20]; exact RX_f hQ (by decide)
    have qI_20 := RX_w cI_20
    have f15_I_20 : I_20 49 15 = Ia 49 15 := by rw [eI_20, up2_n _ _ (Or.inr (by decide))]
    have f16_I_20 : I_20 49 16 = Ia 49 16 := by rw [eI_20, up2_n _ _ (Or.inr (by decide))]
    have f18_I_20 : I_20 49 18 = Ia 49 18 := by rw [eI_20, up2_n _ _ (Or.inr (by decide))]
    have h57 : I_20 57 = Ia 57 := by rw [eI_20, up2_off _ _ _ (by decide)]
    have hpv : Ia 57 = Ia 57 := rfl
    have hz2 : 1 ≤ I_20 57 (I_20 49 16).toNat := by rw [h57, hpv, show I_20 49 16 = Ia 49 16 by omega]; exact hz
    have pI_20 : PI I_20 := by rw [eI_20]; exact PI_f hP (by decide) (fun h => absurd h (by decide)) (fun h => absurd h (by decide))
    have oI_20 := PI_o pI_20
    refine ww_aload_n hX (pc := 23) dX11_leaf_23 rfl ?_
    refine vI0 hX (pc := 24) sX11_158 (xs_49 hL) (c_X11_fine l0 hL cI_20  pI_20) (by decide) (Nat.le_refl 0) (Nat.le_refl 0) (Nat.le_of_ble_eq_true rfl) dX11_leaf_24 (fun x_24 I_24 J_24 h_24 => ?_)
    obtain ⟨rfl, rfl, h_24⟩ := h_24
    refine ww_if_eq hX (pc := 27) (tgt := 40) dX11_leaf_27 (by decide) (fun h_27 => ?_) (fun h_27 => ?_)
    · simp only [w32_mod] at h_27
      have nb := FN_0 h_24.2 (by omega)
      refine rV hX (pc := 40) hT (Nat.le_refl 0) (Nat.le_refl 0) dX11_leaf_40 ?_
      exact ⟨kI_20, (Kp_rf (a := 49) (b := 73)), cI_20, pI_20, by omega, fun g => absurd g nb⟩
    · simp only [w32_mod] at h_27
      have bb := FN_1 h_24.2 (by omega)
      refine ww_aload_n hX (pc := 30) dX11_leaf_30 rfl ?_
      refine ww_dupR hX (pc := 31) dX11_leaf_31 ?_
      refine ww_getI hX (pc := 32) fX11_162 (by decide) (xs_49 hL) dX11_leaf_32 ?_
      refine ww_iconst hX (pc := 35) (x := 1) dX11_leaf_35 rfl ?_
      refine ww_iadd hX (pc := 36) dX11_leaf_36 ?_
      refine ww_putI hX (pc := 37) (fun h9 => absurd h9 (by decide)) gX11_162 rfl (xs_49 hL) dX11_leaf_37 ?_
      have lt37 := PI_lt pI_20 (by omega)
      refine ww_nmH (fun I_37 eI_37 => ?_)
      have kI_37 : Ch [] [16, 17, 18] Ia I_37 := by rw [eI_37]; exact Ch_f kI_20 (by decide)
      have cI_37 : RX I_37 := by rw [eI_37]; exact RX_f cI_20 (by decide)
      have qI_37 := RX_w cI_37
      have f15_I_37 : I_37 49 15 = I_20 49 15 := by rw [eI_37, up2_n _ _ (Or.inr (by decide))]
      have f17_I_37 : I_37 49 17 = I_20 49 17 := by rw [eI_37, up2_n _ _ (Or.inr (by decide))]
      have f18_I_37 : I_37 49 18 = I_20 49 18 := by rw [eI_37, up2_n _ _ (Or.inr (by decide))]
      have w16 : I_37 49 16 = I_20 49 16 + 1 := by rw [eI_37, up2_s]
      have pI_37 : PI I_37 := by rw [eI_37]; exact PI_f pI_20 (by decide) (fun _ => ⟨by omega, by omega⟩) (fun h => absurd h (by decide))
      have oI_37 := PI_o pI_37
      refine rV hX (pc := 40) hT (Nat.le_refl 0) (Nat.le_refl 0) dX11_leaf_40 ?_
      exact ⟨kI_37, (Kp_rf (a := 49) (b := 73)), cI_37, pI_37, by omega, fun _ => ⟨by omega, by omega⟩⟩
  · simp only [w32_mod] at h_6
    refine ww_aload_n hX (pc := 9) dX11_leaf_9 rfl ?_
    refine vV0 hX (pc := 10) sX11_168 (xs_49 hL) (c_X11_faults l0 hL hQ  hP) (by decide) (Nat.le_refl 0) (Nat.le_refl 0) (Nat.le_of_ble_eq_true rfl) dX11_leaf_10 (fun I_10 J_10 h_10 => ?_)
    have kJ_10 : Kp 49 73 Ja J_10 := Kp_tr (Kp_rf (a := 49) (b := 73)) h_10.2.1
    have kI_10 : Ch [] [16, 17, 18] Ia I_10 := Ch_tr Ch_rf (Ch_wd h_10.1 (by decide) (by decide))
    have cI_10 : RX I_10 := h_10.2.2.1
    have qI_10 := RX_w cI_10
    have f15_I_10 : I_10 49 15 = Ia 49 15 := h_10.1.2 15 (by decide)
    have f16_I_10 : I_10 49 16 = Ia 49 16 := h_10.1.2 16 (by decide)
    have f17_I_10 : I_10 49 17 = Ia 49 17 := h_10.1.2 17 (by decide)
    have pI_10 : PI I_10 := h_10.2.2.2.1
    have oI_10 := PI_o pI_10
    have yI_10 := h_10.2.2.2.2
    refine ww_aload_n hX (pc := 13) dX11_leaf_13 rfl ?_
    refine ww_dupR hX (pc := 14) dX11_leaf_14 ?_
    refine ww_getI hX (pc := 15) fX11_171 (by decide) (xs_49 hL) dX11_leaf_15 ?_
    refine ww_iconst hX (pc := 18) (x := 1) dX11_leaf_18 rfl ?_
    refine ww_iadd hX (pc := 19) dX11_leaf_19 ?_
    refine ww_putI hX (pc := 20) (fun h9 => absurd h9 (by decide)) gX11_171 rfl (xs_49 hL) dX11_leaf_20 ?_
    refine ww_nmH (fun I_20 eI_20 => ?_)
    have kI_20 : Ch [] [16, 17, 18] Ia I_20 := by rw [eI_20]; exact Ch_f kI_10 (by decide)
    have cI_20 : RX I_20 := by rw [eI_20]; exact RX_f cI_10 (by decide)
    have qI_20 := RX_w cI_20
    have f15_I_20 : I_20 49 15 = I_10 49 15 := by rw [eI_20, up2_n _ _ (Or.inr (by decide))]
    have f16_I_20 : I_20 49 16 = I_10 49 16 := by rw [eI_20, up2_n _ _ (Or.inr (by decide))]
    have f18_I_20 : I_20 49 18 = I_10 49 18 := by rw [eI_20, up2_n _ _ (Or.inr (by decide))]
    have h57 : I_20 57 = I_10 57 := by rw [eI_20, up2_off _ _ _ (by decide)]
    have hpv : I_10 57 = Ia 57 := h_10.1.1 57 (by decide) (by decide)
    have hz2 : 1 ≤ I_20 57 (I_20 49 16).toNat := by rw [h57, hpv, show I_20 49 16 = Ia 49 16 by omega]; exact hz
    have pI_20 : PI I_20 := by rw [eI_20]; exact PI_f pI_10 (by decide) (fun h => absurd h (by decide)) (fun h => absurd h (by decide))
    have oI_20 := PI_o pI_20
    refine ww_aload_n hX (pc := 23) dX11_leaf_23 rfl ?_
    refine vI0 hX (pc := 24) sX11_158 (xs_49 hL) (c_X11_fine l0 hL cI_20  pI_20) (by decide) (Nat.le_refl 0) (Nat.le_refl 0) (Nat.le_of_ble_eq_true rfl) dX11_leaf_24 (fun x_24 I_24 J_24 h_24 => ?_)
    obtain ⟨rfl, rfl, h_24⟩ := h_24
    refine ww_if_eq hX (pc := 27) (tgt := 40) dX11_leaf_27 (by decide) (fun h_27 => ?_) (fun h_27 => ?_)
    · simp only [w32_mod] at h_27
      have nb := FN_0 h_24.2 (by omega)
      refine rV hX (pc := 40) hT (Nat.le_refl 0) (Nat.le_refl 0) dX11_leaf_40 ?_
      exact ⟨kI_20, kJ_10, cI_20, pI_20, by omega, fun g => absurd g nb⟩
    · simp only [w32_mod] at h_27
      have bb := FN_1 h_24.2 (by omega)
      exact absurd (show I_10 49 18 = -1 by omega) yI_10.2
end
section
def NQ (c : Nat → Int) (I I5 : aI1) : Prop := I5 49 18 = -1 → I 49 18 = -1 ∧ ∀ (Q : Nat → Nat → Prop) (b : Nat), (∃ n, GNots Q c n (I5 49 16).toNat b) → ∃ n, GNots Q c n (I 49 16).toNat b
theorem NQ_0 {c : Nat → Int} {I : aI1} : NQ c I I := fun h => ⟨h, fun _ _ g => g⟩
theorem NQ_t {c : Nat → Int} {I I5 I6 : aI1} {x : Int} (h : NQ c I I5) (h0 : 0 ≤ I5 49 16) (hx : 0 ≤ x ∧ x ≤ 1) (ht : TK x c 5 I5 I6) (h8 : I6 49 18 = I5 49 18) : NQ c I I6 := fun g => by
  obtain ⟨g1, g2⟩ := h (by omega)
  refine ⟨g1, fun Q b hb => g2 Q b ?_⟩
  rcases (show x = 0 ∨ x = 1 by omega) with hx | hx
  · rw [(TK_0 ht hx).1] at hb
    exact hb
  · obtain ⟨n, hn⟩ := hb
    obtain ⟨-, e1, e2⟩ := TK_1 ht hx
    refine ⟨n + 1, e1, ?_⟩
    rw [show (I5 49 16).toNat + 1 = (I6 49 16).toNat by omega]
    exact hn
theorem NO5 {c : Nat → Int} {I5 I6 : aI1} {x : Int} (ht : TK x c 5 I5 I6) (h8 : I6 49 18 = I5 49 18) : x = 0 → NOP c 5 I6 := fun hx g => by
  obtain ⟨e1, e2⟩ := TK_0 ht hx
  rw [e1]
  exact e2 (by omega)
def F5 (x : Int) (c : Nat → Int) (I : aI1) : Prop := x = 0 → NOP c 5 I
/-- the sign between two sums was taken -/
def SG (I3 I4 : aI1) : Prop := I4 49 18 = -1 → I3 49 18 = -1 ∧ I4 49 16 = I3 49 16 + 1
theorem SG_t {c : Nat → Int} {r : Int} {I3 I4 : aI1} (h : I3 49 18 = -1 ∧ c (I3 49 16).toNat = r ∧ I4 49 16 = I3 49 16 + 1) : SG I3 I4 := fun _ => ⟨h.1, h.2.2⟩
theorem SG_k {c : Nat → Int} {r : Int} {I2 I3 I4 : aI1} (h : MU c r I3 I4) (e16 : I3 49 16 = I2 49 16) (e18 : I3 49 18 = I2 49 18) : SG I2 I4 := fun g => by
  obtain ⟨a, -, b⟩ := h g
  exact ⟨by omega, by omega⟩
theorem PL_br {c : Nat → Int} {m : Nat} {I I2 I1 I3 I4 : aI1} (hn : NQ c I I2) (hb : I2 49 18 = -1) (h0 : 0 ≤ I2 49 16) (hc : c (I2 49 16).toNat = 140) (h1 : I1 49 16 = I2 49 16 + 1) (h2 : QP (GTest c m) I1 I3) (h03 : 0 ≤ I3 49 16) {r : Int} (hr : r = 141) (h3 : MU c r I3 I4) : QP (GPlm c (m + 1)) I I4 := fun h => by
  obtain ⟨g1, g2, g3⟩ := h3 h
  obtain ⟨-, g4⟩ := h2 g1
  obtain ⟨q1, q2⟩ := hn hb
  refine ⟨q1, q2 _ _ ⟨0, by omega, Or.inl ⟨hc, (I3 49 16).toNat, ?_, g2.trans hr, by omega⟩⟩⟩
  rw [show (I2 49 16).toNat + 1 = (I1 49 16).toNat by omega]
  exact g4
theorem PL_cm {c : Nat → Int} {m : Nat} {I I2 I3 I4 I5 : aI1} (hn : NQ c I I2) (hb : I2 49 18 = -1) (h5 : ¬ c (I2 49 16).toNat = 5) (h140 : ¬ c (I2 49 16).toNat = 140) (h1 : QP (GSum c m) I2 I3) (h03 : 0 ≤ I3 49 16) (h2 : SG I3 I4) (h3 : QP (GSum c m) I4 I5) : QP (GPlm c m) I I5 := fun h => by
  obtain ⟨g1, g2⟩ := h3 h
  obtain ⟨g3, g4⟩ := h2 g1
  obtain ⟨-, g5⟩ := h1 g3
  obtain ⟨q1, q2⟩ := hn hb
  rw [show (I4 49 16).toNat = (I3 49 16).toNat + 1 by omega] at g2
  refine ⟨q1, ?_⟩
  cases m
  · exact q2 _ _ ⟨0, h5, Or.inr ⟨h140, (I3 49 16).toNat, g5, g2⟩⟩
  · exact q2 _ _ ⟨0, h5, Or.inr ⟨h140, (I3 49 16).toNat, g5, g2⟩⟩
theorem QP_c1 {c : Nat → Int} {I I1 I2 I3 I4 : aI1} (h0 : 0 ≤ I 49 16) (h1 : MU c 1 I I1) (h2 : QP (GSum c 8) I1 I2) (h02 : 0 ≤ I2 49 16) (h18 : I3 49 18 = I2 49 18) (h3 : I2 49 18 = -1 ∧ c (I2 49 16).toNat = 2 ∧ I3 49 16 = I2 49 16 + 1) (h4 : QP (GTest c 8) I3 I4) : QP (GClause c) I I4 := fun h => by
  obtain ⟨g1, g2⟩ := h4 h
  obtain ⟨-, e3, e2⟩ := h3
  obtain ⟨g3, g4⟩ := h2 (by omega)
  obtain ⟨g5, g6, g7⟩ := h1 g3
  rw [show (I3 49 16).toNat = (I2 49 16).toNat + 1 by omega] at g2
  rw [show (I1 49 16).toNat = (I 49 16).toNat + 1 by omega] at g4
  exact ⟨g5, g6, _, g4, Or.inl ⟨e3, g2⟩⟩
theorem QP_c2 {c : Nat → Int} {I I1 I2 I3 : aI1} (h0 : 0 ≤ I 49 16) (h1 : MU c 1 I I1) (h2 : QP (GSum c 8) I1 I2) (e1 : I3 49 18 = I2 49 18) (h3 : I3 49 16 = I2 49 16 ∧ NOP c 2 I2) : QP (GClause c) I I3 := fun h => by
  obtain ⟨e2, h4⟩ := h3
  have g0 : I2 49 18 = -1 := by omega
  obtain ⟨g3, g4⟩ := h2 g0
  obtain ⟨g5, g6, g7⟩ := h1 g3
  rw [show (I1 49 16).toNat = (I 49 16).toNat + 1 by omega] at g4
  exact ⟨g5, g6, _, g4, Or.inr ⟨h4 g0, by rw [e2]⟩⟩
/-- behind a clause -/
def LW (c : Nat → Int) (I5 : aI1) : Prop := I5 49 18 = -1 → ∀ n, ((I5 49 16).toNat = n → LawG c n) ∧ (∀ m, c (I5 49 16).toNat = 159 → GLaw c n m ((I5 49 16).toNat + 1) → LawG c n)
theorem LW_no {c : Nat → Int} {I5 : aI1} (h : NB I5) : LW c I5 := fun g => absurd g h
theorem LW_0 {c : Nat → Int} {I I5 : aI1} (h0 : I 49 16 = 0) (h : QP (GClause c) I I5) : LW c I5 := fun g n => by
  obtain ⟨-, g1⟩ := h g
  rw [h0] at g1
  exact ⟨fun e => ⟨0, by rw [← e]; exact g1⟩, fun m e1 e2 => ⟨m + 1, _, g1, e1, e2⟩⟩
theorem LW_s {c : Nat → Int} {I5 I6 I7 : aI1} (h : LW c I5) (h0 : 0 ≤ I5 49 16) (h1 : c (I5 49 16).toNat = 159) (h6 : I6 49 16 = I5 49 16 + 1) (h8 : I6 49 18 = I5 49 18) (h7 : QP (GClause c) I6 I7) : LW c I7 := fun g n => by
  obtain ⟨g1, g2⟩ := h7 g
  have g3 := h (by omega)
  rw [show (I6 49 16).toNat = (I5 49 16).toNat + 1 by omega] at g2
  exact ⟨fun e => (g3 n).2 0 h1 (by rw [← e]; exact g2), fun m e1 e2 => (g3 n).2 (m + 1) h1 ⟨_, g2, e1, e2⟩⟩
theorem PI_mk {I5 I : aI1} (h : (0 ≤ I5 49 15 ∧ I5 49 15 ≤ 400) ∧ RG (I5 57) (I5 49 15 + 1) ∧ RG (I5 59) (I5 49 15 + 1) ∧ I5 57 (I5 49 15).toNat = 0) (e57 : I 57 = I5 57) (e59 : I 59 = I5 59) (e15 : I 49 15 = I5 49 15) (e16 : I 49 16 = 0) (e18 : I 49 18 = -1) : PI I := by
  unfold PI
  rw [e57, e59, e15, e16, e18]
  exact ⟨h.1, ⟨by omega, by omega⟩, ⟨by omega, by omega⟩, h.2⟩
def RSum (l0 : Launch) (m : Nat) : Prop := ∀ {Ia Ja : aI1} {Ra : aR1} {Sa : aS1}, LY Ra Sa → RX Ia → PI Ia → ∀ {c : Nat → Int}, pvw Ia = c → CT l0 (3 * m + 5) 0 0 mX11_readSum [kR (some 49), kI (8 - (m : Int))] Ia Ja Ra Sa (cV (fun I' J' => Ch [] [16, 17, 18] Ia I' ∧ Kp 49 73 Ja J' ∧ RX I' ∧ PI I' ∧ QP (GSum c m) Ia I' ∧ Ia 49 16 ≤ I' 49 16) Ra Sa)
def RTest (l0 : Launch) (m : Nat) : Prop := ∀ {Ia Ja : aI1} {Ra : aR1} {Sa : aS1}, LY Ra Sa → RX Ia → PI Ia → ∀ {c : Nat → Int}, pvw Ia = c → CT l0 (3 * m + 8) 0 0 mX11_readTest [kR (some 49), kI (8 - (m : Int))] Ia Ja Ra Sa (cV (fun I' J' => Ch [] [16, 17, 18] Ia I' ∧ Kp 49 73 Ja J' ∧ RX I' ∧ PI I' ∧ QP (GTest c m) Ia I' ∧ Ia 49 16 ≤ I' 49 16) Ra Sa)
set_option maxHeartbeats 4000000 in
set_option maxRecDepth 20000 in
theorem c_X11_readPart (l0 : Launch) {Ia Ja : aI1} {Ra : aR1} {Sa : aS1} (hL : LY Ra Sa) (hQ : RX Ia) (hP : PI Ia) {c : Nat → Int} (hc : pvw Ia = c) {m : Nat} (hm : m ≤ 8) (hrec : ∀ mp, m = mp + 1 → RSum l0 mp)  : CT l0 (3 * m + 3) 0 0 mX11_readPart [kR (some 49), kI (8 - (m : Int))] Ia Ja Ra Sa (cV (fun I' J' => Ch [] [16, 17, 18] Ia I' ∧ Kp 49 73 Ja J' ∧ RX I' ∧ PI I' ∧ QP (GPm c m) Ia I' ∧ Ia 49 16 ≤ I' 49 16) Ra Sa) := by
  refine ct_in pn_X11 (Nat.le_of_ble_eq_true rfl) (fun X hX hT hIn => ?_)
  have hX : aK l0 X cX11_readPart 3 RX11 none (3 * m + 3) 0 0 := hX
  change WW X 0 [some (kR (some 49)), some (kI (8 - (m : Int))), none] [] Ia Ja Ra Sa 0 0
  have qIa := RX_w hQ
  have oIa := PI_o hP
  have tIa := PI_t hP
  have atIa := pvw_at hP hc
  refine ww_aload_n hX (pc := 0) dX11_readPart_0 rfl ?_
  refine vI0 hX (pc := 1) sX11_158 (xs_49 hL) (c_X11_fine l0 hL hQ  hP) (by omega) (Nat.le_refl 0) (Nat.le_refl 0) (Nat.le_of_ble_eq_true rfl) dX11_readPart_1 (fun x_1 I_1 J_1 h_1 => ?_)
  obtain ⟨rfl, rfl, h_1⟩ := h_1
  refine ww_if_ne hX (pc := 4) (tgt := 8) dX11_readPart_4 (by decide) (fun h_4 => ?_) (fun h_4 => ?_)
  · simp only [w32_mod] at h_4
    have bb1 := FN_1 h_1.2 (by omega)
    refine ww_aload_n hX (pc := 8) dX11_readPart_8 rfl ?_
    refine ww_getR hX (pc := 9) fX11_43 (by decide) (xs_49 hL) (xr_49_12 hL) dX11_readPart_9 ?_
    refine ww_aload_n hX (pc := 12) dX11_readPart_12 rfl ?_
    refine ww_getI hX (pc := 13) fX11_162 (by decide) (xs_49 hL) dX11_readPart_13 ?_
    refine ww_iald hX (pc := 16) (xs_57 hL) (by decide) (by omega) (by omega) dX11_readPart_16 ?_
    refine ww_nmI (fun v_17 hv_17 => ?_)
    refine ww_istore_n hX (pc := 17) (lv' := [some (kR (some 49)), some (kI (8 - (m : Int))), some (kI v_17)]) dX11_readPart_17 (by decide) rfl rfl ?_
    refine ww_iload_n hX (pc := 18) dX11_readPart_18 rfl ?_
    refine ww_bipush hX (pc := 19) (x := 91) dX11_readPart_19 (by decide) ?_
    refine sI1 hX (pc := 21) sX11_190 (c_X11_sign l0 ) (by omega) (Nat.le_refl 0) (Nat.le_refl 0) (Nat.le_of_ble_eq_true rfl) dX11_readPart_21 (fun x_21 I_21 J_21 h_21 => ?_)
    obtain ⟨rfl, rfl, h_21⟩ := h_21
    refine ww_icmp_ne hX (pc := 24) (tgt := 74) dX11_readPart_24 (by decide) (fun h_24 => ?_) (fun h_24 => ?_)
    · simp only [w32_mod] at h_24
      refine ww_iload_n hX (pc := 74) dX11_readPart_74 rfl ?_
      refine ww_bipush hX (pc := 75) (x := 50) dX11_readPart_75 (by decide) ?_
      refine ww_icmp_ne hX (pc := 77) (tgt := 95) dX11_readPart_77 (by decide) (fun h_77 => ?_) (fun h_77 => ?_)
      · simp only [w32_mod] at h_77
        refine ww_iload_n hX (pc := 95) dX11_readPart_95 rfl ?_
        refine ww_bipush hX (pc := 96) (x := 6) dX11_readPart_96 (by decide) ?_
        refine ww_icmp_lt hX (pc := 98) (tgt := 114) dX11_readPart_98 (by decide) (fun h_98 => ?_) (fun h_98 => ?_)
        · simp only [w32_mod] at h_98
          refine ww_aload_n hX (pc := 114) dX11_readPart_114 rfl ?_
          refine vV0 hX (pc := 115) sX11_168 (xs_49 hL) (c_X11_faults l0 hL hQ  hP) (by omega) (Nat.le_refl 0) (Nat.le_refl 0) (Nat.le_of_ble_eq_true rfl) dX11_readPart_115 (fun I_115 J_115 h_115 => ?_)
          have kJ_115 : Kp 49 73 Ja J_115 := Kp_tr (Kp_rf (a := 49) (b := 73)) h_115.2.1
          have kI_115 : Ch [] [16, 17, 18] Ia I_115 := Ch_tr Ch_rf (Ch_wd h_115.1 (by decide) (by decide))
          have cI_115 : RX I_115 := h_115.2.2.1
          have qI_115 := RX_w cI_115
          have f15_I_115 : I_115 49 15 = Ia 49 15 := h_115.1.2 15 (by decide)
          have f16_I_115 : I_115 49 16 = Ia 49 16 := h_115.1.2 16 (by decide)
          have f17_I_115 : I_115 49 17 = Ia 49 17 := h_115.1.2 17 (by decide)
          have pI_115 : PI I_115 := h_115.2.2.2.1
          have oI_115 := PI_o pI_115
          have yI_115 := h_115.2.2.2.2
          refine rV hX (pc := 118) hT (Nat.le_refl 0) (Nat.le_refl 0) dX11_readPart_118 ?_
          exact ⟨kI_115, kJ_115, cI_115, pI_115, QP_no yI_115.2, by omega⟩
        · simp only [w32_mod] at h_98
          refine ww_iload_n hX (pc := 101) dX11_readPart_101 rfl ?_
          refine ww_bipush hX (pc := 102) (x := 13) dX11_readPart_102 (by decide) ?_
          refine ww_icmp_gt hX (pc := 104) (tgt := 114) dX11_readPart_104 (by decide) (fun h_104 => ?_) (fun h_104 => ?_)
          · simp only [w32_mod] at h_104
            refine ww_aload_n hX (pc := 114) dX11_readPart_114 rfl ?_
            refine vV0 hX (pc := 115) sX11_168 (xs_49 hL) (c_X11_faults l0 hL hQ  hP) (by omega) (Nat.le_refl 0) (Nat.le_refl 0) (Nat.le_of_ble_eq_true rfl) dX11_readPart_115 (fun I_115 J_115 h_115 => ?_)
            have kJ_115 : Kp 49 73 Ja J_115 := Kp_tr (Kp_rf (a := 49) (b := 73)) h_115.2.1
            have kI_115 : Ch [] [16, 17, 18] Ia I_115 := Ch_tr Ch_rf (Ch_wd h_115.1 (by decide) (by decide))
            have cI_115 : RX I_115 := h_115.2.2.1
            have qI_115 := RX_w cI_115
            have f15_I_115 : I_115 49 15 = Ia 49 15 := h_115.1.2 15 (by decide)
            have f16_I_115 : I_115 49 16 = Ia 49 16 := h_115.1.2 16 (by decide)
            have f17_I_115 : I_115 49 17 = Ia 49 17 := h_115.1.2 17 (by decide)
            have pI_115 : PI I_115 := h_115.2.2.2.1
            have oI_115 := PI_o pI_115
            have yI_115 := h_115.2.2.2.2
            refine rV hX (pc := 118) hT (Nat.le_refl 0) (Nat.le_refl 0) dX11_readPart_118 ?_
            exact ⟨kI_115, kJ_115, cI_115, pI_115, QP_no yI_115.2, by omega⟩
          · simp only [w32_mod] at h_104
            refine ww_aload_n hX (pc := 107) dX11_readPart_107 rfl ?_
            refine vV0 hX (pc := 108) sX11_200 (xs_49 hL) (c_X11_leaf l0 hL hQ  hP (by omega)) (by omega) (Nat.le_refl 0) (Nat.le_refl 0) (Nat.le_of_ble_eq_true rfl) dX11_readPart_108 (fun I_108 J_108 h_108 => ?_)
            have kJ_108 : Kp 49 73 Ja J_108 := Kp_tr (Kp_rf (a := 49) (b := 73)) h_108.2.1
            have kI_108 : Ch [] [16, 17, 18] Ia I_108 := Ch_tr Ch_rf (Ch_wd h_108.1 (by decide) (by decide))
            have cI_108 : RX I_108 := h_108.2.2.1
            have qI_108 := RX_w cI_108
            have f15_I_108 : I_108 49 15 = Ia 49 15 := h_108.1.2 15 (by decide)
            have pI_108 : PI I_108 := h_108.2.2.2.1
            have oI_108 := PI_o pI_108
            have yI_108 := h_108.2.2.2.2
            refine ww_goto hX (pc := 111) (tgt := 118) dX11_readPart_111 (by decide) ?_
            refine rV hX (pc := 118) hT (Nat.le_refl 0) (Nat.le_refl 0) dX11_readPart_118 ?_
            exact ⟨kI_108, kJ_108, cI_108, pI_108, QP_lf bb1 (by omega) (by unfold GLeaf; omega) yI_108.2, by omega⟩
      · simp only [w32_mod] at h_77
        refine ww_aload_n hX (pc := 80) dX11_readPart_80 rfl ?_
        refine ww_getR hX (pc := 81) fX11_46 (by decide) (xs_49 hL) (xr_49_13 hL) dX11_readPart_81 ?_
        refine ww_aload_n hX (pc := 84) dX11_readPart_84 rfl ?_
        refine ww_getI hX (pc := 85) fX11_162 (by decide) (xs_49 hL) dX11_readPart_85 ?_
        refine ww_iald hX (pc := 88) (xs_58 hL) (by decide) (by omega) (by omega) dX11_readPart_88 ?_
        refine ww_sipush hX (pc := 89) (x := 1000) dX11_readPart_89 (by decide) ?_
        refine ww_icmp_le hX (pc := 92) (tgt := 107) dX11_readPart_92 (by decide) (fun h_92 => ?_) (fun h_92 => ?_)
        · simp only [w32_mod] at h_92
          refine ww_aload_n hX (pc := 107) dX11_readPart_107 rfl ?_
          refine vV0 hX (pc := 108) sX11_200 (xs_49 hL) (c_X11_leaf l0 hL hQ  hP (by omega)) (by omega) (Nat.le_refl 0) (Nat.le_refl 0) (Nat.le_of_ble_eq_true rfl) dX11_readPart_108 (fun I_108 J_108 h_108 => ?_)
          have kJ_108 : Kp 49 73 Ja J_108 := Kp_tr (Kp_rf (a := 49) (b := 73)) h_108.2.1
          have kI_108 : Ch [] [16, 17, 18] Ia I_108 := Ch_tr Ch_rf (Ch_wd h_108.1 (by decide) (by decide))
          have cI_108 : RX I_108 := h_108.2.2.1
          have qI_108 := RX_w cI_108
          have f15_I_108 : I_108 49 15 = Ia 49 15 := h_108.1.2 15 (by decide)
          have pI_108 : PI I_108 := h_108.2.2.2.1
          have oI_108 := PI_o pI_108
          have yI_108 := h_108.2.2.2.2
          refine ww_goto hX (pc := 111) (tgt := 118) dX11_readPart_111 (by decide) ?_
          refine rV hX (pc := 118) hT (Nat.le_refl 0) (Nat.le_refl 0) dX11_readPart_118 ?_
          exact ⟨kI_108, kJ_108, cI_108, pI_108, QP_lf bb1 (by omega) (by unfold GLeaf; omega) yI_108.2, by omega⟩
        · simp only [w32_mod] at h_92
          refine ww_iload_n hX (pc := 95) dX11_readPart_95 rfl ?_
          refine ww_bipush hX (pc := 96) (x := 6) dX11_readPart_96 (by decide) ?_
          refine ww_icmp_lt hX (pc := 98) (tgt := 114) dX11_readPart_98 (by decide) (fun h_98 => ?_) (fun h_98 => ?_)
          · simp only [w32_mod] at h_98
            refine ww_aload_n hX (pc := 114) dX11_readPart_114 rfl ?_
            refine vV0 hX (pc := 115) sX11_168 (xs_49 hL) (c_X11_faults l0 hL hQ  hP) (by omega) (Nat.le_refl 0) (Nat.le_refl 0) (Nat.le_of_ble_eq_true rfl) dX11_readPart_115 (fun I_115 J_115 h_115 => ?_)
            have kJ_115 : Kp 49 73 Ja J_115 := Kp_tr (Kp_rf (a := 49) (b := 73)) h_115.2.1
            have kI_115 : Ch [] [16, 17, 18] Ia I_115 := Ch_tr Ch_rf (Ch_wd h_115.1 (by decide) (by decide))
            have cI_115 : RX I_115 := h_115.2.2.1
            have qI_115 := RX_w cI_115
            have f15_I_115 : I_115 49 15 = Ia 49 15 := h_115.1.2 15 (by decide)
            have f16_I_115 : I_115 49 16 = Ia 49 16 := h_115.1.2 16 (by decide)
            have f17_I_115 : I_115 49 17 = Ia 49 17 := h_115.1.2 17 (by decide)
            have pI_115 : PI I_115 := h_115.2.2.2.1
            have oI_115 := PI_o pI_115
            have yI_115 := h_115.2.2.2.2
            refine rV hX (pc := 118) hT (Nat.le_refl 0) (Nat.le_refl 0) dX11_readPart_118 ?_
            exact ⟨kI_115, kJ_115, cI_115, pI_115, QP_no yI_115.2, by omega⟩
          · simp only [w32_mod] at h_98
            refine ww_iload_n hX (pc := 101) dX11_readPart_101 rfl ?_
            refine ww_bipush hX (pc := 102) (x := 13) dX11_readPart_102 (by decide) ?_
            refine ww_icmp_gt hX (pc := 104) (tgt := 114) dX11_readPart_104 (by decide) (fun h_104 => ?_) (fun h_104 => ?_)
            · simp only [w32_mod] at h_104
              refine ww_aload_n hX (pc := 114) dX11_readPart_114 rfl ?_
              refine vV0 hX (pc := 115) sX11_168 (xs_49 hL) (c_X11_faults l0 hL hQ  hP) (by omega) (Nat.le_refl 0) (Nat.le_refl 0) (Nat.le_of_ble_eq_true rfl) dX11_readPart_115 (fun I_115 J_115 h_115 => ?_)
              have kJ_115 : Kp 49 73 Ja J_115 := Kp_tr (Kp_rf (a := 49) (b := 73)) h_115.2.1
              have kI_115 : Ch [] [16, 17, 18] Ia I_115 := Ch_tr Ch_rf (Ch_wd h_115.1 (by decide) (by decide))
              have cI_115 : RX I_115 := h_115.2.2.1
              have qI_115 := RX_w cI_115
              have f15_I_115 : I_115 49 15 = Ia 49 15 := h_115.1.2 15 (by decide)
              have f16_I_115 : I_115 49 16 = Ia 49 16 := h_115.1.2 16 (by decide)
              have f17_I_115 : I_115 49 17 = Ia 49 17 := h_115.1.2 17 (by decide)
              have pI_115 : PI I_115 := h_115.2.2.2.1
              have oI_115 := PI_o pI_115
              have yI_115 := h_115.2.2.2.2
              refine rV hX (pc := 118) hT (Nat.le_refl 0) (Nat.le_refl 0) dX11_readPart_118 ?_
              exact ⟨kI_115, kJ_115, cI_115, pI_115, QP_no yI_115.2, by omega⟩
            · simp only [w32_mod] at h_104
              refine ww_aload_n hX (pc := 107) dX11_readPart_107 rfl ?_
              refine vV0 hX (pc := 108) sX11_200 (xs_49 hL) (c_X11_leaf l0 hL hQ  hP (by omega)) (by omega) (Nat.le_refl 0) (Nat.le_refl 0) (Nat.le_of_ble_eq_true rfl) dX11_readPart_108 (fun I_108 J_108 h_108 => ?_)
              have kJ_108 : Kp 49 73 Ja J_108 := Kp_tr (Kp_rf (a := 49) (b := 73)) h_108.2.1
              have kI_108 : Ch [] [16, 17, 18] Ia I_108 := Ch_tr Ch_rf (Ch_wd h_108.1 (by decide) (by decide))
              have cI_108 : RX I_108 := h_108.2.2.1
              have qI_108 := RX_w cI_108
              have f15_I_108 : I_108 49 15 = Ia 49 15 := h_108.1.2 15 (by decide)
              have pI_108 : PI I_108 := h_108.2.2.2.1
              have oI_108 := PI_o pI_108
              have yI_108 := h_108.2.2.2.2
              refine ww_goto hX (pc := 111) (tgt := 118) dX11_readPart_111 (by decide) ?_
              refine rV hX (pc := 118) hT (Nat.le_refl 0) (Nat.le_refl 0) dX11_readPart_118 ?_
              exact ⟨kI_108, kJ_108, cI_108, pI_108, QP_lf bb1 (by omega) (by unfold GLeaf; omega) yI_108.2, by omega⟩
    · simp only [w32_mod] at h_24
      refine ww_iload_n hX (pc := 27) dX11_readPart_27 rfl ?_
      refine ww_bipush hX (pc := 28) (x := 8) dX11_readPart_28 (by decide) ?_
      refine ww_icmp_ne hX (pc := 30) (tgt := 37) dX11_readPart_30 (by decide) (fun h_30 => ?_) (fun h_30 => ?_)
      · simp only [w32_mod] at h_30
        refine ww_aload_n hX (pc := 37) dX11_readPart_37 rfl ?_
        refine vI0 hX (pc := 38) sX11_158 (xs_49 hL) (c_X11_fine l0 hL hQ  hP) (by omega) (Nat.le_refl 0) (Nat.le_refl 0) (Nat.le_of_ble_eq_true rfl) dX11_readPart_38 (fun x_38 I_38 J_38 h_38 => ?_)
        obtain ⟨rfl, rfl, h_38⟩ := h_38
        refine ww_if_ne hX (pc := 41) (tgt := 45) dX11_readPart_41 (by decide) (fun h_41 => ?_) (fun h_41 => ?_)
        · simp only [w32_mod] at h_41
          have bb38 := FN_1 h_38.2 (by omega)
          obtain ⟨mp, rfl⟩ : ∃ mp, m = mp + 1 := ⟨m - 1, by omega⟩
          refine ww_aload_n hX (pc := 45) dX11_readPart_45 rfl ?_
          refine ww_dupR hX (pc := 46) dX11_readPart_46 ?_
          refine ww_getI hX (pc := 47) fX11_162 (by decide) (xs_49 hL) dX11_readPart_47 ?_
          refine ww_iconst hX (pc := 50) (x := 1) dX11_readPart_50 rfl ?_
          refine ww_iadd hX (pc := 51) dX11_readPart_51 ?_
          refine ww_putI hX (pc := 52) (fun h9 => absurd h9 (by decide)) gX11_162 rfl (xs_49 hL) dX11_readPart_52 ?_
          have lt52 := PI_lt hP (by omega)
          refine ww_nmH (fun I_52 eI_52 => ?_)
          have kI_52 : Ch [] [16, 17, 18] Ia I_52 := by rw [eI_52]; exact Ch_f Ch_rf (by decide)
          have cI_52 : RX I_52 := by rw [eI_52]; exact RX_f hQ (by decide)
          have qI_52 := RX_w cI_52
          have f15_I_52 : I_52 49 15 = Ia 49 15 := by rw [eI_52, up2_n _ _ (Or.inr (by decide))]
          have f17_I_52 : I_52 49 17 = Ia 49 17 := by rw [eI_52, up2_n _ _ (Or.inr (by decide))]
          have f18_I_52 : I_52 49 18 = Ia 49 18 := by rw [eI_52, up2_n _ _ (Or.inr (by decide))]
          have w16_I_52 : I_52 49 16 = Ia 49 16 + 1 := by rw [eI_52, up2_s]
          have pI_52 : PI I_52 := by rw [eI_52]; exact PI_f hP (by decide) (fun _ => ⟨by omega, by omega⟩) (fun h => absurd h (by decide))
          have oI_52 := PI_o pI_52
          refine ww_aload_n hX (pc := 55) dX11_readPart_55 rfl ?_
          refine ww_iload_n hX (pc := 56) dX11_readPart_56 rfl ?_
          refine ww_iconst hX (pc := 57) (x := 1) dX11_readPart_57 rfl ?_
          refine ww_iadd hX (pc := 58) dX11_readPart_58 ?_
          refine ww_toI (show (8 - ((mp + 1 : Nat) : Int)) + 1 = 8 - (mp : Int) by omega) ?_
          refine vV1 hX (pc := 59) sX11_178 (xs_49 hL) (hrec mp rfl hL cI_52 pI_52 (pvw_tr kI_52 (by decide) (by decide) hc)) (by omega) (Nat.le_refl 0) (Nat.le_refl 0) (Nat.le_of_ble_eq_true rfl) dX11_readPart_59 (fun I_59 J_59 h_59 => ?_)
          have kJ_59 : Kp 49 73 Ja J_59 := Kp_tr (Kp_rf (a := 49) (b := 73)) h_59.2.1
          have kI_59 : Ch [] [16, 17, 18] Ia I_59 := Ch_tr kI_52 (Ch_wd h_59.1 (by decide) (by decide))
          have cI_59 : RX I_59 := h_59.2.2.1
          have qI_59 := RX_w cI_59
          have f15_I_59 : I_59 49 15 = I_52 49 15 := h_59.1.2 15 (by decide)
          have pI_59 : PI I_59 := h_59.2.2.2.1
          have oI_59 := PI_o pI_59
          have yI_59 := h_59.2.2.2.2
          refine ww_aload_n hX (pc := 62) dX11_readPart_62 rfl ?_
          refine ww_bipush hX (pc := 63) (x := 93) dX11_readPart_63 (by decide) ?_
          refine sI1 hX (pc := 65) sX11_190 (c_X11_sign l0 ) (by omega) (Nat.le_refl 0) (Nat.le_refl 0) (Nat.le_of_ble_eq_true rfl) dX11_readPart_65 (fun x_65 I_65 J_65 h_65 => ?_)
          obtain ⟨rfl, rfl, h_65⟩ := h_65
          refine vV1 hX (pc := 68) sX11_174 (xs_49 hL) (c_X11_must l0 hL cI_59  pI_59 (pvw_tr kI_59 (by decide) (by decide) hc) (by omega) (by omega)) (by omega) (Nat.le_refl 0) (Nat.le_refl 0) (Nat.le_of_ble_eq_true rfl) dX11_readPart_68 (fun I_68 J_68 h_68 => ?_)
          have kJ_68 : Kp 49 73 Ja J_68 := Kp_tr kJ_59 h_68.2.1
          have kI_68 : Ch [] [16, 17, 18] Ia I_68 := Ch_tr kI_59 (Ch_wd h_68.1 (by decide) (by decide))
          have cI_68 : RX I_68 := h_68.2.2.1
          have qI_68 := RX_w cI_68
          have f15_I_68 : I_68 49 15 = I_59 49 15 := h_68.1.2 15 (by decide)
          have f17_I_68 : I_68 49 17 = I_59 49 17 := h_68.1.2 17 (by decide)
          have pI_68 : PI I_68 := h_68.2.2.2.1
          have oI_68 := PI_o pI_68
          have yI_68 := h_68.2.2.2.2
          refine ww_goto hX (pc := 71) (tgt := 118) dX11_readPart_71 (by decide) ?_
          refine rV hX (pc := 118) hT (Nat.le_refl 0) (Nat.le_refl 0) dX11_readPart_118 ?_
          exact ⟨kI_68, kJ_68, cI_68, pI_68, QP_br bb1 (by omega) (by omega) (by omega) yI_59.1 (by omega) (by omega) yI_68.2, by omega⟩
        · simp only [w32_mod] at h_41
          have nb38 := FN_0 h_38.2 (by omega)
          refine rV hX (pc := 44) hT (Nat.le_refl 0) (Nat.le_refl 0) dX11_readPart_44 ?_
          exact ⟨Ch_rf, (Kp_rf (a := 49) (b := 73)), hQ, hP, QP_no nb38, by omega⟩
      · simp only [w32_mod] at h_30
        refine ww_aload_n hX (pc := 33) dX11_readPart_33 rfl ?_
        refine vV0 hX (pc := 34) sX11_168 (xs_49 hL) (c_X11_faults l0 hL hQ  hP) (by omega) (Nat.le_refl 0) (Nat.le_refl 0) (Nat.le_of_ble_eq_true rfl) dX11_readPart_34 (fun I_34 J_34 h_34 => ?_)
        have kJ_34 : Kp 49 73 Ja J_34 := Kp_tr (Kp_rf (a := 49) (b := 73)) h_34.2.1
        have kI_34 : Ch [] [16, 17, 18] Ia I_34 := Ch_tr Ch_rf (Ch_wd h_34.1 (by decide) (by decide))
        have cI_34 : RX I_34 := h_34.2.2.1
        have qI_34 := RX_w cI_34
        have f15_I_34 : I_34 49 15 = Ia 49 15 := h_34.1.2 15 (by decide)
        have f16_I_34 : I_34 49 16 = Ia 49 16 := h_34.1.2 16 (by decide)
        have f17_I_34 : I_34 49 17 = Ia 49 17 := h_34.1.2 17 (by decide)
        have pI_34 : PI I_34 := h_34.2.2.2.1
        have oI_34 := PI_o pI_34
        have yI_34 := h_34.2.2.2.2
        refine ww_aload_n hX (pc := 37) dX11_readPart_37 rfl ?_
        refine vI0 hX (pc := 38) sX11_158 (xs_49 hL) (c_X11_fine l0 hL cI_34  pI_34) (by omega) (Nat.le_refl 0) (Nat.le_refl 0) (Nat.le_of_ble_eq_true rfl) dX11_readPart_38 (fun x_38 I_38 J_38 h_38 => ?_)
        obtain ⟨rfl, rfl, h_38⟩ := h_38
        refine ww_if_ne hX (pc := 41) (tgt := 45) dX11_readPart_41 (by decide) (fun h_41 => ?_) (fun h_41 => ?_)
        · simp only [w32_mod] at h_41
          have bb38 := FN_1 h_38.2 (by omega)
          exact absurd bb38 yI_34.2
        · simp only [w32_mod] at h_41
          have nb38 := FN_0 h_38.2 (by omega)
          refine rV hX (pc := 44) hT (Nat.le_refl 0) (Nat.le_refl 0) dX11_readPart_44 ?_
          exact ⟨kI_34, kJ_34, cI_34, pI_34, QP_no nb38, by omega⟩
  · simp only [w32_mod] at h_4
    have nb1 := FN_0 h_1.2 (by omega)
    refine rV hX (pc := 7) hT (Nat.le_refl 0) (Nat.le_refl 0) dX11_readPart_7 ?_
    exact ⟨Ch_rf, (Kp_rf (a := 49) (b := 73)), hQ, hP, QP_no nb1, by omega⟩
set_option maxHeartbeats 4000000 in
set_option maxRecDepth 20000 in
theorem c_X11_readTerm (l0 : Launch) {Ia Ja : aI1} {Ra : aR1} {Sa : aS1} (hL : LY Ra Sa) (hQ : RX Ia) (hP : PI Ia) {c : Nat → Int} (hc : pvw Ia = c) {m : Nat} (hm : m ≤ 8) (hrec : ∀ mp, m = mp + 1 → RSum l0 mp)  : CT l0 (3 * m + 4) 0 0 mX11_readTerm [kR (some 49), kI (8 - (m : Int))] Ia Ja Ra Sa (cV (fun I' J' => Ch [] [16, 17, 18] Ia I' ∧ Kp 49 73 Ja J' ∧ RX I' ∧ PI I' ∧ QP (GSeq (GPm c m) opT c) Ia I' ∧ Ia 49 16 ≤ I' 49 16) Ra Sa) := by
  refine ct_in pn_X11 (Nat.le_of_ble_eq_true rfl) (fun X hX hT hIn => ?_)
  have hX : aK l0 X cX11_readTerm 2 RX11 none (3 * m + 4) 0 0 := hX
  change WW X 0 [some (kR (some 49)), some (kI (8 - (m : Int)))] [] Ia Ja Ra Sa 0 0
  have qIa := RX_w hQ
  have oIa := PI_o hP
  have tIa := PI_t hP
  have atIa := pvw_at hP hc
  refine ww_aload_n hX (pc := 0) dX11_readTerm_0 rfl ?_
  refine ww_iload_n hX (pc := 1) dX11_readTerm_1 rfl ?_
  refine vV1 hX (pc := 2) sX11_197 (xs_49 hL) (c_X11_readPart l0 hL hQ  hP hc (m := m) hm hrec) (by omega) (Nat.le_refl 0) (Nat.le_refl 0) (Nat.le_of_ble_eq_true rfl) dX11_readTerm_2 (fun I_2 J_2 h_2 => ?_)
  have kJ_2 : Kp 49 73 Ja J_2 := Kp_tr (Kp_rf (a := 49) (b := 73)) h_2.2.1
  have kI_2 : Ch [] [16, 17, 18] Ia I_2 := Ch_tr Ch_rf (Ch_wd h_2.1 (by decide) (by decide))
  have cI_2 : RX I_2 := h_2.2.2.1
  have qI_2 := RX_w cI_2
  have f15_I_2 : I_2 49 15 = Ia 49 15 := h_2.1.2 15 (by decide)
  have pI_2 : PI I_2 := h_2.2.2.2.1
  have oI_2 := PI_o pI_2
  have yI_2 := h_2.2.2.2.2
  have hl_5 : ∀ (n_5 : Nat) (I5 : aI1) (J5 : aI1), (I5 49 15 - I5 49 16).toNat = n_5 → (Ch [] [16, 17, 18] Ia I5 ∧ RX I5 ∧ Kp 49 73 Ja J5 ∧ I5 49 15 = I_2 49 15 ∧ PI I5 ∧ LQ (GPm c m) opT c Ia I5 ∧ Ia 49 16 ≤ I5 49 16) → WW X 5 [some (kR (some 49)), some (kI (8 - (m : Int)))] [] I5 J5 Ra Sa 0 0 := by
    intro n_5
    induction n_5 using Nat.strongRecOn with
    | ind n_5 ih_5 =>
      intro I5 J5 hm_5 hv_5
      have hq_5 := Sh0_i hm_5
      clear hm_5
      obtain ⟨kI5, cI5, kJ5, f15_I5, pI5, hlq, hmo⟩ := hv_5
      have qI5 := RX_w cI5
      have oI5 := PI_o pI5
      have tI5 := PI_t pI5
      refine ww_aload_n hX (pc := 5) dX11_readTerm_5 rfl ?_
      refine ww_bipush hX (pc := 6) (x := 42) dX11_readTerm_6 (by decide) ?_
      refine sI1 hX (pc := 8) sX11_190 (c_X11_sign l0 ) (by omega) (Nat.le_refl 0) (Nat.le_refl 0) (Nat.le_of_ble_eq_true rfl) dX11_readTerm_8 (fun x_8 I_8 J_8 h_8 => ?_)
      obtain ⟨rfl, rfl, h_8⟩ := h_8
      refine vI1 hX (pc := 11) sX11_165 (xs_49 hL) (c_X11_takes0 l0 hL cI5  pI5 (pvw_tr kI5 (by decide) (by decide) hc) (by omega) (by omega)) (by omega) (Nat.le_refl 0) (Nat.le_refl 0) (Nat.le_of_ble_eq_true rfl) dX11_readTerm_11 (fun x_11 I_11 J_11 h_11 => ?_)
      have kJ_11 : Kp 49 73 Ja J_11 := Kp_tr kJ5 h_11.2.1
      have kI_11 : Ch [] [16, 17, 18] Ia I_11 := Ch_tr kI5 (Ch_wd h_11.1 (by decide) (by decide))
      have cI_11 : RX I_11 := h_11.2.2.1
      have qI_11 := RX_w cI_11
      have f15_I_11 : I_11 49 15 = I5 49 15 := h_11.1.2 15 (by decide)
      have f17_I_11 : I_11 49 17 = I5 49 17 := h_11.1.2 17 (by decide)
      have f18_I_11 : I_11 49 18 = I5 49 18 := h_11.1.2 18 (by decide)
      have pI_11 : PI I_11 := h_11.2.2.2.1
      have oI_11 := PI_o pI_11
      have yI_11 := h_11.2.2.2.2
      refine ww_if_ne hX (pc := 14) (tgt := 41) dX11_readTerm_14 (by decide) (fun h_14 => ?_) (fun h_14 => ?_)
      · simp only [w32_mod] at h_14
        have s11 := TK_1 yI_11.2.2.2 (by omega)
        refine ww_aload_n hX (pc := 41) dX11_readTerm_41 rfl ?_
        refine ww_iload_n hX (pc := 42) dX11_readTerm_42 rfl ?_
        refine vV1 hX (pc := 43) sX11_197 (xs_49 hL) (c_X11_readPart l0 hL cI_11  pI_11 (pvw_tr kI_11 (by decide) (by decide) hc) (m := m) hm hrec) (by omega) (Nat.le_refl 0) (Nat.le_refl 0) (Nat.le_of_ble_eq_true rfl) dX11_readTerm_43 (fun I_43 J_43 h_43 => ?_)
        have kJ_43 : Kp 49 73 Ja J_43 := Kp_tr kJ_11 h_43.2.1
        have kI_43 : Ch [] [16, 17, 18] Ia I_43 := Ch_tr kI_11 (Ch_wd h_43.1 (by decide) (by decide))
        have cI_43 : RX I_43 := h_43.2.2.1
        have qI_43 := RX_w cI_43
        have f15_I_43 : I_43 49 15 = I_11 49 15 := h_43.1.2 15 (by decide)
        have pI_43 : PI I_43 := h_43.2.2.2.1
        have oI_43 := PI_o pI_43
        have yI_43 := h_43.2.2.2.2
        refine ww_goto hX (pc := 46) (tgt := 5) dX11_readTerm_46 (by decide) ?_
        exact ih_5 _ (by have hm9 := Sh0_e hq_5; omega) I_43 J_43 rfl ⟨kI_43, cI_43, kJ_43, by omega, pI_43, LQ_s hlq (by omega) (by unfold opT; omega) (by omega) (by omega) yI_43.1, by omega⟩
      · simp only [w32_mod] at h_14
        obtain ⟨z11, n11⟩ := TK_0 yI_11.2.2.2 (by omega)
        refine ww_aload_n hX (pc := 17) dX11_readTerm_17 rfl ?_
        refine ww_bipush hX (pc := 18) (x := 47) dX11_readTerm_18 (by decide) ?_
        refine sI1 hX (pc := 20) sX11_190 (c_X11_sign l0 ) (by omega) (Nat.le_refl 0) (Nat.le_refl 0) (Nat.le_of_ble_eq_true rfl) dX11_readTerm_20 (fun x_20 I_20 J_20 h_20 => ?_)
        obtain ⟨rfl, rfl, h_20⟩ := h_20
        refine vI1 hX (pc := 23) sX11_165 (xs_49 hL) (c_X11_takes0 l0 hL cI_11  pI_11 (pvw_tr kI_11 (by decide) (by decide) hc) (by omega) (by omega)) (by omega) (Nat.le_refl 0) (Nat.le_refl 0) (Nat.le_of_ble_eq_true rfl) dX11_readTerm_23 (fun x_23 I_23 J_23 h_23 => ?_)
        have kJ_23 : Kp 49 73 Ja J_23 := Kp_tr kJ_11 h_23.2.1
        have kI_23 : Ch [] [16, 17, 18] Ia I_23 := Ch_tr kI_11 (Ch_wd h_23.1 (by decide) (by decide))
        have cI_23 : RX I_23 := h_23.2.2.1
        have qI_23 := RX_w cI_23
        have f15_I_23 : I_23 49 15 = I_11 49 15 := h_23.1.2 15 (by decide)
        have f17_I_23 : I_23 49 17 = I_11 49 17 := h_23.1.2 17 (by decide)
        have f18_I_23 : I_23 49 18 = I_11 49 18 := h_23.1.2 18 (by decide)
        have pI_23 : PI I_23 := h_23.2.2.2.1
        have oI_23 := PI_o pI_23
        have yI_23 := h_23.2.2.2.2
        refine ww_if_ne hX (pc := 26) (tgt := 41) dX11_readTerm_26 (by decide) (fun h_26 => ?_) (fun h_26 => ?_)
        · simp only [w32_mod] at h_26
          have s23 := TK_1 yI_23.2.2.2 (by omega)
          rw [z11] at s23
          refine ww_aload_n hX (pc := 41) dX11_readTerm_41 rfl ?_
          refine ww_iload_n hX (pc := 42) dX11_readTerm_42 rfl ?_
          refine vV1 hX (pc := 43) sX11_197 (xs_49 hL) (c_X11_readPart l0 hL cI_23  pI_23 (pvw_tr kI_23 (by decide) (by decide) hc) (m := m) hm hrec) (by omega) (Nat.le_refl 0) (Nat.le_refl 0) (Nat.le_of_ble_eq_true rfl) dX11_readTerm_43 (fun I_43 J_43 h_43 => ?_)
          have kJ_43 : Kp 49 73 Ja J_43 := Kp_tr kJ_23 h_43.2.1
          have kI_43 : Ch [] [16, 17, 18] Ia I_43 := Ch_tr kI_23 (Ch_wd h_43.1 (by decide) (by decide))
          have cI_43 : RX I_43 := h_43.2.2.1
          have qI_43 := RX_w cI_43
          have f15_I_43 : I_43 49 15 = I_23 49 15 := h_43.1.2 15 (by decide)
          have pI_43 : PI I_43 := h_43.2.2.2.1
          have oI_43 := PI_o pI_43
          have yI_43 := h_43.2.2.2.2
          refine ww_goto hX (pc := 46) (tgt := 5) dX11_readTerm_46 (by decide) ?_
          exact ih_5 _ (by have hm9 := Sh0_e hq_5; omega) I_43 J_43 rfl ⟨kI_43, cI_43, kJ_43, by omega, pI_43, LQ_s hlq (by omega) (by unfold opT; omega) (by omega) (by omega) yI_43.1, by omega⟩
        · simp only [w32_mod] at h_26
          obtain ⟨z23, n23⟩ := TK_0 yI_23.2.2.2 (by omega)
          refine ww_aload_n hX (pc := 29) dX11_readTerm_29 rfl ?_
          refine ww_bipush hX (pc := 30) (x := 37) dX11_readTerm_30 (by decide) ?_
          refine sI1 hX (pc := 32) sX11_190 (c_X11_sign l0 ) (by omega) (Nat.le_refl 0) (Nat.le_refl 0) (Nat.le_of_ble_eq_true rfl) dX11_readTerm_32 (fun x_32 I_32 J_32 h_32 => ?_)
          obtain ⟨rfl, rfl, h_32⟩ := h_32
          refine vI1 hX (pc := 35) sX11_165 (xs_49 hL) (c_X11_takes0 l0 hL cI_23  pI_23 (pvw_tr kI_23 (by decide) (by decide) hc) (by omega) (by omega)) (by omega) (Nat.le_refl 0) (Nat.le_refl 0) (Nat.le_of_ble_eq_true rfl) dX11_readTerm_35 (fun x_35 I_35 J_35 h_35 => ?_)
          have kJ_35 : Kp 49 73 Ja J_35 := Kp_tr kJ_23 h_35.2.1
          have kI_35 : Ch [] [16, 17, 18] Ia I_35 := Ch_tr kI_23 (Ch_wd h_35.1 (by decide) (by decide))
          have cI_35 : RX I_35 := h_35.2.2.1
          have qI_35 := RX_w cI_35
          have f15_I_35 : I_35 49 15 = I_23 49 15 := h_35.1.2 15 (by decide)
          have f17_I_35 : I_35 49 17 = I_23 49 17 := h_35.1.2 17 (by decide)
          have f18_I_35 : I_35 49 18 = I_23 49 18 := h_35.1.2 18 (by decide)
          have pI_35 : PI I_35 := h_35.2.2.2.1
          have oI_35 := PI_o pI_35
          have yI_35 := h_35.2.2.2.2
          refine ww_if_eq hX (pc := 38) (tgt := 49) dX11_readTerm_38 (by decide) (fun h_38 => ?_) (fun h_38 => ?_)
          · simp only [w32_mod] at h_38
            obtain ⟨z35, n35⟩ := TK_0 yI_35.2.2.2 (by omega)
            refine rV hX (pc := 49) hT (Nat.le_refl 0) (Nat.le_refl 0) dX11_readTerm_49 ?_
            exact ⟨kI_35, kJ_35, cI_35, pI_35, (by exact LQ_e hlq (by omega) (by omega) (fun g9 => by have a0 := n11 (by omega); have a1 := n23 (by omega); rw [z11] at a1; have a2 := n35 (by omega); rw [z23] at a2;  rw [z11] at a2; unfold opT; omega)), by omega⟩
          · simp only [w32_mod] at h_38
            have s35 := TK_1 yI_35.2.2.2 (by omega)
            rw [z23] at s35
            rw [z11] at s35
            refine ww_aload_n hX (pc := 41) dX11_readTerm_41 rfl ?_
            refine ww_iload_n hX (pc := 42) dX11_readTerm_42 rfl ?_
            refine vV1 hX (pc := 43) sX11_197 (xs_49 hL) (c_X11_readPart l0 hL cI_35  pI_35 (pvw_tr kI_35 (by decide) (by decide) hc) (m := m) hm hrec) (by omega) (Nat.le_refl 0) (Nat.le_refl 0) (Nat.le_of_ble_eq_true rfl) dX11_readTerm_43 (fun I_43 J_43 h_43 => ?_)
            have kJ_43 : Kp 49 73 Ja J_43 := Kp_tr kJ_35 h_43.2.1
            have kI_43 : Ch [] [16, 17, 18] Ia I_43 := Ch_tr kI_35 (Ch_wd h_43.1 (by decide) (by decide))
            have cI_43 : RX I_43 := h_43.2.2.1
            have qI_43 := RX_w cI_43
            have f15_I_43 : I_43 49 15 = I_35 49 15 := h_43.1.2 15 (by decide)
            have pI_43 : PI I_43 := h_43.2.2.2.1
            have oI_43 := PI_o pI_43
            have yI_43 := h_43.2.2.2.2
            refine ww_goto hX (pc := 46) (tgt := 5) dX11_readTerm_46 (by decide) ?_
            exact ih_5 _ (by have hm9 := Sh0_e hq_5; omega) I_43 J_43 rfl ⟨kI_43, cI_43, kJ_43, by omega, pI_43, LQ_s hlq (by omega) (by unfold opT; omega) (by omega) (by omega) yI_43.1, by omega⟩
  exact hl_5 _ I_2 J_2 rfl ⟨kI_2, cI_2, kJ_2, rfl, pI_2, LQ_0 yI_2.1, by omega⟩
set_option maxHeartbeats 4000000 in
set_option maxRecDepth 20000 in
theorem c_X11_readSum (l0 : Launch) {Ia Ja : aI1} {Ra : aR1} {Sa : aS1} (hL : LY Ra Sa) (hQ : RX Ia) (hP : PI Ia) {c : Nat → Int} (hc : pvw Ia = c) {m : Nat} (hm : m ≤ 8) (hrec : ∀ mp, m = mp + 1 → RSum l0 mp)  : CT l0 (3 * m + 5) 0 0 mX11_readSum [kR (some 49), kI (8 - (m : Int))] Ia Ja Ra Sa (cV (fun I' J' => Ch [] [16, 17, 18] Ia I' ∧ Kp 49 73 Ja J' ∧ RX I' ∧ PI I' ∧ QP (GSum c m) Ia I' ∧ Ia 49 16 ≤ I' 49 16) Ra Sa) := by
  refine ct_in pn_X11 (Nat.le_of_ble_eq_true rfl) (fun X hX hT hIn => ?_)
  have hX : aK l0 X cX11_readSum 2 RX11 none (3 * m + 5) 0 0 := hX
  change WW X 0 [some (kR (some 49)), some (kI (8 - (m : Int)))] [] Ia Ja Ra Sa 0 0
  have qIa := RX_w hQ
  have oIa := PI_o hP
  have tIa := PI_t hP
  have atIa := pvw_at hP hc
  refine ww_aload_n hX (pc := 0) dX11_readSum_0 rfl ?_
  refine ww_iload_n hX (pc := 1) dX11_readSum_1 rfl ?_
  refine vV1 hX (pc := 2) sX11_194 (xs_49 hL) (c_X11_readTerm l0 hL hQ  hP hc (m := m) hm hrec) (by omega) (Nat.le_refl 0) (Nat.le_refl 0) (Nat.le_of_ble_eq_true rfl) dX11_readSum_2 (fun I_2 J_2 h_2 => ?_)
  have kJ_2 : Kp 49 73 Ja J_2 := Kp_tr (Kp_rf (a := 49) (b := 73)) h_2.2.1
  have kI_2 : Ch [] [16, 17, 18] Ia I_2 := Ch_tr Ch_rf (Ch_wd h_2.1 (by decide) (by decide))
  have cI_2 : RX I_2 := h_2.2.2.1
  have qI_2 := RX_w cI_2
  have f15_I_2 : I_2 49 15 = Ia 49 15 := h_2.1.2 15 (by decide)
  have pI_2 : PI I_2 := h_2.2.2.2.1
  have oI_2 := PI_o pI_2
  have yI_2 := h_2.2.2.2.2
  have hl_5 : ∀ (n_5 : Nat) (I5 : aI1) (J5 : aI1), (I5 49 15 - I5 49 16).toNat = n_5 → (Ch [] [16, 17, 18] Ia I5 ∧ RX I5 ∧ Kp 49 73 Ja J5 ∧ I5 49 15 = I_2 49 15 ∧ PI I5 ∧ LQ (GSeq (GPm c m) opT c) opS c Ia I5 ∧ Ia 49 16 ≤ I5 49 16) → WW X 5 [some (kR (some 49)), some (kI (8 - (m : Int)))] [] I5 J5 Ra Sa 0 0 := by
    intro n_5
    induction n_5 using Nat.strongRecOn with
    | ind n_5 ih_5 =>
      intro I5 J5 hm_5 hv_5
      have hq_5 := Sh0_i hm_5
      clear hm_5
      obtain ⟨kI5, cI5, kJ5, f15_I5, pI5, hlq, hmo⟩ := hv_5
      have qI5 := RX_w cI5
      have oI5 := PI_o pI5
      have tI5 := PI_t pI5
      refine ww_aload_n hX (pc := 5) dX11_readSum_5 rfl ?_
      refine ww_bipush hX (pc := 6) (x := 43) dX11_readSum_6 (by decide) ?_
      refine sI1 hX (pc := 8) sX11_190 (c_X11_sign l0 ) (by omega) (Nat.le_refl 0) (Nat.le_refl 0) (Nat.le_of_ble_eq_true rfl) dX11_readSum_8 (fun x_8 I_8 J_8 h_8 => ?_)
      obtain ⟨rfl, rfl, h_8⟩ := h_8
      refine vI1 hX (pc := 11) sX11_165 (xs_49 hL) (c_X11_takes0 l0 hL cI5  pI5 (pvw_tr kI5 (by decide) (by decide) hc) (by omega) (by omega)) (by omega) (Nat.le_refl 0) (Nat.le_refl 0) (Nat.le_of_ble_eq_true rfl) dX11_readSum_11 (fun x_11 I_11 J_11 h_11 => ?_)
      have kJ_11 : Kp 49 73 Ja J_11 := Kp_tr kJ5 h_11.2.1
      have kI_11 : Ch [] [16, 17, 18] Ia I_11 := Ch_tr kI5 (Ch_wd h_11.1 (by decide) (by decide))
      have cI_11 : RX I_11 := h_11.2.2.1
      have qI_11 := RX_w cI_11
      have f15_I_11 : I_11 49 15 = I5 49 15 := h_11.1.2 15 (by decide)
      have f17_I_11 : I_11 49 17 = I5 49 17 := h_11.1.2 17 (by decide)
      have f18_I_11 : I_11 49 18 = I5 49 18 := h_11.1.2 18 (by decide)
      have pI_11 : PI I_11 := h_11.2.2.2.1
      have oI_11 := PI_o pI_11
      have yI_11 := h_11.2.2.2.2
      refine ww_if_ne hX (pc := 14) (tgt := 29) dX11_readSum_14 (by decide) (fun h_14 => ?_) (fun h_14 => ?_)
      · simp only [w32_mod] at h_14
        have s11 := TK_1 yI_11.2.2.2 (by omega)
        refine ww_aload_n hX (pc := 29) dX11_readSum_29 rfl ?_
        refine ww_iload_n hX (pc := 30) dX11_readSum_30 rfl ?_
        refine vV1 hX (pc := 31) sX11_194 (xs_49 hL) (c_X11_readTerm l0 hL cI_11  pI_11 (pvw_tr kI_11 (by decide) (by decide) hc) (m := m) hm hrec) (by omega) (Nat.le_refl 0) (Nat.le_refl 0) (Nat.le_of_ble_eq_true rfl) dX11_readSum_31 (fun I_31 J_31 h_31 => ?_)
        have kJ_31 : Kp 49 73 Ja J_31 := Kp_tr kJ_11 h_31.2.1
        have kI_31 : Ch [] [16, 17, 18] Ia I_31 := Ch_tr kI_11 (Ch_wd h_31.1 (by decide) (by decide))
        have cI_31 : RX I_31 := h_31.2.2.1
        have qI_31 := RX_w cI_31
        have f15_I_31 : I_31 49 15 = I_11 49 15 := h_31.1.2 15 (by decide)
        have pI_31 : PI I_31 := h_31.2.2.2.1
        have oI_31 := PI_o pI_31
        have yI_31 := h_31.2.2.2.2
        refine ww_goto hX (pc := 34) (tgt := 5) dX11_readSum_34 (by decide) ?_
        exact ih_5 _ (by have hm9 := Sh0_e hq_5; omega) I_31 J_31 rfl ⟨kI_31, cI_31, kJ_31, by omega, pI_31, LQ_s hlq (by omega) (by unfold opS; omega) (by omega) (by omega) yI_31.1, by omega⟩
      · simp only [w32_mod] at h_14
        obtain ⟨z11, n11⟩ := TK_0 yI_11.2.2.2 (by omega)
        refine ww_aload_n hX (pc := 17) dX11_readSum_17 rfl ?_
        refine ww_bipush hX (pc := 18) (x := 45) dX11_readSum_18 (by decide) ?_
        refine sI1 hX (pc := 20) sX11_190 (c_X11_sign l0 ) (by omega) (Nat.le_refl 0) (Nat.le_refl 0) (Nat.le_of_ble_eq_true rfl) dX11_readSum_20 (fun x_20 I_20 J_20 h_20 => ?_)
        obtain ⟨rfl, rfl, h_20⟩ := h_20
        refine vI1 hX (pc := 23) sX11_165 (xs_49 hL) (c_X11_takes0 l0 hL cI_11  pI_11 (pvw_tr kI_11 (by decide) (by decide) hc) (by omega) (by omega)) (by omega) (Nat.le_refl 0) (Nat.le_refl 0) (Nat.le_of_ble_eq_true rfl) dX11_readSum_23 (fun x_23 I_23 J_23 h_23 => ?_)
        have kJ_23 : Kp 49 73 Ja J_23 := Kp_tr kJ_11 h_23.2.1
        have kI_23 : Ch [] [16, 17, 18] Ia I_23 := Ch_tr kI_11 (Ch_wd h_23.1 (by decide) (by decide))
        have cI_23 : RX I_23 := h_23.2.2.1
        have qI_23 := RX_w cI_23
        have f15_I_23 : I_23 49 15 = I_11 49 15 := h_23.1.2 15 (by decide)
        have f17_I_23 : I_23 49 17 = I_11 49 17 := h_23.1.2 17 (by decide)
        have f18_I_23 : I_23 49 18 = I_11 49 18 := h_23.1.2 18 (by decide)
        have pI_23 : PI I_23 := h_23.2.2.2.1
        have oI_23 := PI_o pI_23
        have yI_23 := h_23.2.2.2.2
        refine ww_if_eq hX (pc := 26) (tgt := 37) dX11_readSum_26 (by decide) (fun h_26 => ?_) (fun h_26 => ?_)
        · simp only [w32_mod] at h_26
          obtain ⟨z23, n23⟩ := TK_0 yI_23.2.2.2 (by omega)
          refine rV hX (pc := 37) hT (Nat.le_refl 0) (Nat.le_refl 0) dX11_readSum_37 ?_
          exact ⟨kI_23, kJ_23, cI_23, pI_23, (by rw [GSum_eq]; exact LQ_e hlq (by omega) (by omega) (fun g9 => by have a0 := n11 (by omega); have a1 := n23 (by omega); rw [z11] at a1; unfold opS; omega)), by omega⟩
        · simp only [w32_mod] at h_26
          have s23 := TK_1 yI_23.2.2.2 (by omega)
          rw [z11] at s23
          refine ww_aload_n hX (pc := 29) dX11_readSum_29 rfl ?_
          refine ww_iload_n hX (pc := 30) dX11_readSum_30 rfl ?_
          refine vV1 hX (pc := 31) sX11_194 (xs_49 hL) (c_X11_readTerm l0 hL cI_23  pI_23 (pvw_tr kI_23 (by decide) (by decide) hc) (m := m) hm hrec) (by omega) (Nat.le_refl 0) (Nat.le_refl 0) (Nat.le_of_ble_eq_true rfl) dX11_readSum_31 (fun I_31 J_31 h_31 => ?_)
          have kJ_31 : Kp 49 73 Ja J_31 := Kp_tr kJ_23 h_31.2.1
          have kI_31 : Ch [] [16, 17, 18] Ia I_31 := Ch_tr kI_23 (Ch_wd h_31.1 (by decide) (by decide))
          have cI_31 : RX I_31 := h_31.2.2.1
          have qI_31 := RX_w cI_31
          have f15_I_31 : I_31 49 15 = I_23 49 15 := h_31.1.2 15 (by decide)
          have pI_31 : PI I_31 := h_31.2.2.2.1
          have oI_31 := PI_o pI_31
          have yI_31 := h_31.2.2.2.2
          refine ww_goto hX (pc := 34) (tgt := 5) dX11_readSum_34 (by decide) ?_
          exact ih_5 _ (by have hm9 := Sh0_e hq_5; omega) I_31 J_31 rfl ⟨kI_31, cI_31, kJ_31, by omega, pI_31, LQ_s hlq (by omega) (by unfold opS; omega) (by omega) (by omega) yI_31.1, by omega⟩
  exact hl_5 _ I_2 J_2 rfl ⟨kI_2, cI_2, kJ_2, rfl, pI_2, LQ_0 yI_2.1, by omega⟩
theorem c_RSum (l0 : Launch) : ∀ m : Nat, m ≤ 8 → RSum l0 m
  | 0, h => fun hL hQ hP _ hc => c_X11_readSum l0 hL hQ hP hc (m := 0) h (fun mp e => absurd e (by omega))
  | m + 1, h => fun hL hQ hP _ hc => c_X11_readSum l0 hL hQ hP hc (m := m + 1) h (fun mp e => by
      obtain rfl : m = mp := by omega
      exact c_RSum l0 m (by omega))
set_option maxHeartbeats 4000000 in
set_option maxRecDepth 20000 in
theorem c_X11_readPlain (l0 : Launch) {Ia Ja : aI1} {Ra : aR1} {Sa : aS1} (hL : LY Ra Sa) (hQ : RX Ia) (hP : PI Ia) {c : Nat → Int} (hc : pvw Ia = c) {m : Nat} (hm : m ≤ 8) (hrec : ∀ mp, m = mp + 1 → RTest l0 mp)  : CT l0 (3 * m + 6) 0 0 mX11_readPlain [kR (some 49), kI (8 - (m : Int))] Ia Ja Ra Sa (cV (fun I' J' => Ch [] [16, 17, 18] Ia I' ∧ Kp 49 73 Ja J' ∧ RX I' ∧ PI I' ∧ QP (GPlm c m) Ia I' ∧ Ia 49 16 ≤ I' 49 16) Ra Sa) := by
  refine ct_in pn_X11 (Nat.le_of_ble_eq_true rfl) (fun X hX hT hIn => ?_)
  have hX : aK l0 X cX11_readPlain 4 RX11 none (3 * m + 6) 0 0 := hX
  change WW X 0 [some (kR (some 49)), some (kI (8 - (m : Int))), none, none] [] Ia Ja Ra Sa 0 0
  have qIa := RX_w hQ
  have oIa := PI_o hP
  have tIa := PI_t hP
  have atIa := pvw_at hP hc
  refine ww_iconst hX (pc := 0) (x := 1) dX11_readPlain_0 rfl ?_
  refine ww_istore_n hX (pc := 1) (lv' := [some (kR (some 49)), some (kI (8 - (m : Int))), some (kI 1), none]) dX11_readPlain_1 (by decide) rfl rfl ?_
  have hl_2 : ∀ (n_2 : Nat) (fl : Int) (I2 : aI1) (J2 : aI1), (2 * (I2 49 15 - I2 49 16) + fl).toNat = n_2 → (Ch [] [16, 17, 18] Ia I2 ∧ RX I2 ∧ Kp 49 73 Ja J2 ∧ I2 49 15 = Ia 49 15 ∧ PI I2 ∧ (0 ≤ fl ∧ fl ≤ 1) ∧ NQ c Ia I2 ∧ Ia 49 16 ≤ I2 49 16 ∧ F5 fl c I2) → WW X 2 [some (kR (some 49)), some (kI (8 - (m : Int))), some (kI fl), none] [] I2 J2 Ra Sa 0 0 := by
    intro n_2
    induction n_2 using Nat.strongRecOn with
    | ind n_2 ih_2 =>
      intro fl I2 J2 hm_2 hv_2
      have hq_2 := Sh0_i hm_2
      clear hm_2
      obtain ⟨kI2, cI2, kJ2, f15_I2, pI2, hfl, hnq, hmo, hn5⟩ := hv_2
      have qI2 := RX_w cI2
      have oI2 := PI_o pI2
      have tI2 := PI_t pI2
      have tI2 := PI_t pI2
      have atI2 := pvw_at pI2 (pvw_tr kI2 (by decide) (by decide) hc)
      refine ww_iload_n hX (pc := 2) dX11_readPlain_2 rfl ?_
      refine ww_if_eq hX (pc := 3) (tgt := 15) dX11_readPlain_3 (by decide) (fun h_3 => ?_) (fun h_3 => ?_)
      · simp only [w32_mod] at h_3
        have n5 := hn5 (by omega)
        refine ww_aload_n hX (pc := 15) dX11_readPlain_15 rfl ?_
        refine vI0 hX (pc := 16) sX11_158 (xs_49 hL) (c_X11_fine l0 hL cI2  pI2) (by omega) (Nat.le_refl 0) (Nat.le_refl 0) (Nat.le_of_ble_eq_true rfl) dX11_readPlain_16 (fun x_16 I_16 J_16 h_16 => ?_)
        obtain ⟨rfl, rfl, h_16⟩ := h_16
        refine ww_if_ne hX (pc := 19) (tgt := 23) dX11_readPlain_19 (by decide) (fun h_19 => ?_) (fun h_19 => ?_)
        · simp only [w32_mod] at h_19
          have bb16 := FN_1 h_16.2 (by omega)
          have n5 : ¬ c (I2 49 16).toNat = 5 := n5 bb16
          refine ww_aload_n hX (pc := 23) dX11_readPlain_23 rfl ?_
          refine ww_getR hX (pc := 24) fX11_43 (by decide) (xs_49 hL) (xr_49_12 hL) dX11_readPlain_24 ?_
          refine ww_aload_n hX (pc := 27) dX11_readPlain_27 rfl ?_
          refine ww_getI hX (pc := 28) fX11_162 (by decide) (xs_49 hL) dX11_readPlain_28 ?_
          refine ww_iald hX (pc := 31) (xs_57 hL) (by decide) (by omega) (by omega) dX11_readPlain_31 ?_
          refine ww_nmI (fun v_32 hv_32 => ?_)
          refine ww_istore_n hX (pc := 32) (lv' := [some (kR (some 49)), some (kI (8 - (m : Int))), some (kI fl), some (kI v_32)]) dX11_readPlain_32 (by decide) rfl rfl ?_
          refine ww_iload_n hX (pc := 33) dX11_readPlain_33 rfl ?_
          refine ww_bipush hX (pc := 34) (x := 40) dX11_readPlain_34 (by decide) ?_
          refine sI1 hX (pc := 36) sX11_190 (c_X11_sign l0 ) (by omega) (Nat.le_refl 0) (Nat.le_refl 0) (Nat.le_of_ble_eq_true rfl) dX11_readPlain_36 (fun x_36 I_36 J_36 h_36 => ?_)
          obtain ⟨rfl, rfl, h_36⟩ := h_36
          refine ww_icmp_ne hX (pc := 39) (tgt := 89) dX11_readPlain_39 (by decide) (fun h_39 => ?_) (fun h_39 => ?_)
          · simp only [w32_mod] at h_39
            refine ww_aload_n hX (pc := 89) dX11_readPlain_89 rfl ?_
            refine ww_iload_n hX (pc := 90) dX11_readPlain_90 rfl ?_
            refine vV1 hX (pc := 91) sX11_178 (xs_49 hL) (c_RSum l0 m hm hL cI2 pI2 (pvw_tr kI2 (by decide) (by decide) hc)) (by omega) (Nat.le_refl 0) (Nat.le_refl 0) (Nat.le_of_ble_eq_true rfl) dX11_readPlain_91 (fun I_91 J_91 h_91 => ?_)
            have kJ_91 : Kp 49 73 Ja J_91 := Kp_tr kJ2 h_91.2.1
            have kI_91 : Ch [] [16, 17, 18] Ia I_91 := Ch_tr kI2 (Ch_wd h_91.1 (by decide) (by decide))
            have cI_91 : RX I_91 := h_91.2.2.1
            have qI_91 := RX_w cI_91
            have f15_I_91 : I_91 49 15 = I2 49 15 := h_91.1.2 15 (by decide)
            have pI_91 : PI I_91 := h_91.2.2.2.1
            have oI_91 := PI_o pI_91
            have yI_91 := h_91.2.2.2.2
            refine ww_aload_n hX (pc := 94) dX11_readPlain_94 rfl ?_
            refine ww_bipush hX (pc := 95) (x := 60) dX11_readPlain_95 (by decide) ?_
            refine sI1 hX (pc := 97) sX11_190 (c_X11_sign l0 ) (by omega) (Nat.le_refl 0) (Nat.le_refl 0) (Nat.le_of_ble_eq_true rfl) dX11_readPlain_97 (fun x_97 I_97 J_97 h_97 => ?_)
            obtain ⟨rfl, rfl, h_97⟩ := h_97
            refine vI1 hX (pc := 100) sX11_165 (xs_49 hL) (c_X11_takes0 l0 hL cI_91  pI_91 (pvw_tr kI_91 (by decide) (by decide) hc) (by omega) (by omega)) (by omega) (Nat.le_refl 0) (Nat.le_refl 0) (Nat.le_of_ble_eq_true rfl) dX11_readPlain_100 (fun x_100 I_100 J_100 h_100 => ?_)
            have kJ_100 : Kp 49 73 Ja J_100 := Kp_tr kJ_91 h_100.2.1
            have kI_100 : Ch [] [16, 17, 18] Ia I_100 := Ch_tr kI_91 (Ch_wd h_100.1 (by decide) (by decide))
            have cI_100 : RX I_100 := h_100.2.2.1
            have qI_100 := RX_w cI_100
            have f15_I_100 : I_100 49 15 = I_91 49 15 := h_100.1.2 15 (by decide)
            have f17_I_100 : I_100 49 17 = I_91 49 17 := h_100.1.2 17 (by decide)
            have f18_I_100 : I_100 49 18 = I_91 49 18 := h_100.1.2 18 (by decide)
            have pI_100 : PI I_100 := h_100.2.2.2.1
            have oI_100 := PI_o pI_100
            have yI_100 := h_100.2.2.2.2
            refine ww_if_ne hX (pc := 103) (tgt := 127) dX11_readPlain_103 (by decide) (fun h_103 => ?_) (fun h_103 => ?_)
            · simp only [w32_mod] at h_103
              have sg : SG I_91 I_100 := SG_t (TK_1 yI_100.2.2.2 (by omega))
              refine ww_aload_n hX (pc := 127) dX11_readPlain_127 rfl ?_
              refine ww_iload_n hX (pc := 128) dX11_readPlain_128 rfl ?_
              refine vV1 hX (pc := 129) sX11_178 (xs_49 hL) (c_RSum l0 m hm hL cI_100 pI_100 (pvw_tr kI_100 (by decide) (by decide) hc)) (by omega) (Nat.le_refl 0) (Nat.le_refl 0) (Nat.le_of_ble_eq_true rfl) dX11_readPlain_129 (fun I_129 J_129 h_129 => ?_)
              have kJ_129 : Kp 49 73 Ja J_129 := Kp_tr kJ_100 h_129.2.1
              have kI_129 : Ch [] [16, 17, 18] Ia I_129 := Ch_tr kI_100 (Ch_wd h_129.1 (by decide) (by decide))
              have cI_129 : RX I_129 := h_129.2.2.1
              have qI_129 := RX_w cI_129
              have f15_I_129 : I_129 49 15 = I_100 49 15 := h_129.1.2 15 (by decide)
              have pI_129 : PI I_129 := h_129.2.2.2.1
              have oI_129 := PI_o pI_129
              have yI_129 := h_129.2.2.2.2
              refine rV hX (pc := 132) hT (Nat.le_refl 0) (Nat.le_refl 0) dX11_readPlain_132 ?_
              exact ⟨kI_129, kJ_129, cI_129, pI_129, PL_cm hnq bb16 n5 (by omega) yI_91.1 (by omega) sg yI_129.1, by omega⟩
            · simp only [w32_mod] at h_103
              obtain ⟨z100, -⟩ := TK_0 yI_100.2.2.2 (by omega)
              refine ww_aload_n hX (pc := 106) dX11_readPlain_106 rfl ?_
              refine ww_bipush hX (pc := 107) (x := 62) dX11_readPlain_107 (by decide) ?_
              refine sI1 hX (pc := 109) sX11_190 (c_X11_sign l0 ) (by omega) (Nat.le_refl 0) (Nat.le_refl 0) (Nat.le_of_ble_eq_true rfl) dX11_readPlain_109 (fun x_109 I_109 J_109 h_109 => ?_)
              obtain ⟨rfl, rfl, h_109⟩ := h_109
              refine vI1 hX (pc := 112) sX11_165 (xs_49 hL) (c_X11_takes0 l0 hL cI_100  pI_100 (pvw_tr kI_100 (by decide) (by decide) hc) (by omega) (by omega)) (by omega) (Nat.le_refl 0) (Nat.le_refl 0) (Nat.le_of_ble_eq_true rfl) dX11_readPlain_112 (fun x_112 I_112 J_112 h_112 => ?_)
              have kJ_112 : Kp 49 73 Ja J_112 := Kp_tr kJ_100 h_112.2.1
              have kI_112 : Ch [] [16, 17, 18] Ia I_112 := Ch_tr kI_100 (Ch_wd h_112.1 (by decide) (by decide))
              have cI_112 : RX I_112 := h_112.2.2.1
              have qI_112 := RX_w cI_112
              have f15_I_112 : I_112 49 15 = I_100 49 15 := h_112.1.2 15 (by decide)
              have f17_I_112 : I_112 49 17 = I_100 49 17 := h_112.1.2 17 (by decide)
              have f18_I_112 : I_112 49 18 = I_100 49 18 := h_112.1.2 18 (by decide)
              have pI_112 : PI I_112 := h_112.2.2.2.1
              have oI_112 := PI_o pI_112
              have yI_112 := h_112.2.2.2.2
              refine ww_if_ne hX (pc := 115) (tgt := 127) dX11_readPlain_115 (by decide) (fun h_115 => ?_) (fun h_115 => ?_)
              · simp only [w32_mod] at h_115
                have sg : SG I_91 I_112 := SG_t (r := 162) (c := c) (by have s112 := TK_1 yI_112.2.2.2 (by omega); rw [z100] at s112; exact ⟨by omega, by omega, by omega⟩)
                refine ww_aload_n hX (pc := 127) dX11_readPlain_127 rfl ?_
                refine ww_iload_n hX (pc := 128) dX11_readPlain_128 rfl ?_
                refine vV1 hX (pc := 129) sX11_178 (xs_49 hL) (c_RSum l0 m hm hL cI_112 pI_112 (pvw_tr kI_112 (by decide) (by decide) hc)) (by omega) (Nat.le_refl 0) (Nat.le_refl 0) (Nat.le_of_ble_eq_true rfl) dX11_readPlain_129 (fun I_129 J_129 h_129 => ?_)
                have kJ_129 : Kp 49 73 Ja J_129 := Kp_tr kJ_112 h_129.2.1
                have kI_129 : Ch [] [16, 17, 18] Ia I_129 := Ch_tr kI_112 (Ch_wd h_129.1 (by decide) (by decide))
                have cI_129 : RX I_129 := h_129.2.2.1
                have qI_129 := RX_w cI_129
                have f15_I_129 : I_129 49 15 = I_112 49 15 := h_129.1.2 15 (by decide)
                have pI_129 : PI I_129 := h_129.2.2.2.1
                have oI_129 := PI_o pI_129
                have yI_129 := h_129.2.2.2.2
                refine rV hX (pc := 132) hT (Nat.le_refl 0) (Nat.le_refl 0) dX11_readPlain_132 ?_
                exact ⟨kI_129, kJ_129, cI_129, pI_129, PL_cm hnq bb16 n5 (by omega) yI_91.1 (by omega) sg yI_129.1, by omega⟩
              · simp only [w32_mod] at h_115
                obtain ⟨z112, -⟩ := TK_0 yI_112.2.2.2 (by omega)
                refine ww_aload_n hX (pc := 118) dX11_readPlain_118 rfl ?_
                refine ww_bipush hX (pc := 119) (x := 61) dX11_readPlain_119 (by decide) ?_
                refine sI1 hX (pc := 121) sX11_190 (c_X11_sign l0 ) (by omega) (Nat.le_refl 0) (Nat.le_refl 0) (Nat.le_of_ble_eq_true rfl) dX11_readPlain_121 (fun x_121 I_121 J_121 h_121 => ?_)
                obtain ⟨rfl, rfl, h_121⟩ := h_121
                refine vV1 hX (pc := 124) sX11_174 (xs_49 hL) (c_X11_must l0 hL cI_112  pI_112 (pvw_tr kI_112 (by decide) (by decide) hc) (by omega) (by omega)) (by omega) (Nat.le_refl 0) (Nat.le_refl 0) (Nat.le_of_ble_eq_true rfl) dX11_readPlain_124 (fun I_124 J_124 h_124 => ?_)
                have kJ_124 : Kp 49 73 Ja J_124 := Kp_tr kJ_112 h_124.2.1
                have kI_124 : Ch [] [16, 17, 18] Ia I_124 := Ch_tr kI_112 (Ch_wd h_124.1 (by decide) (by decide))
                have cI_124 : RX I_124 := h_124.2.2.1
                have qI_124 := RX_w cI_124
                have f15_I_124 : I_124 49 15 = I_112 49 15 := h_124.1.2 15 (by decide)
                have f17_I_124 : I_124 49 17 = I_112 49 17 := h_124.1.2 17 (by decide)
                have pI_124 : PI I_124 := h_124.2.2.2.1
                have oI_124 := PI_o pI_124
                have yI_124 := h_124.2.2.2.2
                have sg : SG I_91 I_124 := SG_k yI_124.2 (by omega) (by omega)
                refine ww_aload_n hX (pc := 127) dX11_readPlain_127 rfl ?_
                refine ww_iload_n hX (pc := 128) dX11_readPlain_128 rfl ?_
                refine vV1 hX (pc := 129) sX11_178 (xs_49 hL) (c_RSum l0 m hm hL cI_124 pI_124 (pvw_tr kI_124 (by decide) (by decide) hc)) (by omega) (Nat.le_refl 0) (Nat.le_refl 0) (Nat.le_of_ble_eq_true rfl) dX11_readPlain_129 (fun I_129 J_129 h_129 => ?_)
                have kJ_129 : Kp 49 73 Ja J_129 := Kp_tr kJ_124 h_129.2.1
                have kI_129 : Ch [] [16, 17, 18] Ia I_129 := Ch_tr kI_124 (Ch_wd h_129.1 (by decide) (by decide))
                have cI_129 : RX I_129 := h_129.2.2.1
                have qI_129 := RX_w cI_129
                have f15_I_129 : I_129 49 15 = I_124 49 15 := h_129.1.2 15 (by decide)
                have pI_129 : PI I_129 := h_129.2.2.2.1
                have oI_129 := PI_o pI_129
                have yI_129 := h_129.2.2.2.2
                refine rV hX (pc := 132) hT (Nat.le_refl 0) (Nat.le_refl 0) dX11_readPlain_132 ?_
                exact ⟨kI_129, kJ_129, cI_129, pI_129, PL_cm hnq bb16 n5 (by omega) yI_91.1 (by omega) sg yI_129.1, by omega⟩
          · simp only [w32_mod] at h_39
            refine ww_iload_n hX (pc := 42) dX11_readPlain_42 rfl ?_
            refine ww_bipush hX (pc := 43) (x := 8) dX11_readPlain_43 (by decide) ?_
            refine ww_icmp_ne hX (pc := 45) (tgt := 52) dX11_readPlain_45 (by decide) (fun h_45 => ?_) (fun h_45 => ?_)
            · simp only [w32_mod] at h_45
              refine ww_aload_n hX (pc := 52) dX11_readPlain_52 rfl ?_
              refine vI0 hX (pc := 53) sX11_158 (xs_49 hL) (c_X11_fine l0 hL cI2  pI2) (by omega) (Nat.le_refl 0) (Nat.le_refl 0) (Nat.le_of_ble_eq_true rfl) dX11_readPlain_53 (fun x_53 I_53 J_53 h_53 => ?_)
              obtain ⟨rfl, rfl, h_53⟩ := h_53
              refine ww_if_ne hX (pc := 56) (tgt := 60) dX11_readPlain_56 (by decide) (fun h_56 => ?_) (fun h_56 => ?_)
              · simp only [w32_mod] at h_56
                have bb53 := FN_1 h_53.2 (by omega)
                obtain ⟨mp, rfl⟩ : ∃ mp, m = mp + 1 := ⟨m - 1, by omega⟩
                refine ww_aload_n hX (pc := 60) dX11_readPlain_60 rfl ?_
                refine ww_dupR hX (pc := 61) dX11_readPlain_61 ?_
                refine ww_getI hX (pc := 62) fX11_162 (by decide) (xs_49 hL) dX11_readPlain_62 ?_
                refine ww_iconst hX (pc := 65) (x := 1) dX11_readPlain_65 rfl ?_
                refine ww_iadd hX (pc := 66) dX11_readPlain_66 ?_
                refine ww_putI hX (pc := 67) (fun h9 => absurd h9 (by decide)) gX11_162 rfl (xs_49 hL) dX11_readPlain_67 ?_
                have lt67 := PI_lt pI2 (by omega)
                refine ww_nmH (fun I_67 eI_67 => ?_)
                have kI_67 : Ch [] [16, 17, 18] Ia I_67 := by rw [eI_67]; exact Ch_f kI2 (by decide)
                have cI_67 : RX I_67 := by rw [eI_67]; exact RX_f cI2 (by decide)
                have qI_67 := RX_w cI_67
                have f15_I_67 : I_67 49 15 = I2 49 15 := by rw [eI_67, up2_n _ _ (Or.inr (by decide))]
                have f17_I_67 : I_67 49 17 = I2 49 17 := by rw [eI_67, up2_n _ _ (Or.inr (by decide))]
                have f18_I_67 : I_67 49 18 = I2 49 18 := by rw [eI_67, up2_n _ _ (Or.inr (by decide))]
                have w16_I_67 : I_67 49 16 = I2 49 16 + 1 := by rw [eI_67, up2_s]
                have pI_67 : PI I_67 := by rw [eI_67]; exact PI_f pI2 (by decide) (fun _ => ⟨by omega, by omega⟩) (fun h => absurd h (by decide))
                have oI_67 := PI_o pI_67
                refine ww_aload_n hX (pc := 70) dX11_readPlain_70 rfl ?_
                refine ww_iload_n hX (pc := 71) dX11_readPlain_71 rfl ?_
                refine ww_iconst hX (pc := 72) (x := 1) dX11_readPlain_72 rfl ?_
                refine ww_iadd hX (pc := 73) dX11_readPlain_73 ?_
                refine ww_toI (show (8 - ((mp + 1 : Nat) : Int)) + 1 = 8 - (mp : Int) by omega) ?_
                refine vV1 hX (pc := 74) sX11_181 (xs_49 hL) (hrec mp rfl hL cI_67 pI_67 (pvw_tr kI_67 (by decide) (by decide) hc)) (by omega) (Nat.le_refl 0) (Nat.le_refl 0) (Nat.le_of_ble_eq_true rfl) dX11_readPlain_74 (fun I_74 J_74 h_74 => ?_)
                have kJ_74 : Kp 49 73 Ja J_74 := Kp_tr kJ2 h_74.2.1
                have kI_74 : Ch [] [16, 17, 18] Ia I_74 := Ch_tr kI_67 (Ch_wd h_74.1 (by decide) (by decide))
                have cI_74 : RX I_74 := h_74.2.2.1
                have qI_74 := RX_w cI_74
                have f15_I_74 : I_74 49 15 = I_67 49 15 := h_74.1.2 15 (by decide)
                have pI_74 : PI I_74 := h_74.2.2.2.1
                have oI_74 := PI_o pI_74
                have yI_74 := h_74.2.2.2.2
                refine ww_aload_n hX (pc := 77) dX11_readPlain_77 rfl ?_
                refine ww_bipush hX (pc := 78) (x := 41) dX11_readPlain_78 (by decide) ?_
                refine sI1 hX (pc := 80) sX11_190 (c_X11_sign l0 ) (by omega) (Nat.le_refl 0) (Nat.le_refl 0) (Nat.le_of_ble_eq_true rfl) dX11_readPlain_80 (fun x_80 I_80 J_80 h_80 => ?_)
                obtain ⟨rfl, rfl, h_80⟩ := h_80
                refine vV1 hX (pc := 83) sX11_174 (xs_49 hL) (c_X11_must l0 hL cI_74  pI_74 (pvw_tr kI_74 (by decide) (by decide) hc) (by omega) (by omega)) (by omega) (Nat.le_refl 0) (Nat.le_refl 0) (Nat.le_of_ble_eq_true rfl) dX11_readPlain_83 (fun I_83 J_83 h_83 => ?_)
                have kJ_83 : Kp 49 73 Ja J_83 := Kp_tr kJ_74 h_83.2.1
                have kI_83 : Ch [] [16, 17, 18] Ia I_83 := Ch_tr kI_74 (Ch_wd h_83.1 (by decide) (by decide))
                have cI_83 : RX I_83 := h_83.2.2.1
                have qI_83 := RX_w cI_83
                have f15_I_83 : I_83 49 15 = I_74 49 15 := h_83.1.2 15 (by decide)
                have f17_I_83 : I_83 49 17 = I_74 49 17 := h_83.1.2 17 (by decide)
                have pI_83 : PI I_83 := h_83.2.2.2.1
                have oI_83 := PI_o pI_83
                have yI_83 := h_83.2.2.2.2
                refine ww_goto hX (pc := 86) (tgt := 132) dX11_readPlain_86 (by decide) ?_
                refine rV hX (pc := 132) hT (Nat.le_refl 0) (Nat.le_refl 0) dX11_readPlain_132 ?_
                exact ⟨kI_83, kJ_83, cI_83, pI_83, PL_br hnq bb16 (by omega) (by omega) (by omega) yI_74.1 (by omega) (by omega) yI_83.2, by omega⟩
              · simp only [w32_mod] at h_56
                have nb53 := FN_0 h_53.2 (by omega)
                refine rV hX (pc := 59) hT (Nat.le_refl 0) (Nat.le_refl 0) dX11_readPlain_59 ?_
                exact ⟨kI2, kJ2, cI2, pI2, QP_no nb53, by omega⟩
            · simp only [w32_mod] at h_45
              refine ww_aload_n hX (pc := 48) dX11_readPlain_48 rfl ?_
              refine vV0 hX (pc := 49) sX11_168 (xs_49 hL) (c_X11_faults l0 hL cI2  pI2) (by omega) (Nat.le_refl 0) (Nat.le_refl 0) (Nat.le_of_ble_eq_true rfl) dX11_readPlain_49 (fun I_49 J_49 h_49 => ?_)
              have kJ_49 : Kp 49 73 Ja J_49 := Kp_tr kJ2 h_49.2.1
              have kI_49 : Ch [] [16, 17, 18] Ia I_49 := Ch_tr kI2 (Ch_wd h_49.1 (by decide) (by decide))
              have cI_49 : RX I_49 := h_49.2.2.1
              have qI_49 := RX_w cI_49
              have f15_I_49 : I_49 49 15 = I2 49 15 := h_49.1.2 15 (by decide)
              have f16_I_49 : I_49 49 16 = I2 49 16 := h_49.1.2 16 (by decide)
              have f17_I_49 : I_49 49 17 = I2 49 17 := h_49.1.2 17 (by decide)
              have pI_49 : PI I_49 := h_49.2.2.2.1
              have oI_49 := PI_o pI_49
              have yI_49 := h_49.2.2.2.2
              refine ww_aload_n hX (pc := 52) dX11_readPlain_52 rfl ?_
              refine vI0 hX (pc := 53) sX11_158 (xs_49 hL) (c_X11_fine l0 hL cI_49  pI_49) (by omega) (Nat.le_refl 0) (Nat.le_refl 0) (Nat.le_of_ble_eq_true rfl) dX11_readPlain_53 (fun x_53 I_53 J_53 h_53 => ?_)
              obtain ⟨rfl, rfl, h_53⟩ := h_53
              refine ww_if_ne hX (pc := 56) (tgt := 60) dX11_readPlain_56 (by decide) (fun h_56 => ?_) (fun h_56 => ?_)
              · simp only [w32_mod] at h_56
                have bb53 := FN_1 h_53.2 (by omega)
                exact absurd bb53 yI_49.2
              · simp only [w32_mod] at h_56
                have nb53 := FN_0 h_53.2 (by omega)
                refine rV hX (pc := 59) hT (Nat.le_refl 0) (Nat.le_refl 0) dX11_readPlain_59 ?_
                exact ⟨kI_49, kJ_49, cI_49, pI_49, QP_no nb53, by omega⟩
        · simp only [w32_mod] at h_19
          have nb16 := FN_0 h_16.2 (by omega)
          refine rV hX (pc := 22) hT (Nat.le_refl 0) (Nat.le_refl 0) dX11_readPlain_22 ?_
          exact ⟨kI2, kJ2, cI2, pI2, QP_no nb16, by omega⟩
      · simp only [w32_mod] at h_3
        refine ww_aload_n hX (pc := 6) dX11_readPlain_6 rfl ?_
        refine ww_iconst hX (pc := 7) (x := 5) dX11_readPlain_7 rfl ?_
        refine vI1 hX (pc := 8) sX11_165 (xs_49 hL) (c_X11_takes0 l0 hL cI2  pI2 (pvw_tr kI2 (by decide) (by decide) hc) (by omega) (by omega)) (by omega) (Nat.le_refl 0) (Nat.le_refl 0) (Nat.le_of_ble_eq_true rfl) dX11_readPlain_8 (fun x_8 I_8 J_8 h_8 => ?_)
        have kJ_8 : Kp 49 73 Ja J_8 := Kp_tr kJ2 h_8.2.1
        have kI_8 : Ch [] [16, 17, 18] Ia I_8 := Ch_tr kI2 (Ch_wd h_8.1 (by decide) (by decide))
        have cI_8 : RX I_8 := h_8.2.2.1
        have qI_8 := RX_w cI_8
        have f15_I_8 : I_8 49 15 = I2 49 15 := h_8.1.2 15 (by decide)
        have f17_I_8 : I_8 49 17 = I2 49 17 := h_8.1.2 17 (by decide)
        have f18_I_8 : I_8 49 18 = I2 49 18 := h_8.1.2 18 (by decide)
        have pI_8 : PI I_8 := h_8.2.2.2.1
        have oI_8 := PI_o pI_8
        have yI_8 := h_8.2.2.2.2
        refine ww_istore_n hX (pc := 11) (lv' := [some (kR (some 49)), some (kI (8 - (m : Int))), some (kI x_8), none]) dX11_readPlain_11 (by decide) rfl rfl ?_
        refine ww_goto hX (pc := 12) (tgt := 2) dX11_readPlain_12 (by decide) ?_
        have d8 : x_8 = 0 ∨ I_8 49 16 = I2 49 16 + 1 := by
          rcases (show x_8 = 0 ∨ x_8 = 1 by omega) with g | g
          · exact Or.inl g
          · exact Or.inr (TK_1 yI_8.2.2.2 g).2.2
        exact ih_2 _ (by have hm9 := Sh0_e hq_2; omega) x_8 I_8 J_8 rfl ⟨kI_8, cI_8, kJ_8, by omega, pI_8, yI_8.1, NQ_t hnq (by omega) yI_8.1 yI_8.2.2.2 yI_8.2.1, by omega, NO5 yI_8.2.2.2 yI_8.2.1⟩
  exact hl_2 _ 1 Ia Ja rfl ⟨Ch_rf, hQ, (Kp_rf (a := 49) (b := 73)), rfl, hP, ⟨by decide, by decide⟩, NQ_0, Int.le_refl _, fun h => absurd h (by decide)⟩
set_option maxHeartbeats 4000000 in
set_option maxRecDepth 20000 in
theorem c_X11_readBoth (l0 : Launch) {Ia Ja : aI1} {Ra : aR1} {Sa : aS1} (hL : LY Ra Sa) (hQ : RX Ia) (hP : PI Ia) {c : Nat → Int} (hc : pvw Ia = c) {m : Nat} (hm : m ≤ 8) (hrec : ∀ mp, m = mp + 1 → RTest l0 mp)  : CT l0 (3 * m + 7) 0 0 mX11_readBoth [kR (some 49), kI (8 - (m : Int))] Ia Ja Ra Sa (cV (fun I' J' => Ch [] [16, 17, 18] Ia I' ∧ Kp 49 73 Ja J' ∧ RX I' ∧ PI I' ∧ QP (GSeq (GPlm c m) opA c) Ia I' ∧ Ia 49 16 ≤ I' 49 16) Ra Sa) := by
  refine ct_in pn_X11 (Nat.le_of_ble_eq_true rfl) (fun X hX hT hIn => ?_)
  have hX : aK l0 X cX11_readBoth 2 RX11 none (3 * m + 7) 0 0 := hX
  change WW X 0 [some (kR (some 49)), some (kI (8 - (m : Int)))] [] Ia Ja Ra Sa 0 0
  have qIa := RX_w hQ
  have oIa := PI_o hP
  have tIa := PI_t hP
  have atIa := pvw_at hP hc
  refine ww_aload_n hX (pc := 0) dX11_readBoth_0 rfl ?_
  refine ww_iload_n hX (pc := 1) dX11_readBoth_1 rfl ?_
  refine vV1 hX (pc := 2) sX11_187 (xs_49 hL) (c_X11_readPlain l0 hL hQ  hP hc (m := m) hm hrec) (by omega) (Nat.le_refl 0) (Nat.le_refl 0) (Nat.le_of_ble_eq_true rfl) dX11_readBoth_2 (fun I_2 J_2 h_2 => ?_)
  have kJ_2 : Kp 49 73 Ja J_2 := Kp_tr (Kp_rf (a := 49) (b := 73)) h_2.2.1
  have kI_2 : Ch [] [16, 17, 18] Ia I_2 := Ch_tr Ch_rf (Ch_wd h_2.1 (by decide) (by decide))
  have cI_2 : RX I_2 := h_2.2.2.1
  have qI_2 := RX_w cI_2
  have f15_I_2 : I_2 49 15 = Ia 49 15 := h_2.1.2 15 (by decide)
  have pI_2 : PI I_2 := h_2.2.2.2.1
  have oI_2 := PI_o pI_2
  have yI_2 := h_2.2.2.2.2
  have hl_5 : ∀ (n_5 : Nat) (I5 : aI1) (J5 : aI1), (I5 49 15 - I5 49 16).toNat = n_5 → (Ch [] [16, 17, 18] Ia I5 ∧ RX I5 ∧ Kp 49 73 Ja J5 ∧ I5 49 15 = I_2 49 15 ∧ PI I5 ∧ LQ (GPlm c m) opA c Ia I5 ∧ Ia 49 16 ≤ I5 49 16) → WW X 5 [some (kR (some 49)), some (kI (8 - (m : Int)))] [] I5 J5 Ra Sa 0 0 := by
    intro n_5
    induction n_5 using Nat.strongRecOn with
    | ind n_5 ih_5 =>
      intro I5 J5 hm_5 hv_5
      have hq_5 := Sh0_i hm_5
      clear hm_5
      obtain ⟨kI5, cI5, kJ5, f15_I5, pI5, hlq, hmo⟩ := hv_5
      have qI5 := RX_w cI5
      have oI5 := PI_o pI5
      have tI5 := PI_t pI5
      refine ww_aload_n hX (pc := 5) dX11_readBoth_5 rfl ?_
      refine ww_iconst hX (pc := 6) (x := 4) dX11_readBoth_6 rfl ?_
      refine vI1 hX (pc := 7) sX11_165 (xs_49 hL) (c_X11_takes0 l0 hL cI5  pI5 (pvw_tr kI5 (by decide) (by decide) hc) (by omega) (by omega)) (by omega) (Nat.le_refl 0) (Nat.le_refl 0) (Nat.le_of_ble_eq_true rfl) dX11_readBoth_7 (fun x_7 I_7 J_7 h_7 => ?_)
      have kJ_7 : Kp 49 73 Ja J_7 := Kp_tr kJ5 h_7.2.1
      have kI_7 : Ch [] [16, 17, 18] Ia I_7 := Ch_tr kI5 (Ch_wd h_7.1 (by decide) (by decide))
      have cI_7 : RX I_7 := h_7.2.2.1
      have qI_7 := RX_w cI_7
      have f15_I_7 : I_7 49 15 = I5 49 15 := h_7.1.2 15 (by decide)
      have f17_I_7 : I_7 49 17 = I5 49 17 := h_7.1.2 17 (by decide)
      have f18_I_7 : I_7 49 18 = I5 49 18 := h_7.1.2 18 (by decide)
      have pI_7 : PI I_7 := h_7.2.2.2.1
      have oI_7 := PI_o pI_7
      have yI_7 := h_7.2.2.2.2
      refine ww_if_eq hX (pc := 10) (tgt := 21) dX11_readBoth_10 (by decide) (fun h_10 => ?_) (fun h_10 => ?_)
      · simp only [w32_mod] at h_10
        obtain ⟨z7, n7⟩ := TK_0 yI_7.2.2.2 (by omega)
        refine rV hX (pc := 21) hT (Nat.le_refl 0) (Nat.le_refl 0) dX11_readBoth_21 ?_
        exact ⟨kI_7, kJ_7, cI_7, pI_7, (by exact LQ_e hlq (by omega) (by omega) (fun g9 => by have a0 := n7 (by omega); unfold opA; omega)), by omega⟩
      · simp only [w32_mod] at h_10
        have s7 := TK_1 yI_7.2.2.2 (by omega)
        refine ww_aload_n hX (pc := 13) dX11_readBoth_13 rfl ?_
        refine ww_iload_n hX (pc := 14) dX11_readBoth_14 rfl ?_
        refine vV1 hX (pc := 15) sX11_187 (xs_49 hL) (c_X11_readPlain l0 hL cI_7  pI_7 (pvw_tr kI_7 (by decide) (by decide) hc) (m := m) hm hrec) (by omega) (Nat.le_refl 0) (Nat.le_refl 0) (Nat.le_of_ble_eq_true rfl) dX11_readBoth_15 (fun I_15 J_15 h_15 => ?_)
        have kJ_15 : Kp 49 73 Ja J_15 := Kp_tr kJ_7 h_15.2.1
        have kI_15 : Ch [] [16, 17, 18] Ia I_15 := Ch_tr kI_7 (Ch_wd h_15.1 (by decide) (by decide))
        have cI_15 : RX I_15 := h_15.2.2.1
        have qI_15 := RX_w cI_15
        have f15_I_15 : I_15 49 15 = I_7 49 15 := h_15.1.2 15 (by decide)
        have pI_15 : PI I_15 := h_15.2.2.2.1
        have oI_15 := PI_o pI_15
        have yI_15 := h_15.2.2.2.2
        refine ww_goto hX (pc := 18) (tgt := 5) dX11_readBoth_18 (by decide) ?_
        exact ih_5 _ (by have hm9 := Sh0_e hq_5; omega) I_15 J_15 rfl ⟨kI_15, cI_15, kJ_15, by omega, pI_15, LQ_s hlq (by omega) (by unfold opA; omega) (by omega) (by omega) yI_15.1, by omega⟩
  exact hl_5 _ I_2 J_2 rfl ⟨kI_2, cI_2, kJ_2, rfl, pI_2, LQ_0 yI_2.1, by omega⟩
set_option maxHeartbeats 4000000 in
set_option maxRecDepth 20000 in
theorem c_X11_readTest (l0 : Launch) {Ia Ja : aI1} {Ra : aR1} {Sa : aS1} (hL : LY Ra Sa) (hQ : RX Ia) (hP : PI Ia) {c : Nat → Int} (hc : pvw Ia = c) {m : Nat} (hm : m ≤ 8) (hrec : ∀ mp, m = mp + 1 → RTest l0 mp)  : CT l0 (3 * m + 8) 0 0 mX11_readTest [kR (some 49), kI (8 - (m : Int))] Ia Ja Ra Sa (cV (fun I' J' => Ch [] [16, 17, 18] Ia I' ∧ Kp 49 73 Ja J' ∧ RX I' ∧ PI I' ∧ QP (GTest c m) Ia I' ∧ Ia 49 16 ≤ I' 49 16) Ra Sa) := by
  refine ct_in pn_X11 (Nat.le_of_ble_eq_true rfl) (fun X hX hT hIn => ?_)
  have hX : aK l0 X cX11_readTest 2 RX11 none (3 * m + 8) 0 0 := hX
  change WW X 0 [some (kR (some 49)), some (kI (8 - (m : Int)))] [] Ia Ja Ra Sa 0 0
  have qIa := RX_w hQ
  have oIa := PI_o hP
  have tIa := PI_t hP
  have atIa := pvw_at hP hc
  refine ww_aload_n hX (pc := 0) dX11_readTest_0 rfl ?_
  refine ww_iload_n hX (pc := 1) dX11_readTest_1 rfl ?_
  refine vV1 hX (pc := 2) sX11_184 (xs_49 hL) (c_X11_readBoth l0 hL hQ  hP hc (m := m) hm hrec) (by omega) (Nat.le_refl 0) (Nat.le_refl 0) (Nat.le_of_ble_eq_true rfl) dX11_readTest_2 (fun I_2 J_2 h_2 => ?_)
  have kJ_2 : Kp 49 73 Ja J_2 := Kp_tr (Kp_rf (a := 49) (b := 73)) h_2.2.1
  have kI_2 : Ch [] [16, 17, 18] Ia I_2 := Ch_tr Ch_rf (Ch_wd h_2.1 (by decide) (by decide))
  have cI_2 : RX I_2 := h_2.2.2.1
  have qI_2 := RX_w cI_2
  have f15_I_2 : I_2 49 15 = Ia 49 15 := h_2.1.2 15 (by decide)
  have pI_2 : PI I_2 := h_2.2.2.2.1
  have oI_2 := PI_o pI_2
  have yI_2 := h_2.2.2.2.2
  have hl_5 : ∀ (n_5 : Nat) (I5 : aI1) (J5 : aI1), (I5 49 15 - I5 49 16).toNat = n_5 → (Ch [] [16, 17, 18] Ia I5 ∧ RX I5 ∧ Kp 49 73 Ja J5 ∧ I5 49 15 = I_2 49 15 ∧ PI I5 ∧ LQ (GSeq (GPlm c m) opA c) opO c Ia I5 ∧ Ia 49 16 ≤ I5 49 16) → WW X 5 [some (kR (some 49)), some (kI (8 - (m : Int)))] [] I5 J5 Ra Sa 0 0 := by
    intro n_5
    induction n_5 using Nat.strongRecOn with
    | ind n_5 ih_5 =>
      intro I5 J5 hm_5 hv_5
      have hq_5 := Sh0_i hm_5
      clear hm_5
      obtain ⟨kI5, cI5, kJ5, f15_I5, pI5, hlq, hmo⟩ := hv_5
      have qI5 := RX_w cI5
      have oI5 := PI_o pI5
      have tI5 := PI_t pI5
      refine ww_aload_n hX (pc := 5) dX11_readTest_5 rfl ?_
      refine ww_iconst hX (pc := 6) (x := 3) dX11_readTest_6 rfl ?_
      refine vI1 hX (pc := 7) sX11_165 (xs_49 hL) (c_X11_takes0 l0 hL cI5  pI5 (pvw_tr kI5 (by decide) (by decide) hc) (by omega) (by omega)) (by omega) (Nat.le_refl 0) (Nat.le_refl 0) (Nat.le_of_ble_eq_true rfl) dX11_readTest_7 (fun x_7 I_7 J_7 h_7 => ?_)
      have kJ_7 : Kp 49 73 Ja J_7 := Kp_tr kJ5 h_7.2.1
      have kI_7 : Ch [] [16, 17, 18] Ia I_7 := Ch_tr kI5 (Ch_wd h_7.1 (by decide) (by decide))
      have cI_7 : RX I_7 := h_7.2.2.1
      have qI_7 := RX_w cI_7
      have f15_I_7 : I_7 49 15 = I5 49 15 := h_7.1.2 15 (by decide)
      have f17_I_7 : I_7 49 17 = I5 49 17 := h_7.1.2 17 (by decide)
      have f18_I_7 : I_7 49 18 = I5 49 18 := h_7.1.2 18 (by decide)
      have pI_7 : PI I_7 := h_7.2.2.2.1
      have oI_7 := PI_o pI_7
      have yI_7 := h_7.2.2.2.2
      refine ww_if_eq hX (pc := 10) (tgt := 21) dX11_readTest_10 (by decide) (fun h_10 => ?_) (fun h_10 => ?_)
      · simp only [w32_mod] at h_10
        obtain ⟨z7, n7⟩ := TK_0 yI_7.2.2.2 (by omega)
        refine rV hX (pc := 21) hT (Nat.le_refl 0) (Nat.le_refl 0) dX11_readTest_21 ?_
        exact ⟨kI_7, kJ_7, cI_7, pI_7, (by rw [GTest_eq]; exact LQ_e hlq (by omega) (by omega) (fun g9 => by have a0 := n7 (by omega); unfold opO; omega)), by omega⟩
      · simp only [w32_mod] at h_10
        have s7 := TK_1 yI_7.2.2.2 (by omega)
        refine ww_aload_n hX (pc := 13) dX11_readTest_13 rfl ?_
        refine ww_iload_n hX (pc := 14) dX11_readTest_14 rfl ?_
        refine vV1 hX (pc := 15) sX11_184 (xs_49 hL) (c_X11_readBoth l0 hL cI_7  pI_7 (pvw_tr kI_7 (by decide) (by decide) hc) (m := m) hm hrec) (by omega) (Nat.le_refl 0) (Nat.le_refl 0) (Nat.le_of_ble_eq_true rfl) dX11_readTest_15 (fun I_15 J_15 h_15 => ?_)
        have kJ_15 : Kp 49 73 Ja J_15 := Kp_tr kJ_7 h_15.2.1
        have kI_15 : Ch [] [16, 17, 18] Ia I_15 := Ch_tr kI_7 (Ch_wd h_15.1 (by decide) (by decide))
        have cI_15 : RX I_15 := h_15.2.2.1
        have qI_15 := RX_w cI_15
        have f15_I_15 : I_15 49 15 = I_7 49 15 := h_15.1.2 15 (by decide)
        have pI_15 : PI I_15 := h_15.2.2.2.1
        have oI_15 := PI_o pI_15
        have yI_15 := h_15.2.2.2.2
        refine ww_goto hX (pc := 18) (tgt := 5) dX11_readTest_18 (by decide) ?_
        exact ih_5 _ (by have hm9 := Sh0_e hq_5; omega) I_15 J_15 rfl ⟨kI_15, cI_15, kJ_15, by omega, pI_15, LQ_s hlq (by omega) (by unfold opO; omega) (by omega) (by omega) yI_15.1, by omega⟩
  exact hl_5 _ I_2 J_2 rfl ⟨kI_2, cI_2, kJ_2, rfl, pI_2, LQ_0 yI_2.1, by omega⟩
theorem c_RTest (l0 : Launch) : ∀ m : Nat, m ≤ 8 → RTest l0 m
  | 0, h => fun hL hQ hP _ hc => c_X11_readTest l0 hL hQ hP hc (m := 0) h (fun mp e => absurd e (by omega))
  | m + 1, h => fun hL hQ hP _ hc => c_X11_readTest l0 hL hQ hP hc (m := m + 1) h (fun mp e => by
      obtain rfl : m = mp := by omega
      exact c_RTest l0 m (by omega))
end
section
theorem PI_g {I : aI1} {j : Nat} {v : Int} (h : PI I) (hj : j ≠ 15 ∧ j ≠ 16 ∧ j ≠ 18) : PI (up2 I 49 j v) := by
  have e : ∀ q, q ≠ j → up2 I 49 j v 49 q = I 49 q := fun q hq => up2_n _ _ (Or.inr hq)
  unfold PI at h ⊢
  rw [up2_off _ _ _ (show 57 ≠ 49 by decide), up2_off _ _ _ (show 59 ≠ 49 by decide), e 15 (by omega), e 16 (by omega), e 18 (by omega)]
  exact h
theorem KR_up {k : Nat → Int} {q : Nat} {v : Int} (h : KR k) (hq : (311 + k 310 ≤ q ∧ q ≤ 316) ∨ (317 + 400 * k 310 ≤ q ∧ q < 2717 ∧ 0 ≤ v ∧ v ≤ 400) ∨ 2717 ≤ q) : KR (up1 k q v) := by
  unfold KR at h ⊢
  obtain ⟨a4, a5, a7, a8, a9, a10, b1, b2⟩ := h
  have e : ∀ j, j ≠ q → up1 k q v j = k j := fun j hj => up1_n _ _ hj
  rw [e 304 (by omega), e 305 (by omega), e 307 (by omega), e 308 (by omega), e 309 (by omega), e 310 (by omega)]
  refine ⟨a4, a5, a7, a8, a9, a10, fun j g1 g2 => ?_, fun t ht => ?_⟩
  · by_cases hj : j = q
    · rw [hj, up1_s]; omega
    · rw [e j hj]; exact b1 j g1 g2
  · have b3 := b2 t ht
    have hv : cvw (up1 k q v) t = cvw k t := by
      funext i
      unfold cvw
      rw [e (311 + t) (by omega)]
      by_cases hi : (i : Int) < k (311 + t)
      · rw [if_pos hi, if_pos hi, e _ (by omega)]
      · rw [if_neg hi, if_neg hi]
    rw [hv, e _ (by omega)]
    exact b3
theorem RX_up {I : aI1} {q : Nat} {v : Int} (h : RX I) (hq : (311 + I 51 310 ≤ q ∧ q ≤ 316) ∨ (317 + 400 * I 51 310 ≤ q ∧ q < 2717 ∧ 0 ≤ v ∧ v ≤ 400) ∨ 2717 ≤ q) : RX (up2 I 51 q v) :=
  RX_k h (fun a ha => up2_off _ _ _ ha) (by rw [up2_row]; exact KR_up h.1 hq)
theorem KR_tl {k : Nat → Int} {t : Nat} (h : KR k) (ht : k 310 = t) (h5 : t ≤ 5) (hs : 0 ≤ k (311 + t) ∧ k (311 + t) ≤ 400) (hl : LawG (cvw k t) (k (311 + t)).toNat) : KR (up1 k 310 (k 310 + 1)) := by
  unfold KR at h ⊢
  obtain ⟨a4, a5, a7, a8, a9, a10, b1, b2⟩ := h
  have e : ∀ j, j ≠ 310 → up1 k 310 (k 310 + 1) j = k j := fun j hj => up1_n _ _ hj
  rw [e 304 (by omega), e 305 (by omega), e 307 (by omega), e 308 (by omega), e 309 (by omega), up1_s]
  refine ⟨a4, a5, a7, a8, a9, by omega, fun j g1 g2 => by rw [e j (by omega)]; exact b1 j g1 g2, fun t' ht' => ?_⟩
  have hv : cvw (up1 k 310 (k 310 + 1)) t' = cvw k t' := by
    funext i
    unfold cvw
    rw [e _ (by omega), e _ (by omega)]
  rw [hv, e _ (by omega)]
  by_cases e9 : t' = t
  · subst e9
    exact ⟨hs, hl⟩
  · exact b2 t' (by omega)
theorem RX_tl {I : aI1} {v : Int} {t : Nat} (h : RX I) (hv : v = I 51 310 + 1) (ht : I 51 310 = t) (h5 : t ≤ 5) (hs : 0 ≤ I 51 (311 + t) ∧ I 51 (311 + t) ≤ 400) (hl : LawG (cvw (I 51) t) (I 51 (311 + t)).toNat) : RX (up2 I 51 (310 : Int).toNat v) :=
  RX_k h (fun a ha => up2_off _ _ _ ha) (by rw [up2_row, hv]; exact KR_tl h.1 ht h5 hs hl)
theorem cvw_pvw {k : Nat → Int} {I : aI1} {t : Nat} (h1 : k (311 + t) = I 49 15) (h2 : ∀ j : Nat, (j : Int) < I 49 15 → k (317 + 400 * t + j) = I 57 j) : cvw k t = pvw I := by
  funext i
  unfold cvw pvw
  rw [h1]
  by_cases hi : (i : Int) < I 49 15
  · rw [if_pos hi, if_pos hi, h2 i hi]
  · rw [if_neg hi, if_neg hi]
theorem RX_l {I : aI1} (h : RX I) : (0 ≤ I 49 10 ∧ I 49 10 ≤ 400) ∧ (0 ≤ I 51 310 ∧ I 51 310 ≤ 6) := ⟨h.2.2.2.1, h.1.2.2.2.2.2.1⟩
set_option maxHeartbeats 4000000 in
set_option maxRecDepth 20000 in
theorem c_X11_readClause (l0 : Launch) {Ia Ja : aI1} {Ra : aR1} {Sa : aS1} (hL : LY Ra Sa) (hQ : RX Ia) (hP : PI Ia) {c : Nat → Int} (hc : pvw Ia = c)  : CT l0 33 0 0 mX11_readClause [kR (some 49)] Ia Ja Ra Sa (cV (fun I' J' => Ch [] [16, 17, 18] Ia I' ∧ Kp 49 73 Ja J' ∧ RX I' ∧ PI I' ∧ QP (GClause c) Ia I' ∧ Ia 49 16 ≤ I' 49 16) Ra Sa) := by
  refine ct_in pn_X11 (Nat.le_of_ble_eq_true rfl) (fun X hX hT hIn => ?_)
  have hX : aK l0 X cX11_readClause 1 RX11 none 33 0 0 := hX
  change WW X 0 [some (kR (some 49))] [] Ia Ja Ra Sa 0 0
  have qIa := RX_w hQ
  have oIa := PI_o hP
  have tIa := PI_t hP
  have atIa := pvw_at hP hc
  refine ww_aload_n hX (pc := 0) dX11_readClause_0 rfl ?_
  refine ww_iconst hX (pc := 1) (x := 1) dX11_readClause_1 rfl ?_
  refine vV1 hX (pc := 2) sX11_174 (xs_49 hL) (c_X11_must l0 hL hQ  hP hc (by omega) (by omega)) (by decide) (Nat.le_refl 0) (Nat.le_refl 0) (Nat.le_of_ble_eq_true rfl) dX11_readClause_2 (fun I_2 J_2 h_2 => ?_)
  have kJ_2 : Kp 49 73 Ja J_2 := Kp_tr (Kp_rf (a := 49) (b := 73)) h_2.2.1
  have kI_2 : Ch [] [16, 17, 18] Ia I_2 := Ch_tr Ch_rf (Ch_wd h_2.1 (by decide) (by decide))
  have cI_2 : RX I_2 := h_2.2.2.1
  have qI_2 := RX_w cI_2
  have f15_I_2 : I_2 49 15 = Ia 49 15 := h_2.1.2 15 (by decide)
  have f17_I_2 : I_2 49 17 = Ia 49 17 := h_2.1.2 17 (by decide)
  have pI_2 : PI I_2 := h_2.2.2.2.1
  have oI_2 := PI_o pI_2
  have yI_2 := h_2.2.2.2.2
  refine ww_aload_n hX (pc := 5) dX11_readClause_5 rfl ?_
  refine ww_iconst hX (pc := 6) (x := 0) dX11_readClause_6 rfl ?_
  refine vV1 hX (pc := 7) sX11_178 (xs_49 hL) (c_RSum l0 8 (by decide) hL cI_2 pI_2 (pvw_tr kI_2 (by decide) (by decide) hc)) (by decide) (Nat.le_refl 0) (Nat.le_refl 0) (Nat.le_of_ble_eq_true rfl) dX11_readClause_7 (fun I_7 J_7 h_7 => ?_)
  have kJ_7 : Kp 49 73 Ja J_7 := Kp_tr kJ_2 h_7.2.1
  have kI_7 : Ch [] [16, 17, 18] Ia I_7 := Ch_tr kI_2 (Ch_wd h_7.1 (by decide) (by decide))
  have cI_7 : RX I_7 := h_7.2.2.1
  have qI_7 := RX_w cI_7
  have f15_I_7 : I_7 49 15 = I_2 49 15 := h_7.1.2 15 (by decide)
  have pI_7 : PI I_7 := h_7.2.2.2.1
  have oI_7 := PI_o pI_7
  have yI_7 := h_7.2.2.2.2
  refine ww_aload_n hX (pc := 10) dX11_readClause_10 rfl ?_
  refine ww_iconst hX (pc := 11) (x := 2) dX11_readClause_11 rfl ?_
  refine vI1 hX (pc := 12) sX11_165 (xs_49 hL) (c_X11_takes0 l0 hL cI_7  pI_7 (pvw_tr kI_7 (by decide) (by decide) hc) (by omega) (by omega)) (by decide) (Nat.le_refl 0) (Nat.le_refl 0) (Nat.le_of_ble_eq_true rfl) dX11_readClause_12 (fun x_12 I_12 J_12 h_12 => ?_)
  have kJ_12 : Kp 49 73 Ja J_12 := Kp_tr kJ_7 h_12.2.1
  have kI_12 : Ch [] [16, 17, 18] Ia I_12 := Ch_tr kI_7 (Ch_wd h_12.1 (by decide) (by decide))
  have cI_12 : RX I_12 := h_12.2.2.1
  have qI_12 := RX_w cI_12
  have f15_I_12 : I_12 49 15 = I_7 49 15 := h_12.1.2 15 (by decide)
  have f17_I_12 : I_12 49 17 = I_7 49 17 := h_12.1.2 17 (by decide)
  have f18_I_12 : I_12 49 18 = I_7 49 18 := h_12.1.2 18 (by decide)
  have pI_12 : PI I_12 := h_12.2.2.2.1
  have oI_12 := PI_o pI_12
  have yI_12 := h_12.2.2.2.2
  refine ww_if_eq hX (pc := 15) (tgt := 23) dX11_readClause_15 (by decide) (fun h_15 => ?_) (fun h_15 => ?_)
  · simp only [w32_mod] at h_15
    have s12 := TK_0 yI_12.2.2.2 (by omega)
    refine rV hX (pc := 23) hT (Nat.le_refl 0) (Nat.le_refl 0) dX11_readClause_23 ?_
    exact ⟨kI_12, kJ_12, cI_12, pI_12, QP_c2 (by omega) yI_2.2 yI_7.1 (by omega) s12, by omega⟩
  · simp only [w32_mod] at h_15
    have s12 := TK_1 yI_12.2.2.2 (by omega)
    refine ww_aload_n hX (pc := 18) dX11_readClause_18 rfl ?_
    refine ww_iconst hX (pc := 19) (x := 0) dX11_readClause_19 rfl ?_
    refine vV1 hX (pc := 20) sX11_181 (xs_49 hL) (c_RTest l0 8 (by decide) hL cI_12 pI_12 (pvw_tr kI_12 (by decide) (by decide) hc)) (by decide) (Nat.le_refl 0) (Nat.le_refl 0) (Nat.le_of_ble_eq_true rfl) dX11_readClause_20 (fun I_20 J_20 h_20 => ?_)
    have kJ_20 : Kp 49 73 Ja J_20 := Kp_tr kJ_12 h_20.2.1
    have kI_20 : Ch [] [16, 17, 18] Ia I_20 := Ch_tr kI_12 (Ch_wd h_20.1 (by decide) (by decide))
    have cI_20 : RX I_20 := h_20.2.2.1
    have qI_20 := RX_w cI_20
    have f15_I_20 : I_20 49 15 = I_12 49 15 := h_20.1.2 15 (by decide)
    have pI_20 : PI I_20 := h_20.2.2.2.1
    have oI_20 := PI_o pI_20
    have yI_20 := h_20.2.2.2.2
    refine rV hX (pc := 23) hT (Nat.le_refl 0) (Nat.le_refl 0) dX11_readClause_23 ?_
    exact ⟨kI_20, kJ_20, cI_20, pI_20, QP_c1 (by omega) yI_2.2 yI_7.1 (by omega) (by omega) s12 yI_20.1, by omega⟩
end
