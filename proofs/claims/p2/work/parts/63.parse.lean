/-- the reader's state -/
def PI (I : aI1) : Prop := (0 ≤ I 49 15 ∧ I 49 15 ≤ 400) ∧ (0 ≤ I 49 16 ∧ I 49 16 ≤ I 49 15) ∧ (-1 ≤ I 49 18 ∧ I 49 18 ≤ 400) ∧ RG (I 57) (I 49 15 + 1) ∧ RG (I 59) (I 49 15 + 1) ∧ I 57 (I 49 15).toNat = 0
theorem PI_o {I : aI1} (h : PI I) : (0 ≤ I 49 15 ∧ I 49 15 ≤ 400) ∧ (0 ≤ I 49 16 ∧ I 49 16 ≤ I 49 15) ∧ (-1 ≤ I 49 18 ∧ I 49 18 ≤ 400) := ⟨h.1, h.2.1, h.2.2.1⟩
theorem PI_t {I : aI1} (h : PI I) : (0 ≤ I 57 (I 49 16).toNat ∧ I 57 (I 49 16).toNat ≤ 400) ∧ (0 ≤ I 59 (I 49 16).toNat ∧ I 59 (I 49 16).toNat ≤ 400) := by
  have h1 := PI_o h
  exact ⟨h.2.2.2.1 _ (by omega), h.2.2.2.2.1 _ (by omega)⟩
theorem PI_lt {I : aI1} (h : PI I) (hz : 1 ≤ I 57 (I 49 16).toNat) : I 49 16 < I 49 15 := by
  have h1 := PI_o h
  by_cases e : I 49 16 = I 49 15
  · rw [e] at hz
    have := h.2.2.2.2.2
    omega
  · omega
/-- what the reader's steps say, kept shut -/
def NB (I : aI1) : Prop := ¬ I 49 18 = -1
def FN (x : Int) (I : aI1) : Prop := x = 1 ↔ I 49 18 = -1
theorem FN_1 {x : Int} {I : aI1} (h : FN x I) (hx : x = 1) : I 49 18 = -1 := h.mp hx
theorem FN_0 {x : Int} {I : aI1} (h : FN x I) (hx : x = 0) : NB I := fun g => by have := h.mpr g; omega
def NOP (c : Nat → Int) (r : Int) (I : aI1) : Prop := I 49 18 = -1 → ¬ c (I 49 16).toNat = r
def TK (x : Int) (c : Nat → Int) (r : Int) (I I' : aI1) : Prop := (x = 1 → I 49 18 = -1 ∧ c (I 49 16).toNat = r ∧ I' 49 16 = I 49 16 + 1) ∧ (x = 0 → I' 49 16 = I 49 16 ∧ NOP c r I)
def MU (c : Nat → Int) (r : Int) (I I' : aI1) : Prop := I' 49 18 = -1 → I 49 18 = -1 ∧ c (I 49 16).toNat = r ∧ I' 49 16 = I 49 16 + 1
def LF (I I' : aI1) : Prop := I' 49 18 = -1 → I 49 18 = -1 ∧ I' 49 16 = I 49 16 + 1
theorem TK_1 {x : Int} {c : Nat → Int} {r : Int} {I I' : aI1} (h : TK x c r I I') (hx : x = 1) : I 49 18 = -1 ∧ c (I 49 16).toNat = r ∧ I' 49 16 = I 49 16 + 1 := h.1 hx
theorem TK_0 {x : Int} {c : Nat → Int} {r : Int} {I I' : aI1} (h : TK x c r I I') (hx : x = 0) : I' 49 16 = I 49 16 ∧ NOP c r I := h.2 hx
theorem PI_f {I : aI1} {j : Nat} {v : Int} (h : PI I) (hj : j = 16 ∨ j = 17 ∨ j = 18) (h16 : j = 16 → 0 ≤ v ∧ v ≤ I 49 15) (h18 : j = 18 → -1 ≤ v ∧ v ≤ 400) : PI (up2 I 49 j v) := by
  have e : ∀ q, q ≠ j → up2 I 49 j v 49 q = I 49 q := fun q hq => up2_n _ _ (Or.inr hq)
  have e2 : ∀ a, a ≠ 49 → up2 I 49 j v a = I a := fun a ha => up2_off _ _ _ ha
  unfold PI at h ⊢
  rw [e2 57 (by decide), e2 59 (by decide), e 15 (by omega)]
  refine ⟨h.1, ?_, ?_, h.2.2.2⟩
  · by_cases q : j = 16
    · rw [q, up2_s]; exact h16 q
    · rw [e 16 (by omega)]; exact h.2.1
  · by_cases q : j = 18
    · rw [q, up2_s]; exact h18 q
    · rw [e 18 (by omega)]; exact h.2.2.1
def pvw (I : aI1) (i : Nat) : Int := if (i : Int) < I 49 15 then I 57 i else 0
theorem pvw_tr {rs fs : List Nat} {I I' : aI1} {c : Nat → Int} (h : Ch rs fs I I') (h1 : 15 ∉ fs) (h2 : 57 ∉ rs) (hc : pvw I = c) : pvw I' = c := by
  rw [← hc]
  funext i
  unfold pvw
  rw [h.1 57 (by decide) h2, h.2 15 h1]
theorem pvw_at {I : aI1} {c : Nat → Int} (h : PI I) (hc : pvw I = c) : c (I 49 16).toNat = I 57 (I 49 16).toNat := by
  have h1 := PI_o h
  rw [← hc]
  unfold pvw
  by_cases e : I 49 16 < I 49 15
  · rw [if_pos (by omega)]
  · rw [if_neg (by omega), show I 49 16 = I 49 15 by omega]
    exact h.2.2.2.2.2.symm
def QP (G : Nat → Nat → Prop) (I I' : aI1) : Prop := I' 49 18 = -1 → I 49 18 = -1 ∧ G (I 49 16).toNat (I' 49 16).toNat
theorem QP_no {G : Nat → Nat → Prop} {I I' : aI1} (h : NB I') : QP G I I' := fun g => absurd g h
def GPm (c : Nat → Int) : Nat → Nat → Nat → Prop
  | 0 => GPart (fun _ _ => False) c
  | k + 1 => GPart (GSum c k) c
theorem GSum_eq (c : Nat → Int) (m : Nat) : GSum c m = GSeq (GSeq (GPm c m) opT c) opS c := by cases m <;> rfl
def GPlm (c : Nat → Int) : Nat → Nat → Nat → Prop
  | 0 => GPlain (fun _ _ => False) (GSum c 0) c
  | k + 1 => GPlain (GTest c k) (GSum c (k + 1)) c
theorem GTest_eq (c : Nat → Int) (m : Nat) : GTest c m = GSeq (GSeq (GPlm c m) opA c) opO c := by cases m <;> rfl
theorem QP_br {c : Nat → Int} {m : Nat} {I I1 I2 I3 : aI1} (hb : I 49 18 = -1) (hc : c (I 49 16).toNat = 191) (h0 : 0 ≤ I 49 16) (h1 : I1 49 16 = I 49 16 + 1) (h2 : QP (GSum c m) I1 I2) (h02 : 0 ≤ I2 49 16) {r : Int} (hr : r = 193) (h3 : MU c r I2 I3) : QP (GPm c (m + 1)) I I3 := fun h => by
  obtain ⟨g1, g2, g3⟩ := h3 h
  obtain ⟨-, g4⟩ := h2 g1
  refine ⟨hb, Or.inr ⟨hc, (I2 49 16).toNat, ?_, g2.trans hr, by omega⟩⟩
  rw [show (I 49 16).toNat + 1 = (I1 49 16).toNat by omega]
  exact g4
theorem QP_lf {c : Nat → Int} {m : Nat} {I I1 : aI1} (hb : I 49 18 = -1) (h0 : 0 ≤ I 49 16) (hl : GLeaf c (I 49 16).toNat) (h1 : LF I I1) : QP (GPm c m) I I1 := fun h => by
  have h2 := (h1 h).2
  refine ⟨hb, ?_⟩
  cases m
  · exact Or.inl ⟨hl, by omega⟩
  · exact Or.inl ⟨hl, by omega⟩
def LQ (T : Nat → Nat → Prop) (op : Int → Prop) (c : Nat → Int) (I I5 : aI1) : Prop := I5 49 18 = -1 → I 49 18 = -1 ∧ ∀ b, (∃ n, GRest T op c n (I5 49 16).toNat b) → GSeq T op c (I 49 16).toNat b
theorem LQ_0 {T : Nat → Nat → Prop} {op : Int → Prop} {c : Nat → Int} {I I5 : aI1} (h : QP T I I5) : LQ T op c I I5 := fun g => ⟨(h g).1, fun _ hb => ⟨_, (h g).2, hb⟩⟩
theorem LQ_s {T : Nat → Nat → Prop} {op : Int → Prop} {c : Nat → Int} {I I5 I6 I7 : aI1} (h : LQ T op c I I5) (h0 : 0 ≤ I5 49 16) (ho : op (c (I5 49 16).toNat)) (h6 : I6 49 16 = I5 49 16 + 1) (h8 : I6 49 18 = I5 49 18) (h7 : QP T I6 I7) : LQ T op c I I7 := fun g => by
  obtain ⟨g1, g2⟩ := h7 g
  obtain ⟨g3, g4⟩ := h (by omega)
  refine ⟨g3, fun b hb => g4 b ?_⟩
  obtain ⟨n, hn⟩ := hb
  refine ⟨n + 1, ho, (I7 49 16).toNat, ?_, hn⟩
  rw [show (I5 49 16).toNat + 1 = (I6 49 16).toNat by omega]
  exact g2
theorem LQ_e {T : Nat → Nat → Prop} {op : Int → Prop} {c : Nat → Int} {I I5 I6 : aI1} (h : LQ T op c I I5) (h6 : I6 49 16 = I5 49 16) (h8 : I6 49 18 = I5 49 18) (ho : I5 49 18 = -1 → ¬ op (c (I5 49 16).toNat)) : QP (GSeq T op c) I I6 := fun g => by
  obtain ⟨g1, g2⟩ := h (by omega)
  refine ⟨g1, ?_⟩
  rw [h6]
  exact g2 _ ⟨0, rfl, ho (by omega)⟩
set_option maxHeartbeats 4000000 in
set_option maxRecDepth 20000 in
theorem c_X11_fine (l0 : Launch) {Ia Ja : aI1} {Ra : aR1} {Sa : aS1} (hL : LY Ra Sa) (hQ : RX Ia) (hP : PI Ia)  : CT l0 0 0 0 mX11_fine [kR (some 49)] Ia Ja Ra Sa (cI (fun x I' J' => Ia = I' ∧ Ja = J' ∧ (0 ≤ x ∧ x ≤ 1) ∧ FN x Ia) Ra Sa) := by
  refine ct_in pn_X11 (Nat.le_of_ble_eq_true rfl) (fun X hX hT hIn => ?_)
  have hX : aK l0 X cX11_fine 1 RX11 (some .boolean) 0 0 0 := hX
  change WW X 0 [some (kR (some 49))] [] Ia Ja Ra Sa 0 0
  have qIa := RX_w hQ
  have oIa := PI_o hP
  have tIa := PI_t hP
  refine ww_aload_n hX (pc := 0) dX11_fine_0 rfl ?_
  refine ww_getI hX (pc := 1) fX11_155 (by decide) (xs_49 hL) dX11_fine_1 ?_
  refine ww_iconst hX (pc := 4) (x := (-1)) dX11_fine_4 rfl ?_
  refine ww_icmp_ne hX (pc := 5) (tgt := 12) dX11_fine_5 (by decide) (fun h_5 => ?_) (fun h_5 => ?_)
  · simp only [w32_mod] at h_5
    refine ww_iconst hX (pc := 12) (x := 0) dX11_fine_12 rfl ?_
    refine rZ hX (pc := 13) hT (Nat.le_refl 0) (Nat.le_refl 0) dX11_fine_13 (by decide) ?_
    exact ⟨rfl, rfl, by omega, (by unfold FN; omega)⟩
  · simp only [w32_mod] at h_5
    refine ww_iconst hX (pc := 8) (x := 1) dX11_fine_8 rfl ?_
    refine ww_goto hX (pc := 9) (tgt := 13) dX11_fine_9 (by decide) ?_
    refine rZ hX (pc := 13) hT (Nat.le_refl 0) (Nat.le_refl 0) dX11_fine_13 (by decide) ?_
    exact ⟨rfl, rfl, by omega, (by unfold FN; omega)⟩
set_option maxHeartbeats 4000000 in
set_option maxRecDepth 20000 in
theorem c_X11_faults (l0 : Launch) {Ia Ja : aI1} {Ra : aR1} {Sa : aS1} (hL : LY Ra Sa) (hQ : RX Ia) (hP : PI Ia)  : CT l0 1 0 0 mX11_faults [kR (some 49)] Ia Ja Ra Sa (cV (fun I' J' => Ch [] [18] Ia I' ∧ Kp 49 73 Ja J' ∧ RX I' ∧ PI I' ∧ I' 49 16 = Ia 49 16 ∧ NB I') Ra Sa) := by
  refine ct_in pn_X11 (Nat.le_of_ble_eq_true rfl) (fun X hX hT hIn => ?_)
  have hX : aK l0 X cX11_faults 1 RX11 none 1 0 0 := hX
  change WW X 0 [some (kR (some 49))] [] Ia Ja Ra Sa 0 0
  have qIa := RX_w hQ
  have oIa := PI_o hP
  have tIa := PI_t hP
  refine ww_aload_n hX (pc := 0) dX11_faults_0 rfl ?_
  refine vI0 hX (pc := 1) sX11_158 (xs_49 hL) (c_X11_fine l0 hL hQ  hP) (by decide) (Nat.le_refl 0) (Nat.le_refl 0) (Nat.le_of_ble_eq_true rfl) dX11_faults_1 (fun x_1 I_1 J_1 h_1 => ?_)
  obtain ⟨rfl, rfl, h_1⟩ := h_1
  refine ww_if_eq hX (pc := 4) (tgt := 20) dX11_faults_4 (by decide) (fun h_4 => ?_) (fun h_4 => ?_)
  · simp only [w32_mod] at h_4
    have nb := FN_0 h_1.2 (by omega)
    refine rV hX (pc := 20) hT (Nat.le_refl 0) (Nat.le_refl 0) dX11_faults_20 ?_
    exact ⟨Ch_rf, (Kp_rf (a := 49) (b := 73)), hQ, hP, by omega, nb⟩
  · simp only [w32_mod] at h_4
    have bb := FN_1 h_1.2 (by omega)
    refine ww_aload_n hX (pc := 7) dX11_faults_7 rfl ?_
    refine ww_aload_n hX (pc := 8) dX11_faults_8 rfl ?_
    refine ww_getR hX (pc := 9) fX11_49 (by decide) (xs_49 hL) (xr_49_14 hL) dX11_faults_9 ?_
    refine ww_aload_n hX (pc := 12) dX11_faults_12 rfl ?_
    refine ww_getI hX (pc := 13) fX11_162 (by decide) (xs_49 hL) dX11_faults_13 ?_
    refine ww_iald hX (pc := 16) (xs_59 hL) (by decide) (by omega) (by omega) dX11_faults_16 ?_
    refine ww_putI hX (pc := 17) (fun h9 => absurd h9 (by decide)) gX11_155 rfl (xs_49 hL) dX11_faults_17 ?_
    refine ww_nmH (fun I_17 eI_17 => ?_)
    have kI_17 : Ch [] [18] Ia I_17 := by rw [eI_17]; exact Ch_f Ch_rf (by decide)
    have cI_17 : RX I_17 := by rw [eI_17]; exact RX_f hQ (by decide)
    have qI_17 := RX_w cI_17
    have f15_I_17 : I_17 49 15 = Ia 49 15 := by rw [eI_17, up2_n _ _ (Or.inr (by decide))]
    have f16_I_17 : I_17 49 16 = Ia 49 16 := by rw [eI_17, up2_n _ _ (Or.inr (by decide))]
    have f17_I_17 : I_17 49 17 = Ia 49 17 := by rw [eI_17, up2_n _ _ (Or.inr (by decide))]
    have w18 : I_17 49 18 = Ia 59 (Ia 49 16).toNat := by rw [eI_17, up2_s]
    have pI_17 : PI I_17 := by rw [eI_17]; exact PI_f hP (by decide) (fun h => absurd h (by decide)) (fun _ => ⟨by omega, by omega⟩)
    have oI_17 := PI_o pI_17
    refine rV hX (pc := 20) hT (Nat.le_refl 0) (Nat.le_refl 0) dX11_faults_20 ?_
    exact ⟨kI_17, (Kp_rf (a := 49) (b := 73)), cI_17, pI_17, by omega, by unfold NB; omega⟩
set_option maxHeartbeats 4000000 in
set_option maxRecDepth 20000 in
theorem c_X11_takes0 (l0 : Launch) {Ia Ja : aI1} {Ra : aR1} {Sa : aS1} (hL : LY Ra Sa) (hQ : RX Ia) {r : Int} (hP : PI Ia) {c : Nat → Int} (hc : pvw Ia = c) (hr0 : 1 ≤ r) (hr1 : r ≤ 400)  : CT l0 1 0 0 mX11_takes0 [kR (some 49), kI r] Ia Ja Ra Sa (cI (fun x I' J' => Ch [] [16] Ia I' ∧ Kp 49 73 Ja J' ∧ RX I' ∧ PI I' ∧ (0 ≤ x ∧ x ≤ 1) ∧ I' 49 18 = Ia 49 18 ∧ (Ia 49 16 ≤ I' 49 16 ∧ I' 49 16 ≤ Ia 49 16 + 1) ∧ TK x c r Ia I') Ra Sa) := by
  refine ct_in pn_X11 (Nat.le_of_ble_eq_true rfl) (fun X hX hT hIn => ?_)
  have hX : aK l0 X cX11_takes0 3 RX11 (some .boolean) 1 0 0 := hX
  change WW X 0 [some (kR (some 49)), some (kI r), none] [] Ia Ja Ra Sa 0 0
  have qIa := RX_w hQ
  have oIa := PI_o hP
  have tIa := PI_t hP
  have atIa := pvw_at hP hc
  refine ww_aload_n hX (pc := 0) dX11_takes0_0 rfl ?_
  refine vI0 hX (pc := 1) sX11_158 (xs_49 hL) (c_X11_fine l0 hL hQ  hP) (by decide) (Nat.le_refl 0) (Nat.le_refl 0) (Nat.le_of_ble_eq_true rfl) dX11_takes0_1 (fun x_1 I_1 J_1 h_1 => ?_)
  obtain ⟨rfl, rfl, h_1⟩ := h_1
  refine ww_if_eq hX (pc := 4) (tgt := 24) dX11_takes0_4 (by decide) (fun h_4 => ?_) (fun h_4 => ?_)
  · simp only [w32_mod] at h_4
    have nb := FN_0 h_1.2 (by omega)
    refine ww_iconst hX (pc := 24) (x := 0) dX11_takes0_24 rfl ?_
    refine ww_istore_n hX (pc := 25) (lv' := [some (kR (some 49)), some (kI r), some (kI 0)]) dX11_takes0_25 (by decide) rfl rfl ?_
    refine ww_iload_n hX (pc := 26) dX11_takes0_26 rfl ?_
    refine ww_if_eq hX (pc := 27) (tgt := 40) dX11_takes0_27 (by decide) (fun h_27 => ?_) (fun h_27 => ?_)
    · simp only [w32_mod] at h_27
      refine ww_iload_n hX (pc := 40) dX11_takes0_40 rfl ?_
      refine rZ hX (pc := 41) hT (Nat.le_refl 0) (Nat.le_refl 0) dX11_takes0_41 (by decide) ?_
      exact ⟨Ch_rf, (Kp_rf (a := 49) (b := 73)), hQ, hP, by omega, by omega, by omega, ⟨fun h => absurd h (by decide), fun _ => ⟨by omega, fun g => absurd g nb⟩⟩⟩
    · simp only [w32_mod] at h_27
      exfalso
      omega
  · simp only [w32_mod] at h_4
    have bb := FN_1 h_1.2 (by omega)
    refine ww_aload_n hX (pc := 7) dX11_takes0_7 rfl ?_
    refine ww_getR hX (pc := 8) fX11_43 (by decide) (xs_49 hL) (xr_49_12 hL) dX11_takes0_8 ?_
    refine ww_aload_n hX (pc := 11) dX11_takes0_11 rfl ?_
    refine ww_getI hX (pc := 12) fX11_162 (by decide) (xs_49 hL) dX11_takes0_12 ?_
    refine ww_iald hX (pc := 15) (xs_57 hL) (by decide) (by omega) (by omega) dX11_takes0_15 ?_
    refine ww_iload_n hX (pc := 16) dX11_takes0_16 rfl ?_
    refine ww_icmp_ne hX (pc := 17) (tgt := 24) dX11_takes0_17 (by decide) (fun h_17 => ?_) (fun h_17 => ?_)
    · simp only [w32_mod] at h_17
      refine ww_iconst hX (pc := 24) (x := 0) dX11_takes0_24 rfl ?_
      refine ww_istore_n hX (pc := 25) (lv' := [some (kR (some 49)), some (kI r), some (kI 0)]) dX11_takes0_25 (by decide) rfl rfl ?_
      refine ww_iload_n hX (pc := 26) dX11_takes0_26 rfl ?_
      refine ww_if_eq hX (pc := 27) (tgt := 40) dX11_takes0_27 (by decide) (fun h_27 => ?_) (fun h_27 => ?_)
      · simp only [w32_mod] at h_27
        refine ww_iload_n hX (pc := 40) dX11_takes0_40 rfl ?_
        refine rZ hX (pc := 41) hT (Nat.le_refl 0) (Nat.le_refl 0) dX11_takes0_41 (by decide) ?_
        exact ⟨Ch_rf, (Kp_rf (a := 49) (b := 73)), hQ, hP, by omega, by omega, by omega, ⟨fun h => absurd h (by decide), fun _ => ⟨by omega, fun g => (by omega)⟩⟩⟩
      · simp only [w32_mod] at h_27
        exfalso
        omega
    · simp only [w32_mod] at h_17
      refine ww_iconst hX (pc := 20) (x := 1) dX11_takes0_20 rfl ?_
      refine ww_goto hX (pc := 21) (tgt := 25) dX11_takes0_21 (by decide) ?_
      refine ww_istore_n hX (pc := 25) (lv' := [some (kR (some 49)), some (kI r), some (kI 1)]) dX11_takes0_25 (by decide) rfl rfl ?_
      refine ww_iload_n hX (pc := 26) dX11_takes0_26 rfl ?_
      refine ww_if_eq hX (pc := 27) (tgt := 40) dX11_takes0_27 (by decide) (fun h_27 => ?_) (fun h_27 => ?_)
      · simp only [w32_mod] at h_27
        exfalso
        omega
      · simp only [w32_mod] at h_27
        refine ww_aload_n hX (pc := 30) dX11_takes0_30 rfl ?_
        refine ww_dupR hX (pc := 31) dX11_takes0_31 ?_
        refine ww_getI hX (pc := 32) fX11_162 (by decide) (xs_49 hL) dX11_takes0_32 ?_
        refine ww_iconst hX (pc := 35) (x := 1) dX11_takes0_35 rfl ?_
        refine ww_iadd hX (pc := 36) dX11_takes0_36 ?_
        refine ww_putI hX (pc := 37) (fun h9 => absurd h9 (by decide)) gX11_162 rfl (xs_49 hL) dX11_takes0_37 ?_
        have lt37 := PI_lt hP (by omega)
        refine ww_nmH (fun I_37 eI_37 => ?_)
        have kI_37 : Ch [] [16] Ia I_37 := by rw [eI_37]; exact Ch_f Ch_rf (by decide)
        have cI_37 : RX I_37 := by rw [eI_37]; exact RX_f hQ (by decide)
        have qI_37 := RX_w cI_37
        have f15_I_37 : I_37 49 15 = Ia 49 15 := by rw [eI_37, up2_n _ _ (Or.inr (by decide))]
        have f17_I_37 : I_37 49 17 = Ia 49 17 := by rw [eI_37, up2_n _ _ (Or.inr (by decide))]
        have f18_I_37 : I_37 49 18 = Ia 49 18 := by rw [eI_37, up2_n _ _ (Or.inr (by decide))]
        have w16 : I_37 49 16 = Ia 49 16 + 1 := by rw [eI_37, up2_s]
        have pI_37 : PI I_37 := by rw [eI_37]; exact PI_f hP (by decide) (fun _ => ⟨by omega, by omega⟩) (fun h => absurd h (by decide))
        have oI_37 := PI_o pI_37
        refine ww_iload_n hX (pc := 40) dX11_takes0_40 rfl ?_
        refine rZ hX (pc := 41) hT (Nat.le_refl 0) (Nat.le_refl 0) dX11_takes0_41 (by decide) ?_
        exact ⟨kI_37, (Kp_rf (a := 49) (b := 73)), cI_37, pI_37, by omega, by omega, by omega, ⟨fun _ => ⟨bb, by omega, w16⟩, fun h => absurd h (by decide)⟩⟩
theorem MU_1 {c : Nat → Int} {r : Int} {I I' : aI1} (h : I 49 18 = -1 ∧ c (I 49 16).toNat = r ∧ I' 49 16 = I 49 16 + 1) : MU c r I I' := fun _ => h
theorem MU_0 {c : Nat → Int} {r : Int} {I I' : aI1} (h : NB I') : MU c r I I' := fun g => absurd g h
set_option maxHeartbeats 4000000 in
set_option maxRecDepth 20000 in
theorem c_X11_must (l0 : Launch) {Ia Ja : aI1} {Ra : aR1} {Sa : aS1} (hL : LY Ra Sa) (hQ : RX Ia) {r : Int} (hP : PI Ia) {c : Nat → Int} (hc : pvw Ia = c) (hr0 : 1 ≤ r) (hr1 : r ≤ 400)  : CT l0 2 0 0 mX11_must [kR (some 49), kI r] Ia Ja Ra Sa (cV (fun I' J' => Ch [] [16, 18] Ia I' ∧ Kp 49 73 Ja J' ∧ RX I' ∧ PI I' ∧ Ia 49 16 ≤ I' 49 16 ∧ MU c r Ia I') Ra Sa) := by
  refine ct_in pn_X11 (Nat.le_of_ble_eq_true rfl) (fun X hX hT hIn => ?_)
  have hX : aK l0 X cX11_must 2 RX11 none 2 0 0 := hX
  change WW X 0 [some (kR (some 49)), some (kI r)] [] Ia Ja Ra Sa 0 0
  have qIa := RX_w hQ
  have oIa := PI_o hP
  have tIa := PI_t hP
  have atIa := pvw_at hP hc
  refine ww_aload_n hX (pc := 0) dX11_must_0 rfl ?_
  refine ww_iload_n hX (pc := 1) dX11_must_1 rfl ?_
  refine vI1 hX (pc := 2) sX11_165 (xs_49 hL) (c_X11_takes0 l0 hL hQ  hP hc (by omega) (by omega)) (by decide) (Nat.le_refl 0) (Nat.le_refl 0) (Nat.le_of_ble_eq_true rfl) dX11_must_2 (fun x_2 I_2 J_2 h_2 => ?_)
  have kJ_2 : Kp 49 73 Ja J_2 := Kp_tr (Kp_rf (a := 49) (b := 73)) h_2.2.1
  have kI_2 : Ch [] [16, 18] Ia I_2 := Ch_tr Ch_rf (Ch_wd h_2.1 (by decide) (by decide))
  have cI_2 : RX I_2 := h_2.2.2.1
  have qI_2 := RX_w cI_2
  have f15_I_2 : I_2 49 15 = Ia 49 15 := h_2.1.2 15 (by decide)
  have f17_I_2 : I_2 49 17 = Ia 49 17 := h_2.1.2 17 (by decide)
  have f18_I_2 : I_2 49 18 = Ia 49 18 := h_2.1.2 18 (by decide)
  have pI_2 : PI I_2 := h_2.2.2.2.1
  have oI_2 := PI_o pI_2
  have yI_2 := h_2.2.2.2.2
  refine ww_if_ne hX (pc := 5) (tgt := 12) dX11_must_5 (by decide) (fun h_5 => ?_) (fun h_5 => ?_)
  · simp only [w32_mod] at h_5
    have s2 := TK_1 yI_2.2.2.2 (by omega)
    refine rV hX (pc := 12) hT (Nat.le_refl 0) (Nat.le_refl 0) dX11_must_12 ?_
    exact ⟨kI_2, kJ_2, cI_2, pI_2, by omega, MU_1 s2⟩
  · simp only [w32_mod] at h_5
    refine ww_aload_n hX (pc := 8) dX11_must_8 rfl ?_
    refine vV0 hX (pc := 9) sX11_168 (xs_49 hL) (c_X11_faults l0 hL cI_2  pI_2) (by decide) (Nat.le_refl 0) (Nat.le_refl 0) (Nat.le_of_ble_eq_true rfl) dX11_must_9 (fun I_9 J_9 h_9 => ?_)
    have kJ_9 : Kp 49 73 Ja J_9 := Kp_tr kJ_2 h_9.2.1
    have kI_9 : Ch [] [16, 18] Ia I_9 := Ch_tr kI_2 (Ch_wd h_9.1 (by decide) (by decide))
    have cI_9 : RX I_9 := h_9.2.2.1
    have qI_9 := RX_w cI_9
    have f15_I_9 : I_9 49 15 = I_2 49 15 := h_9.1.2 15 (by decide)
    have f16_I_9 : I_9 49 16 = I_2 49 16 := h_9.1.2 16 (by decide)
    have f17_I_9 : I_9 49 17 = I_2 49 17 := h_9.1.2 17 (by decide)
    have pI_9 : PI I_9 := h_9.2.2.2.1
    have oI_9 := PI_o pI_9
    have yI_9 := h_9.2.2.2.2
    refine rV hX (pc := 12) hT (Nat.le_refl 0) (Nat.le_refl 0) dX11_must_12 ?_
    exact ⟨kI_9, kJ_9, cI_9, pI_9, by omega, MU_0 yI_9.2⟩
set_option maxHeartbeats 4000000 in
set_option maxRecDepth 20000 in
theorem c_X11_leaf (l0 : Launch) {Ia Ja : aI1} {Ra : aR1} {Sa : aS1} (hL : LY Ra Sa) (hQ : RX Ia) (hP : PI Ia) (hz : 1 ≤ Ia 57 (Ia 49 16).toNat)  : CT l0 2 0 0 mX11_leaf [kR (some 49)] Ia Ja Ra Sa (cV (fun I' J' => Ch [] [16, 17, 18] Ia I' ∧ Kp 49 73 Ja J' ∧ RX I' ∧ PI I' ∧ Ia 49 16 ≤ I' 49 16 ∧ LF Ia I') Ra Sa) := by
  refine ct_in pn_X11 (Nat.le_of_ble_eq_true rfl) (fun X hX hT hIn => ?_)
  have hX : aK l0 X cX11_leaf 1 RX11 none 2 0 0 := hX
  change WW X 0 [some (kR (some 49))] [] Ia Ja Ra Sa 0 0
  have qIa := RX_w hQ
  have oIa := PI_o hP
  have tIa := PI_t hP
  refine ww_aload_n hX (pc := 0) dX11_leaf_0 rfl ?_
  refine ww_getI hX (pc := 1) fX11_171 (by decide) (xs_49 hL) dX11_leaf_1 ?_
  refine ww_bipush hX (pc := 4) (x := 50) dX11_leaf_4 (by decide) ?_
  refine ww_icmp_ne hX (pc := 6) (tgt := 13) dX11_leaf_6 (by decide) (fun h_6 => ?_) (fun h_6 => ?_)
  · simp only [w32_mod] at h_6
    refine ww_aload_n hX (pc := 13) dX11_leaf_13 rfl ?_
    refine ww_dupR hX (pc := 14) dX11_leaf_14 ?_
    refine ww_getI hX (pc := 15) fX11_171 (by decide) (xs_49 hL) dX11_leaf_15 ?_
    refine ww_iconst hX (pc := 18) (x := 1) dX11_leaf_18 rfl ?_
    refine ww_iadd hX (pc := 19) dX11_leaf_19 ?_
    refine ww_putI hX (pc := 20) (fun h9 => absurd h9 (by decide)) gX11_171 rfl (xs_49 hL) dX11_leaf_20 ?_
    refine ww_nmH (fun I_20 eI_20 => ?_)
    have kI_20 : Ch [] [16, 17, 18] Ia I_20 := by rw [eI_20]; exact Ch_f Ch_rf (by decide)
    have cI_20 : RX I_20 := by rw [eI_20]; exact RX_f hQ (by decide)
    have qI_20 := RX_w cI_20
    have f15_I_20 : I_20 49 15 = Ia 49 15 := by rw [eI_20, up2_n _ _ (Or.inr (by decide))]
    have f16_I_20 : I_20 49 16 = Ia 49 16 := by rw [eI_20, up2_n _ _ (Or.inr (by decide))]
    have f18_I_20 : I_20 49 18 = Ia 49 18 := by rw [eI_20, up2_n _ _ (Or.inr (by decide))]
    have h57 : I_20 57 = Ia 57 := by rw [eI_20, up2_off _ _ _ (by decide)]
    have hpv : Ia 57 = Ia 57 := rfl
    have hz2 : 1 ≤ I_20 57 (I_20 49 16).toNat := by rw [h57, hpv, show I_20 49 16 = Ia 49 16 by omega]; exact hz
    have pI_20 : PI I_20 := by rw [eI_20]; exact PI_f hP (by decide) (fun h => absurd h (by decide)) (fun h => absurd h (by decide))
    have oI_20 := PI_o pI_20
    refine ww_aload_n hX (pc := 23) dX11_leaf_23 rfl ?_
    refine vI0 hX (pc := 24) sX11_158 (xs_49 hL) (c_X11_fine l0 hL cI_20  pI_20) (by decide) (Nat.le_refl 0) (Nat.le_refl 0) (Nat.le_of_ble_eq_true rfl) dX11_leaf_24 (fun x_24 I_24 J_24 h_24 => ?_)
    obtain ⟨rfl, rfl, h_24⟩ := h_24
    refine ww_if_eq hX (pc := 27) (tgt := 40) dX11_leaf_27 (by decide) (fun h_27 => ?_) (fun h_27 => ?_)
    · simp only [w32_mod] at h_27
      have nb := FN_0 h_24.2 (by omega)
      refine rV hX (pc := 40) hT (Nat.le_refl 0) (Nat.le_refl 0) dX11_leaf_40 ?_
      exact ⟨kI_20, (Kp_rf (a := 49) (b := 73)), cI_20, pI_20, by omega, fun g => absurd g nb⟩
    · simp only [w32_mod] at h_27
      have bb := FN_1 h_24.2 (by omega)
      refine ww_aload_n hX (pc := 30) dX11_leaf_30 rfl ?_
      refine ww_dupR hX (pc := 31) dX11_leaf_31 ?_
      refine ww_getI hX (pc := 32) fX11_162 (by decide) (xs_49 hL) dX11_leaf_32 ?_
      refine ww_iconst hX (pc := 35) (x := 1) dX11_leaf_35 rfl ?_
      refine ww_iadd hX (pc := 36) dX11_leaf_36 ?_
      refine ww_putI hX (pc := 37) (fun h9 => absurd h9 (by decide)) gX11_162 rfl (xs_49 hL) dX11_leaf_37 ?_
      have lt37 := PI_lt pI_20 (by omega)
      refine ww_nmH (fun I_37 eI_37 => ?_)
      have kI_37 : Ch [] [16, 17, 18] Ia I_37 := by rw [eI_37]; exact Ch_f kI_20 (by decide)
      have cI_37 : RX I_37 := by rw [eI_37]; exact RX_f cI_20 (by decide)
      have qI_37 := RX_w cI_37
      have f15_I_37 : I_37 49 15 = I_20 49 15 := by rw [eI_37, up2_n _ _ (Or.inr (by decide))]
      have f17_I_37 : I_37 49 17 = I_20 49 17 := by rw [eI_37, up2_n _ _ (Or.inr (by decide))]
      have f18_I_37 : I_37 49 18 = I_20 49 18 := by rw [eI_37, up2_n _ _ (Or.inr (by decide))]
      have w16 : I_37 49 16 = I_20 49 16 + 1 := by rw [eI_37, up2_s]
      have pI_37 : PI I_37 := by rw [eI_37]; exact PI_f pI_20 (by decide) (fun _ => ⟨by omega, by omega⟩) (fun h => absurd h (by decide))
      have oI_37 := PI_o pI_37
      refine rV hX (pc := 40) hT (Nat.le_refl 0) (Nat.le_refl 0) dX11_leaf_40 ?_
      exact ⟨kI_37, (Kp_rf (a := 49) (b := 73)), cI_37, pI_37, by omega, fun _ => ⟨by omega, by omega⟩⟩
  · simp only [w32_mod] at h_6
    refine ww_aload_n hX (pc := 9) dX11_leaf_9 rfl ?_
    refine vV0 hX (pc := 10) sX11_168 (xs_49 hL) (c_X11_faults l0 hL hQ  hP) (by decide) (Nat.le_refl 0) (Nat.le_refl 0) (Nat.le_of_ble_eq_true rfl) dX11_leaf_10 (fun I_10 J_10 h_10 => ?_)
    have kJ_10 : Kp 49 73 Ja J_10 := Kp_tr (Kp_rf (a := 49) (b := 73)) h_10.2.1
    have kI_10 : Ch [] [16, 17, 18] Ia I_10 := Ch_tr Ch_rf (Ch_wd h_10.1 (by decide) (by decide))
    have cI_10 : RX I_10 := h_10.2.2.1
    have qI_10 := RX_w cI_10
    have f15_I_10 : I_10 49 15 = Ia 49 15 := h_10.1.2 15 (by decide)
    have f16_I_10 : I_10 49 16 = Ia 49 16 := h_10.1.2 16 (by decide)
    have f17_I_10 : I_10 49 17 = Ia 49 17 := h_10.1.2 17 (by decide)
    have pI_10 : PI I_10 := h_10.2.2.2.1
    have oI_10 := PI_o pI_10
    have yI_10 := h_10.2.2.2.2
    refine ww_aload_n hX (pc := 13) dX11_leaf_13 rfl ?_
    refine ww_dupR hX (pc := 14) dX11_leaf_14 ?_
    refine ww_getI hX (pc := 15) fX11_171 (by decide) (xs_49 hL) dX11_leaf_15 ?_
    refine ww_iconst hX (pc := 18) (x := 1) dX11_leaf_18 rfl ?_
    refine ww_iadd hX (pc := 19) dX11_leaf_19 ?_
    refine ww_putI hX (pc := 20) (fun h9 => absurd h9 (by decide)) gX11_171 rfl (xs_49 hL) dX11_leaf_20 ?_
    refine ww_nmH (fun I_20 eI_20 => ?_)
    have kI_20 : Ch [] [16, 17, 18] Ia I_20 := by rw [eI_20]; exact Ch_f kI_10 (by decide)
    have cI_20 : RX I_20 := by rw [eI_20]; exact RX_f cI_10 (by decide)
    have qI_20 := RX_w cI_20
    have f15_I_20 : I_20 49 15 = I_10 49 15 := by rw [eI_20, up2_n _ _ (Or.inr (by decide))]
    have f16_I_20 : I_20 49 16 = I_10 49 16 := by rw [eI_20, up2_n _ _ (Or.inr (by decide))]
    have f18_I_20 : I_20 49 18 = I_10 49 18 := by rw [eI_20, up2_n _ _ (Or.inr (by decide))]
    have h57 : I_20 57 = I_10 57 := by rw [eI_20, up2_off _ _ _ (by decide)]
    have hpv : I_10 57 = Ia 57 := h_10.1.1 57 (by decide) (by decide)
    have hz2 : 1 ≤ I_20 57 (I_20 49 16).toNat := by rw [h57, hpv, show I_20 49 16 = Ia 49 16 by omega]; exact hz
    have pI_20 : PI I_20 := by rw [eI_20]; exact PI_f pI_10 (by decide) (fun h => absurd h (by decide)) (fun h => absurd h (by decide))
    have oI_20 := PI_o pI_20
    refine ww_aload_n hX (pc := 23) dX11_leaf_23 rfl ?_
    refine vI0 hX (pc := 24) sX11_158 (xs_49 hL) (c_X11_fine l0 hL cI_20  pI_20) (by decide) (Nat.le_refl 0) (Nat.le_refl 0) (Nat.le_of_ble_eq_true rfl) dX11_leaf_24 (fun x_24 I_24 J_24 h_24 => ?_)
    obtain ⟨rfl, rfl, h_24⟩ := h_24
    refine ww_if_eq hX (pc := 27) (tgt := 40) dX11_leaf_27 (by decide) (fun h_27 => ?_) (fun h_27 => ?_)
    · simp only [w32_mod] at h_27
      have nb := FN_0 h_24.2 (by omega)
      refine rV hX (pc := 40) hT (Nat.le_refl 0) (Nat.le_refl 0) dX11_leaf_40 ?_
      exact ⟨kI_20, kJ_10, cI_20, pI_20, by omega, fun g => absurd g nb⟩
    · simp only [w32_mod] at h_27
      have bb := FN_1 h_24.2 (by omega)
      exact absurd (show I_10 49 18 = -1 by omega) yI_10.2
