/-- the reader's state -/
def PI (I : aI1) : Prop := (0 ≤ I 49 15 ∧ I 49 15 ≤ 400) ∧ (0 ≤ I 49 16 ∧ I 49 16 ≤ I 49 15) ∧ (-1 ≤ I 49 18 ∧ I 49 18 ≤ 400) ∧ RG (I 57) (I 49 15 + 1) ∧ RG (I 59) (I 49 15 + 1) ∧ I 57 (I 49 15).toNat = 0
theorem PI_o {I : aI1} (h : PI I) : (0 ≤ I 49 15 ∧ I 49 15 ≤ 400) ∧ (0 ≤ I 49 16 ∧ I 49 16 ≤ I 49 15) ∧ (-1 ≤ I 49 18 ∧ I 49 18 ≤ 400) := ⟨h.1, h.2.1, h.2.2.1⟩
theorem PI_t {I : aI1} (h : PI I) : (0 ≤ I 57 (I 49 16).toNat ∧ I 57 (I 49 16).toNat ≤ 400) ∧ (0 ≤ I 59 (I 49 16).toNat ∧ I 59 (I 49 16).toNat ≤ 400) := by
  have h1 := PI_o h
  exact ⟨h.2.2.2.1 _ (by omega), h.2.2.2.2.1 _ (by omega)⟩
theorem PI_lt {I : aI1} (h : PI I) (hz : 1 ≤ I 57 (I 49 16).toNat) : I 49 16 < I 49 15 := by
  have h1 := PI_o h
  by_cases e : I 49 16 = I 49 15
  · rw [e] at hz
    have := h.2.2.2.2.2
    omega
  · omega
/-- what the reader's steps say, kept shut -/
def NB (I : aI1) : Prop := ¬ I 49 18 = -1
def FN (x : Int) (I : aI1) : Prop := x = 1 ↔ I 49 18 = -1
theorem FN_1 {x : Int} {I : aI1} (h : FN x I) (hx : x = 1) : I 49 18 = -1 := h.mp hx
theorem FN_0 {x : Int} {I : aI1} (h : FN x I) (hx : x = 0) : NB I := fun g => by have := h.mpr g; omega
def NOP (c : Nat → Int) (r : Int) (I : aI1) : Prop := I 49 18 = -1 → ¬ c (I 49 16).toNat = r
def TK (x : Int) (c : Nat → Int) (r : Int) (I I' : aI1) : Prop := (x = 1 → I 49 18 = -1 ∧ c (I 49 16).toNat = r ∧ I' 49 16 = I 49 16 + 1) ∧ (x = 0 → I' 49 16 = I 49 16 ∧ NOP c r I)
theorem TK_1 {x : Int} {c : Nat → Int} {r : Int} {I I' : aI1} (h : TK x c r I I') (hx : x = 1) : I 49 18 = -1 ∧ c (I 49 16).toNat = r ∧ I' 49 16 = I 49 16 + 1 := h.1 hx
theorem TK_0 {x : Int} {c : Nat → Int} {r : Int} {I I' : aI1} (h : TK x c r I I') (hx : x = 0) : I' 49 16 = I 49 16 ∧ NOP c r I := h.2 hx
theorem PI_f {I : aI1} {j : Nat} {v : Int} (h : PI I) (hj : j = 16 ∨ j = 17 ∨ j = 18) (h16 : j = 16 → 0 ≤ v ∧ v ≤ I 49 15) (h18 : j = 18 → -1 ≤ v ∧ v ≤ 400) : PI (up2 I 49 j v) := by
  have e : ∀ q, q ≠ j → up2 I 49 j v 49 q = I 49 q := fun q hq => up2_n _ _ (Or.inr hq)
  have e2 : ∀ a, a ≠ 49 → up2 I 49 j v a = I a := fun a ha => up2_off _ _ _ ha
  unfold PI at h ⊢
  rw [e2 57 (by decide), e2 59 (by decide), e 15 (by omega)]
  refine ⟨h.1, ?_, ?_, h.2.2.2⟩
  · by_cases q : j = 16
    · rw [q, up2_s]; exact h16 q
    · rw [e 16 (by omega)]; exact h.2.1
  · by_cases q : j = 18
    · rw [q, up2_s]; exact h18 q
    · rw [e 18 (by omega)]; exact h.2.2.1
def pvw (I : aI1) (i : Nat) : Int := if (i : Int) < I 49 15 then I 57 i else 0
theorem pvw_tr {rs fs : List Nat} {I I' : aI1} {c : Nat → Int} (h : Ch rs fs I I') (h1 : 15 ∉ fs) (h2 : 57 ∉ rs) (hc : pvw I = c) : pvw I' = c := by
  rw [← hc]
  funext i
  unfold pvw
  rw [h.1 57 (by decide) h2, h.2 15 h1]
theorem pvw_at {I : aI1} {c : Nat → Int} (h : PI I) (hc : pvw I = c) : c (I 49 16).toNat = I 57 (I 49 16).toNat := by
  have h1 := PI_o h
  rw [← hc]
  unfold pvw
  by_cases e : I 49 16 < I 49 15
  · rw [if_pos (by omega)]
  · rw [if_neg (by omega), show I 49 16 = I 49 15 by omega]
    exact h.2.2.2.2.2.symm
def GPm (c : Nat → Int) : Nat → Nat → Nat → Prop
  | 0 => GPart (fun _ _ => False) c
  | k + 1 => GPart (GSum c k) c
theorem GSum_eq (c : Nat → Int) (m : Nat) : GSum c m = GSeq (GSeq (GPm c m) opT c) opS c := by cases m <;> rfl
def GPlm (c : Nat → Int) : Nat → Nat → Nat → Prop
  | 0 => GPlain (fun _ _ => False) (GSum c 0) c
  | k + 1 => GPlain (GTest c k) (GSum c (k + 1)) c
theorem GTest_eq (c : Nat → Int) (m : Nat) : GTest c m = GSeq (GSeq (GPlm c m) opA c) opO c := by cases m <;> rfl
set_option maxHeartbeats 4000000 in
set_option maxRecDepth 20000 in
theorem c_X11_fine (l0 : Launch) {Ia Ja : aI1} {Ra : aR1} {Sa : aS1} (hL : LY Ra Sa) (hQ : RX Ia) (hP : PI Ia)  : CT l0 0 0 0 mX11_fine [kR (some 49)] Ia Ja Ra Sa (cI (fun x I' J' => Ia = I' ∧ Ja = J' ∧ (0 ≤ x ∧ x ≤ 1) ∧ FN x Ia) Ra Sa) := by
  refine ct_in pn_X11 (Nat.le_of_ble_eq_true rfl) (fun X hX hT hIn => ?_)
  have hX : aK l0 X cX11_fine 1 RX11 (some .boolean) 0 0 0 := hX
  change WW X 0 [some (kR (some 49))] [] Ia Ja Ra Sa 0 0
  have qIa := RX_w hQ
  have oIa := PI_o hP
  have tIa := PI_t hP
  refine ww_aload_n hX (pc := 0) dX11_fine_0 rfl ?_
  refine ww_getI hX (pc := 1) fX11_155 (by decide) (xs_49 hL) dX11_fine_1 ?_
  refine ww_iconst hX (pc := 4) (x := (-1)) dX11_fine_4 rfl ?_
  refine ww_icmp_ne hX (pc := 5) (tgt := 12) dX11_fine_5 (by decide) (fun h_5 => ?_) (fun h_5 => ?_)
  · simp only [w32_mod] at h_5
    refine ww_iconst hX (pc := 12) (x := 0) dX11_fine_12 rfl ?_
    refine rZ hX (pc := 13) hT (Nat.le_refl 0) (Nat.le_refl 0) dX11_fine_13 (by decide) ?_
    exact ⟨rfl, rfl, by omega, (by unfold FN; omega)⟩
  · simp only [w32_mod] at h_5
    refine ww_iconst hX (pc := 8) (x := 1) dX11_fine_8 rfl ?_
    refine ww_goto hX (pc := 9) (tgt := 13) dX11_fine_9 (by decide) ?_
    refine rZ hX (pc := 13) hT (Nat.le_refl 0) (Nat.le_refl 0) dX11_fine_13 (by decide) ?_
    exact ⟨rfl, rfl, by omega, (by unfold FN; omega)⟩
