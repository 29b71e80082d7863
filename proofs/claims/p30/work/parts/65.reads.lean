theorem PI_g {I : aI1} {j : Nat} {v : Int} (h : PI I) (hj : j ≠ 15 ∧ j ≠ 16 ∧ j ≠ 18) : PI (up2 I 49 j v) := by
  have e : ∀ q, q ≠ j → up2 I 49 j v 49 q = I 49 q := fun q hq => up2_n _ _ (Or.inr hq)
  unfold PI at h ⊢
  rw [up2_off _ _ _ (show 57 ≠ 49 by decide), up2_off _ _ _ (show 59 ≠ 49 by decide), e 15 (by omega), e 16 (by omega), e 18 (by omega)]
  exact h
theorem KR_up {k : Nat → Int} {q : Nat} {v : Int} (h : KR k) (hq : (311 + k 310 ≤ q ∧ q ≤ 316) ∨ (317 + 400 * k 310 ≤ q ∧ q < 2717 ∧ 0 ≤ v ∧ v ≤ 400) ∨ 2717 ≤ q) : KR (up1 k q v) := by
  unfold KR at h ⊢
  obtain ⟨a4, a5, a7, a8, a9, a10, b1, b2⟩ := h
  have e : ∀ j, j ≠ q → up1 k q v j = k j := fun j hj => up1_n _ _ hj
  rw [e 304 (by omega), e 305 (by omega), e 307 (by omega), e 308 (by omega), e 309 (by omega), e 310 (by omega)]
  refine ⟨a4, a5, a7, a8, a9, a10, fun j g1 g2 => ?_, fun t ht => ?_⟩
  · by_cases hj : j = q
    · rw [hj, up1_s]; omega
    · rw [e j hj]; exact b1 j g1 g2
  · have b3 := b2 t ht
    have hv : cvw (up1 k q v) t = cvw k t := by
      funext i
      unfold cvw
      rw [e (311 + t) (by omega)]
      by_cases hi : (i : Int) < k (311 + t)
      · rw [if_pos hi, if_pos hi, e _ (by omega)]
      · rw [if_neg hi, if_neg hi]
    rw [hv, e _ (by omega)]
    exact b3
theorem RX_up {I : aI1} {q : Nat} {v : Int} (h : RX I) (hq : (311 + I 51 310 ≤ q ∧ q ≤ 316) ∨ (317 + 400 * I 51 310 ≤ q ∧ q < 2717 ∧ 0 ≤ v ∧ v ≤ 400) ∨ 2717 ≤ q) : RX (up2 I 51 q v) :=
  RX_k h (fun a ha => up2_off _ _ _ ha) (by rw [up2_row]; exact KR_up h.1 hq)
theorem KR_tl {k : Nat → Int} {t : Nat} (h : KR k) (ht : k 310 = t) (h5 : t ≤ 5) (hs : 0 ≤ k (311 + t) ∧ k (311 + t) ≤ 400) (hl : LawG (cvw k t) (k (311 + t)).toNat) : KR (up1 k 310 (k 310 + 1)) := by
  unfold KR at h ⊢
  obtain ⟨a4, a5, a7, a8, a9, a10, b1, b2⟩ := h
  have e : ∀ j, j ≠ 310 → up1 k 310 (k 310 + 1) j = k j := fun j hj => up1_n _ _ hj
  rw [e 304 (by omega), e 305 (by omega), e 307 (by omega), e 308 (by omega), e 309 (by omega), up1_s]
  refine ⟨a4, a5, a7, a8, a9, by omega, fun j g1 g2 => by rw [e j (by omega)]; exact b1 j g1 g2, fun t' ht' => ?_⟩
  have hv : cvw (up1 k 310 (k 310 + 1)) t' = cvw k t' := by
    funext i
    unfold cvw
    rw [e _ (by omega), e _ (by omega)]
  rw [hv, e _ (by omega)]
  by_cases e9 : t' = t
  · subst e9
    exact ⟨hs, hl⟩
  · exact b2 t' (by omega)
theorem RX_tl {I : aI1} {v : Int} {t : Nat} (h : RX I) (hv : v = I 51 310 + 1) (ht : I 51 310 = t) (h5 : t ≤ 5) (hs : 0 ≤ I 51 (311 + t) ∧ I 51 (311 + t) ≤ 400) (hl : LawG (cvw (I 51) t) (I 51 (311 + t)).toNat) : RX (up2 I 51 (310 : Int).toNat v) :=
  RX_k h (fun a ha => up2_off _ _ _ ha) (by rw [up2_row, hv]; exact KR_tl h.1 ht h5 hs hl)
theorem cvw_pvw {k : Nat → Int} {I : aI1} {t : Nat} (h1 : k (311 + t) = I 49 15) (h2 : ∀ j : Nat, (j : Int) < I 49 15 → k (317 + 400 * t + j) = I 57 j) : cvw k t = pvw I := by
  funext i
  unfold cvw pvw
  rw [h1]
  by_cases hi : (i : Int) < I 49 15
  · rw [if_pos hi, if_pos hi, h2 i hi]
  · rw [if_neg hi, if_neg hi]
theorem RX_l {I : aI1} (h : RX I) : (0 ≤ I 49 10 ∧ I 49 10 ≤ 400) ∧ (0 ≤ I 51 310 ∧ I 51 310 ≤ 6) := ⟨h.2.2.2.1, h.1.2.2.2.2.2.1⟩
