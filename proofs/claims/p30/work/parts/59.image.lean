theorem KR_ext {k k' : Nat → Int} (h : KR k) (e : ∀ j, j < 5117 → k' j = k j) : KR k' := by
  unfold KR at h ⊢
  rw [e 304 (by decide), e 305 (by decide), e 307 (by decide), e 308 (by decide), e 309 (by decide), e 310 (by decide)]
  obtain ⟨a4, a5, a7, a8, a9, a10, b1, b2⟩ := h
  refine ⟨a4, a5, a7, a8, a9, a10, fun j g1 g2 => by rw [e j (by omega)]; exact b1 j g1 g2, fun t ht => ?_⟩
  have h2 := b2 t ht
  have hv : cvw k' t = cvw k t := by
    funext i
    unfold cvw
    rw [e _ (by omega)]
    by_cases g : (i : Int) < k (311 + t)
    · rw [if_pos g, if_pos g, e _ (by omega)]
    · rw [if_neg g, if_neg g]
  rw [hv, e _ (by omega)]
  exact h2
def imgR (I : aI1) (a i : Int) : aI1 := upR I 52 (fun b => if 5117 * a ≤ (b : Int) ∧ (b : Int) < 5117 * a + i then I 51 ((b : Int) - 5117 * a).toNat else I 52 b)
theorem imgR_0 (I : aI1) (a : Int) : I = imgR I a 0 := by
  funext x b
  unfold imgR
  by_cases h : x = 52
  · subst h; rw [upR_s, if_neg (by omega)]
  · rw [upR_n _ _ h]
theorem imgR_s (I : aI1) {a i : Int} (ha : 0 ≤ a) (hi : 0 ≤ i) : up2 (imgR I a i) 52 (5117 * a + i).toNat (imgR I a i 51 i.toNat) = imgR I a (i + 1) := by
  have e1 : imgR I a i 51 i.toNat = I 51 i.toNat := by unfold imgR; rw [upR_n _ _ (by decide)]
  rw [e1]
  funext x b
  by_cases h : x = 52
  · subst h
    by_cases hb : b = (5117 * a + i).toNat
    · rw [hb, up2_s]
      unfold imgR
      rw [upR_s, if_pos (by omega)]
      exact congrArg _ (by omega)
    · rw [up2_n _ _ (Or.inr hb)]
      unfold imgR
      rw [upR_s, upR_s]
      by_cases hc : 5117 * a ≤ (b : Int) ∧ (b : Int) < 5117 * a + i
      · rw [if_pos hc, if_pos (by omega)]
      · rw [if_neg hc, if_neg (by omega)]
  · rw [up2_n _ _ (Or.inl h)]
    unfold imgR
    rw [upR_n _ _ h, upR_n _ _ h]
theorem RX_img {I : aI1} {a : Int} (h : RX I) (ha0 : 0 ≤ a) (ha1 : a ≤ 1) : RX (up2 (imgR I a 5117) 53 a.toNat 1) := by
  have e : ∀ x, x ≠ 52 → x ≠ 53 → up2 (imgR I a 5117) 53 a.toNat 1 x = I x := fun x h1 h2 => by rw [up2_off _ _ _ h2]; unfold imgR; rw [upR_n _ _ h1]
  have e2 : up2 (imgR I a 5117) 53 a.toNat 1 52 = fun (b : Nat) => if 5117 * a ≤ (b : Int) ∧ (b : Int) < 5117 * a + 5117 then I 51 ((b : Int) - 5117 * a).toNat else I 52 b := by rw [up2_off _ _ _ (by decide)]; unfold imgR; rw [upR_s]
  unfold RX at h ⊢
  rw [e 51 (by decide) (by decide), e 61 (by decide) (by decide), e 49 (by decide) (by decide), e 54 (by decide) (by decide), e2]
  refine ⟨h.1, fun i hi => ?_, h.2.2⟩
  by_cases q : i = a.toNat
  · refine Or.inr ⟨by rw [q, up2_s], KR_ext h.1 (fun j hj => ?_)⟩
    show (if 5117 * a ≤ ((5117 * i + j : Nat) : Int) ∧ ((5117 * i + j : Nat) : Int) < 5117 * a + 5117 then I 51 (((5117 * i + j : Nat) : Int) - 5117 * a).toNat else I 52 (5117 * i + j)) = I 51 j
    rw [if_pos (by omega)]
    exact congrArg _ (by omega)
  · have e3 : up2 (imgR I a 5117) 53 a.toNat 1 53 i = I 53 i := by rw [up2_n _ _ (Or.inr q)]; unfold imgR; rw [upR_n _ _ (by decide)]
    rw [e3]
    rcases h.2.1 i hi with g | ⟨g1, g2⟩
    · exact Or.inl g
    · refine Or.inr ⟨g1, KR_ext g2 (fun j hj => ?_)⟩
      show (if 5117 * a ≤ ((5117 * i + j : Nat) : Int) ∧ ((5117 * i + j : Nat) : Int) < 5117 * a + 5117 then I 51 (((5117 * i + j : Nat) : Int) - 5117 * a).toNat else I 52 (5117 * i + j)) = I 52 (5117 * i + j)
      rw [if_neg (by omega)]
def backR (I : aI1) (a i : Int) : aI1 := upR I 51 (fun b => if (b : Int) < i then I 52 (5117 * a + b).toNat else I 51 b)
theorem backR_0 (I : aI1) (a : Int) : I = backR I a 0 := by
  funext x b
  unfold backR
  by_cases h : x = 51
  · subst h; rw [upR_s, if_neg (by omega)]
  · rw [upR_n _ _ h]
theorem backR_s (I : aI1) {a i : Int} (hi : 0 ≤ i) : up2 (backR I a i) 51 i.toNat (backR I a i 52 (5117 * a + i).toNat) = backR I a (i + 1) := by
  have e1 : backR I a i 52 (5117 * a + i).toNat = I 52 (5117 * a + i).toNat := by unfold backR; rw [upR_n _ _ (by decide)]
  rw [e1]
  funext x b
  by_cases h : x = 51
  · subst h
    by_cases hb : b = i.toNat
    · rw [hb, up2_s]
      unfold backR
      rw [upR_s, if_pos (by omega)]
      exact congrArg _ (by omega)
    · rw [up2_n _ _ (Or.inr hb)]
      unfold backR
      rw [upR_s, upR_s]
      by_cases hc : (b : Int) < i
      · rw [if_pos hc, if_pos (by omega)]
      · rw [if_neg hc, if_neg (by omega)]
  · rw [up2_n _ _ (Or.inl h)]
    unfold backR
    rw [upR_n _ _ h, upR_n _ _ h]
theorem RX_back {I : aI1} {a : Int} (h : RX I) (ha0 : 0 ≤ a) (ha1 : a ≤ 1) (hi : ¬ I 53 a.toNat = 0) : RX (backR I a 5117) := by
  refine RX_k h (fun x hx => by unfold backR; rw [upR_n _ _ hx]) ?_
  rcases h.2.1 a.toNat (by omega) with g | ⟨-, g⟩
  · exact absurd g hi
  · refine KR_ext g (fun j hj => ?_)
    unfold backR
    rw [upR_s]
    show (if (j : Int) < 5117 then I 52 (5117 * a + j).toNat else I 51 j) = I 52 (5117 * a.toNat + j)
    rw [if_pos (by omega)]
    exact congrArg _ (by omega)
