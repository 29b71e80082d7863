theorem fill_step {f : Nat → Int} {I : aI1} {k : Nat} {i v : Int} (h : 0 ≤ i) : up2 (upR I k (fun j => if (j : Int) < i then v else f j)) k i.toNat v = upR I k (fun j => if (j : Int) < i + 1 then v else f j) := by
  funext a b
  by_cases ha : a = k
  · subst ha
    by_cases hb : b = i.toNat
    · subst hb
      rw [up2_s, upR_s, if_pos (by omega)]
    · rw [up2_n _ _ (Or.inr hb), upR_s, upR_s]
      by_cases hc : (b : Int) < i
      · rw [if_pos hc, if_pos (by omega)]
      · rw [if_neg hc, if_neg (by omega)]
  · rw [up2_n _ _ (Or.inl ha), upR_n _ _ ha, upR_n _ _ ha]
theorem fill_stepF {f : Nat → Int} {I : aI1} {k : Nat} {i v lo : Int} (h : 0 ≤ lo) (h2 : lo ≤ i) : up2 (upR I k (fun j => if lo ≤ (j : Int) ∧ (j : Int) < i then v else f j)) k i.toNat v = upR I k (fun j => if lo ≤ (j : Int) ∧ (j : Int) < i + 1 then v else f j) := by
  funext a b
  by_cases ha : a = k
  · subst ha
    by_cases hb : b = i.toNat
    · subst hb
      rw [up2_s, upR_s, if_pos (by omega)]
    · rw [up2_n _ _ (Or.inr hb), upR_s, upR_s]
      by_cases hc : lo ≤ (b : Int) ∧ (b : Int) < i
      · rw [if_pos hc, if_pos (by omega)]
      · rw [if_neg hc, if_neg (by omega)]
  · rw [up2_n _ _ (Or.inl ha), upR_n _ _ ha, upR_n _ _ ha]
theorem fill_0 {I : aI1} {k : Nat} {v : Int} : I = upR I k (fun j => if (j : Int) < 0 then v else I k j) := by
  funext a b
  by_cases ha : a = k
  · subst ha
    rw [upR_s, if_neg (by omega)]
  · rw [upR_n _ _ ha]
theorem fill_0F {I : aI1} {k : Nat} {v lo : Int} : I = upR I k (fun j => if lo ≤ (j : Int) ∧ (j : Int) < lo then v else I k j) := by
  funext a b
  by_cases ha : a = k
  · subst ha
    rw [upR_s, if_neg (by omega)]
  · rw [upR_n _ _ ha]
theorem fill_end {I : aI1} {k n : Nat} {v i : Int} (h : i = n) : upR I k (fun j => if (j : Int) < i then v else I k j) = upR I k (fun j => if j < n then v else I k j) := by
  subst h
  congr 1
  funext j
  by_cases hj : j < n
  · rw [if_pos hj, if_pos (by omega)]
  · rw [if_neg hj, if_neg (by omega)]
/-- how many bits are set, as the machine counts them -/
def bc (a : Int) : Int := i_and (((i_and ((i_and (a - i_and (i_ushr a 1) 1431655765) 858993459 + i_and (i_ushr (a - i_and (i_ushr a 1) 1431655765) 2) 858993459) + i_ushr (i_and (a - i_and (i_ushr a 1) 1431655765) 858993459 + i_and (i_ushr (a - i_and (i_ushr a 1) 1431655765) 2) 858993459) 4) 252645135) + i_ushr (i_and ((i_and (a - i_and (i_ushr a 1) 1431655765) 858993459 + i_and (i_ushr (a - i_and (i_ushr a 1) 1431655765) 2) 858993459) + i_ushr (i_and (a - i_and (i_ushr a 1) 1431655765) 858993459 + i_and (i_ushr (a - i_and (i_ushr a 1) 1431655765) 2) 858993459) 4) 252645135) 8) + i_ushr ((i_and ((i_and (a - i_and (i_ushr a 1) 1431655765) 858993459 + i_and (i_ushr (a - i_and (i_ushr a 1) 1431655765) 2) 858993459) + i_ushr (i_and (a - i_and (i_ushr a 1) 1431655765) 858993459 + i_and (i_ushr (a - i_and (i_ushr a 1) 1431655765) 2) 858993459) 4) 252645135) + i_ushr (i_and ((i_and (a - i_and (i_ushr a 1) 1431655765) 858993459 + i_and (i_ushr (a - i_and (i_ushr a 1) 1431655765) 2) 858993459) + i_ushr (i_and (a - i_and (i_ushr a 1) 1431655765) 858993459 + i_and (i_ushr (a - i_and (i_ushr a 1) 1431655765) 2) 858993459) 4) 252645135) 8) 16) 63
