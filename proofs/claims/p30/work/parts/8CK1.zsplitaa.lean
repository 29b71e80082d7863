/-- the reference's row of words -/
def zWt : List Int := [114, 101, 97, 100, 115, 32, 105, 102, 32, 111, 114, 32, 97, 110, 100, 32, 110, 111, 116, 32, 115, 116, 97, 116, 101, 32, 108, 105, 116, 32, 115, 117, 109, 32, 109, 105, 120, 32, 102, 105, 114, 115, 116, 32, 108, 97, 115, 116, 32, 108, 97, 109, 112, 115, 32, 110, 101, 119, 115, 32]
def zWk : List Nat := [0, 6, 9, 12, 16, 20, 26, 30, 34, 38, 44, 49, 55, 60]
def WD (I : aI1) : Prop := ∀ i, i < 60 → I 54 i = zWt.getD i 0
theorem zWt_ok {j : Nat} (hj : j < 13) : zWk.getD (j + 1) 0 = zWk.getD j 0 + (zWs.getD j []).length + 1 ∧ zWk.getD j 0 + (zWs.getD j []).length ≤ 59 ∧ zWt.getD (zWk.getD j 0 + (zWs.getD j []).length) 0 = 32 ∧ (zWs.getD j []).length ≤ 5 := by
  have : ∀ j : Fin 13, zWk.getD (j.val + 1) 0 = zWk.getD j.val 0 + (zWs.getD j.val []).length + 1 ∧ zWk.getD j.val 0 + (zWs.getD j.val []).length ≤ 59 ∧ zWt.getD (zWk.getD j.val 0 + (zWs.getD j.val []).length) 0 = 32 ∧ (zWs.getD j.val []).length ≤ 5 := by decide
  exact this ⟨j, hj⟩
theorem zWt_at {j i : Nat} (hj : j < 13) (hi : i < (zWs.getD j []).length) : zWt.getD (zWk.getD j 0 + i) 0 = (zWs.getD j []).getD i 0 ∧ 97 ≤ (zWs.getD j []).getD i 0 ∧ (zWs.getD j []).getD i 0 ≤ 122 := by
  have h5 := (zWt_ok hj).2.2.2
  have : ∀ j : Fin 13, ∀ i : Fin 5, i.val < (zWs.getD j.val []).length → zWt.getD (zWk.getD j.val 0 + i.val) 0 = (zWs.getD j.val []).getD i.val 0 ∧ 97 ≤ (zWs.getD j.val []).getD i.val 0 ∧ (zWs.getD j.val []).getD i.val 0 ≤ 122 := by decide
  exact this ⟨j, hj⟩ ⟨i, by omega⟩ hi
theorem zWk_60 {j : Nat} (hj : j ≤ 13) (h : 60 ≤ zWk.getD j 0) : j = 13 := by
  have : ∀ j : Fin 14, 60 ≤ zWk.getD j.val 0 → j.val = 13 := by decide
  exact this ⟨j, by omega⟩ h
theorem zWk_le {j : Nat} (hj : j ≤ 13) : zWk.getD j 0 ≤ 60 := by
  have : ∀ j : Fin 14, zWk.getD j.val 0 ≤ 60 := by decide
  exact this ⟨j, by omega⟩
theorem zWk_lt {j : Nat} (hj : j ≤ 13) (h : ¬ 60 ≤ zWk.getD j 0) : j < 13 := by
  have : ∀ j : Fin 14, ¬ 60 ≤ zWk.getD j.val 0 → j.val < 13 := by decide
  exact this ⟨j, by omega⟩ h
theorem zEnd_all {f : Nat → Int} {n : Nat} {c : Int} : ∀ (m s q : Nat), s ≤ q → q < zEnd f n c m s → zKl (f q) = c
  | 0, s, q, h, g => by
    have g2 : q < s := g
    omega
  | m + 1, s, q, h, g => by
    by_cases hc : (s < n ∧ zKl (f s) = c) ∧ ¬ c = 0
    · rw [zEnd_s hc.1.1 hc.1.2 hc.2] at g
      by_cases e : q = s
      · rw [e]; exact hc.1.2
      · exact zEnd_all m (s + 1) q (by omega) g
    · rw [zEnd_e hc] at g
      omega
theorem zSt_all {f : Nat → Int} {n k q : Nat} (h : k ≤ q) (g : q < zSt f n k) : zKl (f q) = zKl (f k) := by
  by_cases e : q = k
  · rw [e]
  · exact zEnd_all _ _ q (show k + 1 ≤ q by omega) g
/-- the bytes of the TAPE in the reference -/
def zTB (f : Nat → Int) (N : Nat) (F : Nat → Int) : Prop := ∀ j, j < N → f j = F j % 256 ∧ -128 ≤ F j ∧ F j ≤ 127
def zRo (f : Nat → Int) (dn : List (Nat × Nat)) (F V G : Nat → Int) : Prop := ∀ t p, dn[t]? = some p → F t = zCo f p.1 p.2 ∧ V t = zVa f p.1 p.2 ∧ G t = p.1
theorem zRo_0 {f F V G : Nat → Int} : zRo f [] F V G := fun t p h => by simp at h
theorem zRo_ad {f F V G : Nat → Int} {dn : List (Nat × Nat)} {a s : Nat} {k u v : Int} (h : zRo f dn F V G) (hk : k = zCo f a s) (hu : u = zVa f a s) (hv : v = a) : zRo f (dn ++ [(a, s)]) (up1 F dn.length k) (up1 V dn.length u) (up1 G dn.length v) := fun t p hp => by
  by_cases ht : t < dn.length
  · rw [List.getElem?_append_left ht] at hp
    rw [up1_n _ _ (by omega), up1_n _ _ (by omega), up1_n _ _ (by omega)]
    exact h t p hp
  · have h2 : t = dn.length := by
      have := (List.getElem?_eq_some_iff.mp hp).1
      rw [List.length_append, List.length_singleton] at this
      omega
    subst h2
    rw [List.getElem?_append_right (Nat.le_refl _), Nat.sub_self] at hp
    cases hp
    rw [up1_s, up1_s, up1_s]
    exact ⟨hk, hu, hv⟩
theorem zRo_fin {f F V G : Nat → Int} {n : Nat} {L : List (Nat × Nat)} {v : Int} (h : zRo f L F V G) (hv : v = n) : ∀ t, t ≤ L.length → up1 F L.length 0 t = zCd f L t ∧ up1 V L.length 0 t = zVl f L t ∧ up1 G L.length v t = zPc n L t := fun t ht => by
  by_cases e : t = L.length
  · have hN : L[t]? = none := by rw [e]; exact List.getElem?_eq_none (Nat.le_refl _)
    rw [zCd_n hN, zVl_n hN, zPc_n hN, e, up1_s, up1_s, up1_s]
    exact ⟨rfl, rfl, hv⟩
  · have hs : L[t]? = some L[t] := List.getElem?_eq_getElem (by omega)
    rw [zCd_s hs, zVl_s hs, zPc_s hs, up1_n _ _ e, up1_n _ _ e, up1_n _ _ e]
    exact h t _ hs
theorem up1_up1 {g : Nat → Int} {j : Nat} {u v : Int} : up1 (up1 g j u) j v = up1 g j v := by
  funext b
  by_cases e : b = j
  · rw [e, up1_s, up1_s]
  · rw [up1_n _ _ e, up1_n _ _ e, up1_n _ _ e]
/-- what the letters, digits and others are by signed bytes -/
theorem zKl_b {x y : Int} (h : x = y % 256 ∧ -128 ≤ y ∧ y ≤ 127) : (zKl x = 1 ↔ 97 ≤ y ∧ y ≤ 122) ∧ (zKl x = 2 ↔ 48 ≤ y ∧ y ≤ 57) := by
  have h1 := zKl_1 (x := x)
  have h2 := zKl_2 (x := x)
  omega
def KLb (x y : Int) : Prop := (zKl x = 1 ↔ 97 ≤ y ∧ y ≤ 122) ∧ (zKl x = 2 ↔ 48 ≤ y ∧ y ≤ 57)
theorem zKl_B {x y : Int} (h : x = y % 256 ∧ -128 ≤ y ∧ y ≤ 127) : KLb x y := zKl_b h
