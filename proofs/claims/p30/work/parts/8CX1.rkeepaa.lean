/-! the reference's MEANS -/
def MR8 (n P cs p v : Int) : Prop := 0 ≤ v ∧ v ≤ 200 * P ^ (n - p).toNat ∧ (¬ cs = -1 → v ≤ 2 * (n - p + 1) * P ^ ((n - p).toNat + 1))
def MRc (code : Nat → Int) (g n K : Int) (M : Nat → Int) : Prop := ∀ s : Nat, (s : Int) ≤ FU n → MRs code g (FU n + 1) K n M s (M s) ∧ MR8 n (K - 1) (code s) (pcn s) (M s)
/-- the tables are right -/
def RT (I J : aI1) : Prop := zLV (I 51) (I 51 306) (FU (I 51 304) + 1) (I 51 305) (-1) (I 61) ∧ MRc (I 51) (I 51 306) (I 51 304) (I 51 305) (J 62)
/-- the tables are right where they are of this version -/
def QF (I J : aI1) (v : Int) : Prop := (0 ≤ I 49 1 ∧ I 49 1 ≤ v) ∧ (-1 ≤ I 49 25 ∧ I 49 25 ≤ I 49 1) ∧ (I 49 25 = I 49 1 → RT I J)
theorem RT_of {I I' J J' : aI1} (h : RT I J) (e51 : I' 51 = I 51) (e61 : I' 61 = I 61) (j62 : J' 62 = J 62) : RT I' J' := by
  unfold RT at h ⊢
  rw [e51, e61, j62]
  exact h
theorem MR8_of {n K own p tg B : Int} {r : Nat → Int} (hp : 0 ≤ n - p) (hp8 : n - p ≤ 8) (hK : 2 ≤ K) (hK8 : K ≤ 8) (ho : -1 ≤ own ∧ own < K) (hB : B = 2 * (n - p) * (K - 1) ^ (n - p).toNat) (hr : ∀ x, x < K.toNat → -1 ≤ r x ∧ r x ≤ B) (ht : tg = mS ((K - 1) ^ (n - p).toNat) own r K.toNat) : MR8 n (K - 1) own p tg := by
  have hU := pw_pos (P := K - 1) (by omega) (n - p).toNat
  unfold MR8
  rw [Int.pow_succ]
  generalize (K - 1) ^ (n - p).toNat = U at hU hB ht ⊢
  have hB0 : 0 ≤ B := by
    rw [hB]
    exact Int.mul_nonneg (by omega) (by omega)
  have hB16 : B ≤ 16 * U := by
    rw [hB]
    exact Int.mul_le_mul_of_nonneg_right (by omega) (by omega)
  have h1 := mS_r (U := U) (B := B) (own := own) (by omega) hB0 K.toNat hr
  rw [← ht, show ((K.toNat : Nat) : Int) = K by omega] at h1
  have h3 : K * (U + B) ≤ 8 * (U + B) := Int.mul_le_mul_of_nonneg_right hK8 (by omega)
  refine ⟨h1.1, by omega, fun h9 => ?_⟩
  have h4 := mS_r2 (U := U) (B := B) (own := own) (by omega) hB0 (by omega) K.toNat (by omega) hr
  rw [← ht, show ((K.toNat : Nat) : Int) = K by omega] at h4
  have h7 : U * 1 ≤ U * (K - 1) := Int.mul_le_mul_of_nonneg_left (by omega) (by omega)
  have e1 : (K - 1) * (U + B) = U * (K - 1) + 2 * (n - p) * (U * (K - 1)) := by
    rw [hB, Int.mul_add, Int.mul_comm (K - 1) U, Int.mul_comm (K - 1), Int.mul_assoc]
  have e2 : 2 * (n - p + 1) * (U * (K - 1)) = 2 * (n - p) * (U * (K - 1)) + 2 * (U * (K - 1)) := by
    rw [show 2 * (n - p + 1) = 2 * (n - p) + 2 by omega, Int.add_mul]
  rw [e2]
  rw [e1] at h4
  omega
theorem GT_0 {code T : Nat → Int} {g e N x t : Int} (h : t = e + 1) : GM (fun u => PB code g e N x u ∧ (u : Int) < t) T (-1) := GM_0 (fun u hu => by have h1 := hu.1.1; have h2 := hu.2; omega)
theorem GT_no {code T : Nat → Int} {g e N x t v : Int} (h : GM (fun u => PB code g e N x u ∧ (u : Int) < t) T v) (h0 : 0 ≤ t) (hn : ¬ PB code g e N x t.toNat) : GM (fun u => PB code g e N x u ∧ (u : Int) < t + 1) T v :=
  GM_cg h (fun u => ⟨fun hu => ⟨hu.1, by have := hu.2; omega⟩, fun hu => ⟨hu.1, by
    have h2 := hu.2
    refine Decidable.byContradiction (fun h3 => hn ?_)
    rw [show t.toNat = u by omega]
    exact hu.1⟩⟩) (fun _ _ => rfl)
theorem GT_ad {code T : Nat → Int} {g e N x t v w : Int} (h : GM (fun u => PB code g e N x u ∧ (u : Int) < t) T v) (h0 : 0 ≤ t) (hp : PB code g e N x t.toNat) (hT : 0 ≤ T t.toNat) (hw : w = max v (T t.toNat)) : GM (fun u => PB code g e N x u ∧ (u : Int) < t + 1) T w := by
  rw [hw]
  exact GM_ad h (fun u => ⟨fun hu => by
    by_cases h3 : (u : Int) < t
    · exact Or.inl ⟨hu.1, h3⟩
    · exact Or.inr (by have := hu.2; omega), fun hu => by
    rcases hu with hu | rfl
    · exact ⟨hu.1, by have := hu.2; omega⟩
    · exact ⟨hp, by omega⟩⟩) hT
theorem GT_e {code T : Nat → Int} {g e N x t v : Int} (h : GM (fun u => PB code g e N x u ∧ (u : Int) < t) T v) (ht : N ≤ t) : GM (PB code g e N x) T v :=
  GM_cg h (fun u => ⟨fun hu => hu.1, fun hu => ⟨hu, by have := hu.2.1; omega⟩⟩) (fun _ _ => rfl)
theorem GT_r {P : Nat → Prop} {T : Nat → Int} {v B : Int} (h : GM P T v) (hT : ∀ t, P t → 0 ≤ T t ∧ T t ≤ B) (hB : -1 ≤ B) : -1 ≤ v ∧ v ≤ B := by
  rcases h.2 with ⟨h1, -⟩ | ⟨t, h1, h2⟩
  · omega
  · have := hT t h1
    omega
/-- what a MEAN weighs in another's sum -/
def tI (M : Nat → Int) (K n : Int) (s t : Nat) : Int := M t * (K - 1) ^ (n - pcn s - (n - pcn t) - 1).toNat
theorem tI_r {M : Nat → Int} {K n cs : Int} {s t : Nat} (hK : 2 ≤ K) (hn : 0 ≤ n - pcn t) (h : MR8 n (K - 1) cs (pcn t) (M t)) (hc : ¬ cs = -1) (hlt : pcn s + 1 ≤ pcn t) : 0 ≤ tI M K n s t ∧ tI M K n s t ≤ 2 * (n - pcn s) * (K - 1) ^ (n - pcn s).toNat := by
  have h1 := h.2.2 hc
  have hq := pw_pos (P := K - 1) (by omega) (n - pcn s - (n - pcn t) - 1).toNat
  refine ⟨Int.mul_nonneg h.1 (by omega), ?_⟩
  have h2 : tI M K n s t ≤ 2 * (n - pcn t + 1) * (K - 1) ^ ((n - pcn t).toNat + 1) * (K - 1) ^ (n - pcn s - (n - pcn t) - 1).toNat := Int.mul_le_mul_of_nonneg_right h1 (by omega)
  rw [Int.mul_assoc, pw_add, show (n - pcn t).toNat + 1 + (n - pcn s - (n - pcn t) - 1).toNat = (n - pcn s).toNat by omega] at h2
  have hu := pw_pos (P := K - 1) (by omega) (n - pcn s).toNat
  exact Int.le_trans h2 (Int.mul_le_mul_of_nonneg_right (by omega) (by omega))
