/-! the reference's MEANS -/
def MR8 (n P cs p v : Int) : Prop := 0 ≤ v ∧ v ≤ 200 * P ^ (n - p).toNat ∧ (¬ cs = -1 → v ≤ 2 * (n - p + 1) * P ^ ((n - p).toNat + 1))
def MRc (code : Nat → Int) (g n K : Int) (M : Nat → Int) : Prop := ∀ s : Nat, (s : Int) ≤ FU n → MRs code g (FU n + 1) K n M s (M s) ∧ MR8 n (K - 1) (code s) (pcn s) (M s)
/-- the tables are right -/
def RT (I J : aI1) : Prop := zLV (I 51) (I 51 306) (FU (I 51 304) + 1) (I 51 305) (-1) (I 61) ∧ MRc (I 51) (I 51 306) (I 51 304) (I 51 305) (J 62)
/-- the tables are right where they are of this version -/
def QF (I J : aI1) (v : Int) : Prop := (0 ≤ I 49 1 ∧ I 49 1 ≤ v) ∧ (-1 ≤ I 49 25 ∧ I 49 25 ≤ I 49 1) ∧ (I 49 25 = I 49 1 → RT I J)
theorem RT_of {I I' J J' : aI1} (h : RT I J) (e51 : I' 51 = I 51) (e61 : I' 61 = I 61) (j62 : J' 62 = J 62) : RT I' J' := by
  unfold RT at h ⊢
  rw [e51, e61, j62]
  exact h
theorem MR8_of {n K own p tg B : Int} {r : Nat → Int} (hp : 0 ≤ n - p) (hp8 : n - p ≤ 8) (hK : 2 ≤ K) (hK8 : K ≤ 8) (ho : -1 ≤ own ∧ own < K) (hB : B = 2 * (n - p) * (K - 1) ^ (n - p).toNat) (hr : ∀ x, x < K.toNat → -1 ≤ r x ∧ r x ≤ B) (ht : tg = mS ((K - 1) ^ (n - p).toNat) own r K.toNat) : MR8 n (K - 1) own p tg := by
  have hU := pw_pos (P := K - 1) (by omega) (n - p).toNat
  unfold MR8
  rw [Int.pow_succ]
  generalize (K - 1) ^ (n - p).toNat = U at hU hB ht ⊢
  have hB0 : 0 ≤ B := by
    rw [hB]
    exact Int.mul_nonneg (by omega) (by omega)
  have hB16 : B ≤ 16 * U := by
    rw [hB]
    exact Int.mul_le_mul_of_nonneg_right (by omega) (by omega)
  have h1 := mS_r (U := U) (B := B) (own := own) (by omega) hB0 K.toNat hr
  rw [← ht, show ((K.toNat : Nat) : Int) = K by omega] at h1
  have h3 : K * (U + B) ≤ 8 * (U + B) := Int.mul_le_mul_of_nonneg_right hK8 (by omega)
  refine ⟨h1.1, by omega, fun h9 => ?_⟩
  have h4 := mS_r2 (U := U) (B := B) (own := own) (by omega) hB0 (by omega) K.toNat (by omega) hr
  rw [← ht, show ((K.toNat : Nat) : Int) = K by omega] at h4
  have h7 : U * 1 ≤ U * (K - 1) := Int.mul_le_mul_of_nonneg_left (by omega) (by omega)
  have e1 : (K - 1) * (U + B) = U * (K - 1) + 2 * (n - p) * (U * (K - 1)) := by
    rw [hB, Int.mul_add, Int.mul_comm (K - 1) U, Int.mul_comm (K - 1), Int.mul_assoc]
  have e2 : 2 * (n - p + 1) * (U * (K - 1)) = 2 * (n - p) * (U * (K - 1)) + 2 * (U * (K - 1)) := by
    rw [show 2 * (n - p + 1) = 2 * (n - p) + 2 by omega, Int.add_mul]
  rw [e2]
  rw [e1] at h4
  omega
theorem GT_0 {code T : Nat → Int} {g e N x t : Int} (h : t = e + 1) : GM (fun u => PB code g e N x u ∧ (u : Int) < t) T (-1) := GM_0 (fun u hu => by have h1 := hu.1.1; have h2 := hu.2; omega)
theorem GT_no {code T : Nat → Int} {g e N x t v : Int} (h : GM (fun u => PB code g e N x u ∧ (u : Int) < t) T v) (h0 : 0 ≤ t) (hn : ¬ PB code g e N x t.toNat) : GM (fun u => PB code g e N x u ∧ (u : Int) < t + 1) T v :=
  GM_cg h (fun u => ⟨fun hu => ⟨hu.1, by have := hu.2; omega⟩, fun hu => ⟨hu.1, by
    have h2 := hu.2
    refine Decidable.byContradiction (fun h3 => hn ?_)
    rw [show t.toNat = u by omega]
    exact hu.1⟩⟩) (fun _ _ => rfl)
theorem GT_ad {code T : Nat → Int} {g e N x t v w : Int} (h : GM (fun u => PB code g e N x u ∧ (u : Int) < t) T v) (h0 : 0 ≤ t) (hp : PB code g e N x t.toNat) (hT : 0 ≤ T t.toNat) (hw : w = max v (T t.toNat)) : GM (fun u => PB code g e N x u ∧ (u : Int) < t + 1) T w := by
  rw [hw]
  exact GM_ad h (fun u => ⟨fun hu => by
    by_cases h3 : (u : Int) < t
    · exact Or.inl ⟨hu.1, h3⟩
    · exact Or.inr (by have := hu.2; omega), fun hu => by
    rcases hu with hu | rfl
    · exact ⟨hu.1, by have := hu.2; omega⟩
    · exact ⟨hp, by omega⟩⟩) hT
theorem GT_e {code T : Nat → Int} {g e N x t v : Int} (h : GM (fun u => PB code g e N x u ∧ (u : Int) < t) T v) (ht : N ≤ t) : GM (PB code g e N x) T v :=
  GM_cg h (fun u => ⟨fun hu => hu.1, fun hu => ⟨hu, by have := hu.2.1; omega⟩⟩) (fun _ _ => rfl)
theorem GT_r {P : Nat → Prop} {T : Nat → Int} {v B : Int} (h : GM P T v) (hT : ∀ t, P t → 0 ≤ T t ∧ T t ≤ B) (hB : -1 ≤ B) : -1 ≤ v ∧ v ≤ B := by
  rcases h.2 with ⟨h1, -⟩ | ⟨t, h1, h2⟩
  · omega
  · have := hT t h1
    omega
/-- what a MEAN weighs in another's sum -/
def tI (M : Nat → Int) (K n : Int) (s t : Nat) : Int := M t * (K - 1) ^ (n - pcn s - (n - pcn t) - 1).toNat
theorem tI_r {M : Nat → Int} {K n cs : Int} {s t : Nat} (hK : 2 ≤ K) (hn : 0 ≤ n - pcn t) (h : MR8 n (K - 1) cs (pcn t) (M t)) (hc : ¬ cs = -1) (hlt : pcn s + 1 ≤ pcn t) : 0 ≤ tI M K n s t ∧ tI M K n s t ≤ 2 * (n - pcn s) * (K - 1) ^ (n - pcn s).toNat := by
  have h1 := h.2.2 hc
  have hq := pw_pos (P := K - 1) (by omega) (n - pcn s - (n - pcn t) - 1).toNat
  refine ⟨Int.mul_nonneg h.1 (by omega), ?_⟩
  have h2 : tI M K n s t ≤ 2 * (n - pcn t + 1) * (K - 1) ^ ((n - pcn t).toNat + 1) * (K - 1) ^ (n - pcn s - (n - pcn t) - 1).toNat := Int.mul_le_mul_of_nonneg_right h1 (by omega)
  rw [Int.mul_assoc, pw_add, show (n - pcn t).toNat + 1 + (n - pcn s - (n - pcn t) - 1).toNat = (n - pcn s).toNat by omega] at h2
  have hu := pw_pos (P := K - 1) (by omega) (n - pcn s).toNat
  exact Int.le_trans h2 (Int.mul_le_mul_of_nonneg_right (by omega) (by omega))
/-- what one means when one sends from s -/
def tJ (M : Nat → Int) (K n : Int) (s t : Nat) : Int := M t * (K - 1) ^ (n - pcn s + 1 - (n - pcn t)).toNat
theorem tJ_r {M : Nat → Int} {K n cs : Int} {s t : Nat} (hK : 2 ≤ K) (hK8 : K ≤ 8) (hn : 0 ≤ n - pcn t) (hn8 : n ≤ 8) (h : MR8 n (K - 1) cs (pcn t) (M t)) (hle : pcn s ≤ pcn t) : 0 ≤ tJ M K n s t ∧ tJ M K n s t ≤ 8070721400 := by
  have hq := pw_pos (P := K - 1) (by omega) (n - pcn s + 1 - (n - pcn t)).toNat
  refine ⟨Int.mul_nonneg h.1 (by omega), ?_⟩
  have h2 : tJ M K n s t ≤ 200 * (K - 1) ^ (n - pcn t).toNat * (K - 1) ^ (n - pcn s + 1 - (n - pcn t)).toNat := Int.mul_le_mul_of_nonneg_right h.2.1 (by omega)
  have hps := pcn_r s
  rw [Int.mul_assoc, pw_add, show (n - pcn t).toNat + (n - pcn s + 1 - (n - pcn t)).toNat = (n - pcn s).toNat + 1 by omega, Int.pow_succ] at h2
  have hu := pow_7 (b := K - 1) (n := (n - pcn s).toNat) (by omega) (by omega) (by omega)
  have h3 : (K - 1) ^ (n - pcn s).toNat * (K - 1) ≤ (K - 1) ^ (n - pcn s).toNat * 7 := Int.mul_le_mul_of_nonneg_left (by omega) (by omega)
  omega
theorem oilF_r {k : Nat → Int} {a : Int} (ho : ∀ l, l < 8 → 0 ≤ k (256 + l) ∧ k (256 + l) ≤ 99) : ∀ n : Nat, n ≤ 8 → 0 ≤ oilF k a n ∧ oilF k a n ≤ 99 * n
  | 0, _ => ⟨Int.le_refl 0, Int.le_refl 0⟩
  | n + 1, h => by
    have h1 := oilF_r (a := a) ho n (by omega)
    have h2 := ho n (by omega)
    show 0 ≤ oilF k a n + (if _ then _ else _) ∧ oilF k a n + (if _ then _ else _) ≤ _
    split <;> omega
/-- a MANNER from s by the reference's tables -/
def bR (m s n K : Int) (k L M : Nat → Int) (t v : Nat) : Bool := if m = 0 then decide (pcn (df t s.toNat) < pcn (df v s.toNat)) else if m = 1 then decide (oilF k ((df t s.toNat : Nat) : Int) n.toNat < oilF k ((df v s.toNat : Nat) : Int) n.toNat) else if m = 2 then decide (L v < L t ∨ (L t = L v ∧ pcn (df t s.toNat) < pcn (df v s.toNat))) else decide (tJ M K n s.toNat v < tJ M K n s.toNat t)
def dwn (code : Nat → Int) (K n : Int) (a : Nat) : Int := (K - 1) ^ (n - pcn a).toNat * (if code a = -1 then K else K - 1)

set_option maxHeartbeats 4000000 in
set_option maxRecDepth 20000 in
theorem c8_X11_dark (l0 : Launch) {Ia Ja : aI1} {Ra : aR1} {Sa : aS1} (hL : LY Ra Sa) (hQ : RX Ia) {a : Int} (ha0 : 0 ≤ a) (ha1 : a ≤ 255)  : CT l0 1 0 0 mX11_dark [kR (some 49), kI a] Ia Ja Ra Sa (cI (fun x I' J' => Ia = I' ∧ Ja = J' ∧ x = Ia 51 304 - pcn a.toNat) Ra Sa) := by
  refine ct_in pn_X11 (Nat.le_of_ble_eq_true rfl) (fun X hX hT hIn => ?_)
  have hX : aK l0 X cX11_dark 2 RX11 (some .int) 1 0 0 := hX
  change WW X 0 [some (kR (some 49)), some (kI a)] [] Ia Ja Ra Sa 0 0
  have qIa := RX_o hQ
  refine ww_aload_n hX (pc := 0) dX11_dark_0 rfl ?_
  refine ww_getR hX (pc := 1) fX11_20 (by decide) (xs_49 hL) (xr_49_3 hL) dX11_dark_1 ?_
  refine ww_sipush hX (pc := 4) (x := 304) dX11_dark_4 (by decide) ?_
  refine ww_iald hX (pc := 7) (xs_51 hL) (by decide) (by omega) (by omega) dX11_dark_7 ?_
  refine ww_toI (b := Ia 51 304) rfl ?_
  refine ww_iload_n hX (pc := 8) dX11_dark_8 rfl ?_
  refine sI1 hX (pc := 9) sX11_259 (c7_X11_ones l0 (by omega) (by omega)) (by decide) (Nat.le_refl 0) (Nat.le_refl 0) (Nat.le_of_ble_eq_true rfl) dX11_dark_9 (fun x_9 I_9 J_9 h_9 => ?_)
  obtain ⟨rfl, rfl, h_9⟩ := h_9
  refine ww_isub hX (pc := 12) dX11_dark_12 ?_
  refine rI hX (pc := 13) hT (Nat.le_refl 0) (Nat.le_refl 0) dX11_dark_13 ?_
  exact ⟨rfl, rfl, by rw [h_9]⟩
set_option maxHeartbeats 4000000 in
set_option maxRecDepth 20000 in
theorem c8_X11_meanIn (l0 : Launch) {Ia Ja : aI1} {Ra : aR1} {Sa : aS1} (hL : LY Ra Sa) (hQ : RX Ia) {a b : Int} (ha0 : 0 ≤ a) (ha1 : a ≤ 255) (hb0 : -1000 ≤ b) (hb1 : b ≤ 1000)  : CT l0 2 0 0 mX11_meanIn [kR (some 49), kI a, kI b] Ia Ja Ra Sa (cJ (fun x I' J' => Ia = I' ∧ Ja = J' ∧ x = Ja 62 a.toNat * (Ia 51 305 - 1) ^ (b - (Ia 51 304 - pcn a.toNat) - 1).toNat) Ra Sa) := by
  refine ct_in pn_X11 (Nat.le_of_ble_eq_true rfl) (fun X hX hT hIn => ?_)
  have hX : aK l0 X cX11_meanIn 3 RX11 (some .long) 2 0 0 := hX
  change WW X 0 [some (kR (some 49)), some (kI a), some (kI b)] [] Ia Ja Ra Sa 0 0
  have qIa := RX_o hQ
  have hpr := pcn_r a.toNat
  refine ww_aload_n hX (pc := 0) dX11_meanIn_0 rfl ?_
  refine ww_getR hX (pc := 1) fX11_58 (by decide) (xs_49 hL) (xr_49_24 hL) dX11_meanIn_1 ?_
  refine ww_iload_n hX (pc := 4) dX11_meanIn_4 rfl ?_
  refine ww_lald hX (pc := 5) (xs_62 hL) (by decide) (by omega) (by omega) dX11_meanIn_5 ?_
  refine ww_aload_n hX (pc := 6) dX11_meanIn_6 rfl ?_
  refine ww_iload_n hX (pc := 7) dX11_meanIn_7 rfl ?_
  refine ww_aload_n hX (pc := 8) dX11_meanIn_8 rfl ?_
  refine ww_iload_n hX (pc := 9) dX11_meanIn_9 rfl ?_
  refine vI1 hX (pc := 10) sX11_274 (xs_49 hL) (c8_X11_dark l0 hL hQ (by omega) (by omega)) (by decide) (Nat.le_refl 0) (Nat.le_refl 0) (Nat.le_of_ble_eq_true rfl) dX11_meanIn_10 (fun x_10 I_10 J_10 h_10 => ?_)
  obtain ⟨rfl, rfl, h_10⟩ := h_10
  refine ww_isub hX (pc := 13) dX11_meanIn_13 ?_
  refine ww_iconst hX (pc := 14) (x := 1) dX11_meanIn_14 rfl ?_
  refine ww_isub hX (pc := 15) dX11_meanIn_15 ?_
  refine vJ1 hX (pc := 16) sX11_277 (xs_49 hL) (c_X11_power l0 hL hQ (by omega) (by omega)) (by decide) (Nat.le_refl 0) (Nat.le_refl 0) (Nat.le_of_ble_eq_true rfl) dX11_meanIn_16 (fun x_16 I_16 J_16 h_16 => ?_)
  obtain ⟨rfl, rfl, h_16⟩ := h_16
  refine ww_lmul hX (pc := 19) dX11_meanIn_19 ?_
  refine rJ hX (pc := 20) hT (Nat.le_refl 0) (Nat.le_refl 0) dX11_meanIn_20 ?_
  exact ⟨rfl, rfl, by rw [h_16, h_10]⟩
/-- a sum of MEANS, one NEWS more -/
def SMr (I J : aI1) (a i v : Int) : Prop := ∃ rr : Nat → Int, (∀ x : Nat, (x : Int) < i → GM (PB (I 51) (I 51 306) a (FU (I 51 304) + 1) x) (fun t => tI (J 62) (I 51 305) (I 51 304) a.toNat t) (rr x)) ∧ v = mS ((I 51 305 - 1) ^ (I 51 304 - pcn a.toNat).toNat) (I 51 a.toNat) rr (i).toNat
theorem SMr_0 {I J : aI1} {a v : Int} (h : v = if I 51 a.toNat = -1 then 0 else (I 51 305 - 1) ^ (I 51 304 - pcn a.toNat).toNat) : SMr I J a 0 v := ⟨fun _ => 0, fun x hx => absurd hx (by omega), h⟩
theorem SMr_s {I J : aI1} {a i v w b : Int} (h : SMr I J a i v) (hi : 0 ≤ i) (hb : GM (PB (I 51) (I 51 306) a (FU (I 51 304) + 1) i) (fun t => tI (J 62) (I 51 305) (I 51 304) a.toNat t) b) (hw : w = if i = I 51 a.toNat ∨ b = -1 then v else v + ((I 51 305 - 1) ^ (I 51 304 - pcn a.toNat).toNat + b)) : SMr I J a (i + 1) w := by
  obtain ⟨rr, h1, h2⟩ := h
  refine ⟨fun x => if (x : Int) = i then b else rr x, fun x hx => ?_, ?_⟩
  · show GM _ _ (if (x : Int) = i then b else rr x)
    by_cases e : (x : Int) = i
    · rw [if_pos e, e]
      exact hb
    · rw [if_neg e]
      exact h1 x (by omega)
  · rw [show (i + 1).toNat = i.toNat + 1 by omega, mS_s, hw, h2]
    have e1 : (if ((i.toNat : Nat) : Int) = i then b else rr i.toNat) = b := if_pos (by omega)
    rw [e1, show ((i.toNat : Nat) : Int) = i by omega]
    have e2 : mS ((I 51 305 - 1) ^ (I 51 304 - pcn a.toNat).toNat) (I 51 a.toNat) (fun x => if (x : Int) = i then b else rr x) i.toNat = mS ((I 51 305 - 1) ^ (I 51 304 - pcn a.toNat).toNat) (I 51 a.toNat) rr i.toNat := mS_cg _ (fun x hx => if_neg (by omega))
    rw [e2]
/-- the NEWS that is READ counts no more -/
theorem SMr_o {I J : aI1} {a i v : Int} (h : SMr I J a i v) (hi : 0 ≤ i) (ho : i = I 51 a.toNat) (hx : ∃ b, GM (PB (I 51) (I 51 306) a (FU (I 51 304) + 1) i) (fun t => tI (J 62) (I 51 305) (I 51 304) a.toNat t) b) : SMr I J a (i + 1) v := by
  obtain ⟨b, hb⟩ := hx
  exact SMr_s h hi hb (by rw [if_pos (Or.inl ho)])
/-- the greatest is there -/
theorem GM_ex {P : Nat → Prop} {T : Nat → Int} {m : Nat} (hP : ∀ t, P t → t < m) (hT : ∀ t, P t → 0 ≤ T t) : ∃ b, GM P T b := by
  have key : ∀ n, ∃ b, GM (fun t => P t ∧ t < n) T b := by
    intro n
    induction n with
    | zero => exact ⟨-1, GM_0 (fun t ht => absurd ht.2 (Nat.not_lt_zero t))⟩
    | succ n ih =>
      obtain ⟨b, hb⟩ := ih
      by_cases h : P n
      · exact ⟨_, GM_ad hb (fun t => ⟨fun ht => by
          by_cases e : t = n
          · exact Or.inr e
          · exact Or.inl ⟨ht.1, by have := ht.2; omega⟩, fun ht => by
          rcases ht with ht | rfl
          · exact ⟨ht.1, by have := ht.2; omega⟩
          · exact ⟨h, by omega⟩⟩) (hT n h)⟩
      · exact ⟨b, GM_cg hb (fun t => ⟨fun ht => ⟨ht.1, by have := ht.2; omega⟩, fun ht => ⟨ht.1, by
          have h2 := ht.2
          refine Nat.lt_of_le_of_ne (by omega) (fun e => h ?_)
          rw [← e]
          exact ht.1⟩⟩) (fun _ _ => rfl)⟩
  obtain ⟨b, hb⟩ := key m
  exact ⟨b, GM_cg hb (fun t => ⟨fun ht => ht.1, fun ht => ⟨ht, hP t ht⟩⟩) (fun _ _ => rfl)⟩

set_option maxHeartbeats 4000000 in
set_option maxRecDepth 20000 in
theorem c8_X11_meanOf (l0 : Launch) {Ia Ja : aI1} {Ra : aR1} {Sa : aS1} (hL : LY Ra Sa) (hQ : RX Ia) {a : Int} (ha0 : 0 ≤ a) (ha1 : a ≤ FU (Ia 51 304)) (hcr : ∀ t : Nat, (t : Int) ≤ FU (Ia 51 304) → -1 ≤ Ia 51 t ∧ Ia 51 t ≤ 7) (hM : ∀ t : Nat, a < t → (t : Int) ≤ FU (Ia 51 304) → MR8 (Ia 51 304) (Ia 51 305 - 1) (Ia 51 t) (pcn t) (Ja 62 t)) (hcK : Ia 51 a.toNat < Ia 51 305)  : CT l0 3 0 0 mX11_meanOf [kR (some 49), kI a] Ia Ja Ra Sa (cJ (fun x I' J' => Ia = I' ∧ Ja = J' ∧ MRs (Ia 51) (Ia 51 306) (FU (Ia 51 304) + 1) (Ia 51 305) (Ia 51 304) (Ja 62) a.toNat x ∧ MR8 (Ia 51 304) (Ia 51 305 - 1) (Ia 51 a.toNat) (pcn a.toNat) x) Ra Sa) := by
  refine ct_in pn_X11 (Nat.le_of_ble_eq_true rfl) (fun X hX hT hIn => ?_)
  have hX : aK l0 X cX11_meanOf 9 RX11 (some .long) 3 0 0 := hX
  change WW X 0 [some (kR (some 49)), some (kI a), none, none, none, none, none, none, none] [] Ia Ja Ra Sa 0 0
  have qIa := RX_o hQ
  have hpn := pcn_n (n := Ia 51 304) (t := a.toNat) (by omega) (by omega) (by omega)
  have hpr := pcn_r a.toNat
  have hu7 := pow_7 (b := Ia 51 305 - 1) (n := (Ia 51 304 - pcn a.toNat).toNat) (by omega) (by omega) (by omega)
  have hB0 : 0 ≤ (2 * (Ia 51 304 - pcn a.toNat) * (Ia 51 305 - 1) ^ (Ia 51 304 - pcn a.toNat).toNat) := Int.mul_nonneg (by omega) (by omega)
  have hB16 : (2 * (Ia 51 304 - pcn a.toNat) * (Ia 51 305 - 1) ^ (Ia 51 304 - pcn a.toNat).toNat) ≤ 16 * (Ia 51 305 - 1) ^ (Ia 51 304 - pcn a.toNat).toNat := Int.mul_le_mul_of_nonneg_right (by omega) (by omega)
  have hca := hcr a.toNat (by omega)
  have hTI : ∀ (x : Int) (t : Nat), 0 ≤ x → PB (Ia 51) (Ia 51 306) a (FU (Ia 51 304) + 1) x t → 0 ≤ tI (Ja 62) (Ia 51 305) (Ia 51 304) a.toNat t ∧ tI (Ja 62) (Ia 51 305) (Ia 51 304) a.toNat t ≤ (2 * (Ia 51 304 - pcn a.toNat) * (Ia 51 305 - 1) ^ (Ia 51 304 - pcn a.toNat).toNat) := fun x t hx ht => by
    have h1 := ht.1
    have h2 := ht.2.1
    have h3 := pcn_n (n := Ia 51 304) (t := t) (by omega) (by omega) (by omega)
    have h4 := pcn_lt ht.2.2.1 (by omega) (by omega)
    have h5 := ht.2.2.2.2
    exact tI_r (by omega) (by omega) (hM t h1 (by omega)) (by omega) h4
  refine ww_aload_n hX (pc := 0) dX11_meanOf_0 rfl ?_
  refine ww_iload_n hX (pc := 1) dX11_meanOf_1 rfl ?_
  refine vI1 hX (pc := 2) sX11_274 (xs_49 hL) (c8_X11_dark l0 hL hQ (by omega) (by omega)) (by decide) (Nat.le_refl 0) (Nat.le_refl 0) (Nat.le_of_ble_eq_true rfl) dX11_meanOf_2 (fun x_2 I_2 J_2 h_2 => ?_)
  obtain ⟨rfl, rfl, h_2⟩ := h_2
  have hv2 : x_2 = Ia 51 304 - pcn a.toNat := h_2
  refine ww_istore_n hX (pc := 5) (lv' := [some (kR (some 49)), some (kI a), some (kI x_2), none, none, none, none, none, none]) dX11_meanOf_5 (by decide) rfl rfl ?_
  refine ww_aload_n hX (pc := 6) dX11_meanOf_6 rfl ?_
  refine ww_iload_n hX (pc := 7) dX11_meanOf_7 rfl ?_
  refine vI1 hX (pc := 8) sX11_126 (xs_49 hL) (c_X11_readOf l0 hL hQ (by omega) (by omega)) (by decide) (Nat.le_refl 0) (Nat.le_refl 0) (Nat.le_of_ble_eq_true rfl) dX11_meanOf_8 (fun x_8 I_8 J_8 h_8 => ?_)
  obtain ⟨rfl, rfl, h_8⟩ := h_8
  refine ww_iconst hX (pc := 11) (x := (-1)) dX11_meanOf_11 rfl ?_
  refine ww_icmp_ne hX (pc := 12) (tgt := 19) dX11_meanOf_12 (by decide) (fun h_12 => ?_) (fun h_12 => ?_)
  · simp only [w32_mod] at h_12
    skip
    refine ww_aload_n hX (pc := 19) dX11_meanOf_19 rfl ?_
    refine ww_iload_n hX (pc := 20) dX11_meanOf_20 rfl ?_
    refine vJ1 hX (pc := 21) sX11_277 (xs_49 hL) (c_X11_power l0 hL hQ (by omega) (by omega)) (by decide) (Nat.le_refl 0) (Nat.le_refl 0) (Nat.le_of_ble_eq_true rfl) dX11_meanOf_21 (fun x_21 I_21 J_21 h_21 => ?_)
    obtain ⟨rfl, rfl, h_21⟩ := h_21
    refine ww_lstore_n hX (pc := 24) (lv' := [some (kR (some 49)), some (kI a), some (kI x_2), some (kL x_21), none, none, none, none, none]) dX11_meanOf_24 (by decide) rfl rfl ?_
    refine ww_iconst hX (pc := 25) (x := 0) dX11_meanOf_25 rfl ?_
    refine ww_istore hX (pc := 26) (lv' := [some (kR (some 49)), some (kI a), some (kI x_2), some (kL x_21), none, some (kI 0), none, none, none]) dX11_meanOf_26 (by decide) rfl rfl ?_
    have hl_28 : ∀ (n_28 : Nat) (sm : Int) (i : Int), (Ia 51 305 - i).toNat = n_28 → ((0 ≤ i ∧ i ≤ Ia 51 305) ∧ SMr Ia Ja a i sm) → WW X 28 [some (kR (some 49)), some (kI a), some (kI x_2), some (kL sm), none, some (kI i), none, none, none] [] Ia Ja Ra Sa 0 0 := by
      intro n_28
      induction n_28 using Nat.strongRecOn with
      | ind n_28 ih_28 =>
        intro sm i hm_28 hv_28
        have hq_28 := Sh0_i hm_28
        clear hm_28
        obtain ⟨hv, hsm⟩ := hv_28
        refine ww_iload hX (pc := 28) dX11_meanOf_28 rfl ?_
        refine ww_aload_n hX (pc := 30) dX11_meanOf_30 rfl ?_
        refine ww_getR hX (pc := 31) fX11_20 (by decide) (xs_49 hL) (xr_49_3 hL) dX11_meanOf_31 ?_
        refine ww_sipush hX (pc := 34) (x := 305) dX11_meanOf_34 (by decide) ?_
        refine ww_iald hX (pc := 37) (xs_51 hL) (by decide) (by omega) (by omega) dX11_meanOf_37 ?_
        refine ww_toI (b := Ia 51 305) rfl ?_
        refine ww_icmp_ge hX (pc := 38) (tgt := 156) dX11_meanOf_38 (by decide) (fun h_38 => ?_) (fun h_38 => ?_)
        · simp only [w32_mod] at h_38
          refine ww_lload_n hX (pc := 156) dX11_meanOf_156 rfl ?_
          refine rJ hX (pc := 157) hT (Nat.le_refl 0) (Nat.le_refl 0) dX11_meanOf_157 ?_
          exact ⟨rfl, rfl, (by obtain ⟨rr, g1, g2⟩ := hsm; rw [show i = Ia 51 305 by omega] at g1 g2; exact ⟨rr, fun x hx => by rw [show ((a.toNat : Nat) : Int) = a by omega]; exact g1 x hx, g2⟩), (by obtain ⟨rr, g1, g2⟩ := hsm; rw [show i = Ia 51 305 by omega] at g1 g2; exact MR8_of (by omega) (by omega) (by omega) (by omega) (by omega) rfl (fun x hx => GT_r (g1 x (by omega)) (fun t ht => hTI x t (by omega) ht) (by omega)) g2)⟩
        · simp only [w32_mod] at h_38
          skip
          refine ww_iload hX (pc := 41) dX11_meanOf_41 rfl ?_
          refine ww_aload_n hX (pc := 43) dX11_meanOf_43 rfl ?_
          refine ww_iload_n hX (pc := 44) dX11_meanOf_44 rfl ?_
          refine vI1 hX (pc := 45) sX11_126 (xs_49 hL) (c_X11_readOf l0 hL hQ (by omega) (by omega)) (by decide) (Nat.le_refl 0) (Nat.le_refl 0) (Nat.le_of_ble_eq_true rfl) dX11_meanOf_45 (fun x_45 I_45 J_45 h_45 => ?_)
          obtain ⟨rfl, rfl, h_45⟩ := h_45
          refine ww_icmp_ne hX (pc := 48) (tgt := 54) dX11_meanOf_48 (by decide) (fun h_48 => ?_) (fun h_48 => ?_)
          · simp only [w32_mod] at h_48
            refine ww_ldc2 hX (pc := 54) (x := (-1)) dX11_meanOf_54 tb_1398 ?_
            refine ww_lstore hX (pc := 57) (lv' := [some (kR (some 49)), some (kI a), some (kI x_2), some (kL sm), none, some (kI i), some (kL (-1)), none, none]) dX11_meanOf_57 (by decide) rfl rfl ?_
            refine ww_iload_n hX (pc := 59) dX11_meanOf_59 rfl ?_
            refine ww_iconst hX (pc := 60) (x := 1) dX11_meanOf_60 rfl ?_
            refine ww_iadd hX (pc := 61) dX11_meanOf_61 ?_
            refine ww_nmI (fun v_62 hv_62 => ?_)
            refine ww_istore hX (pc := 62) (lv' := [some (kR (some 49)), some (kI a), some (kI x_2), some (kL sm), none, some (kI i), some (kL (-1)), none, some (kI v_62)]) dX11_meanOf_62 (by decide) rfl rfl ?_
            have hl_64 : ∀ (n_64 : Nat) (bs : Int) (t : Int), (256 - t).toNat = n_64 → ((a + 1 ≤ t ∧ t ≤ (FU (Ia 51 304) + 1)) ∧ GM (fun u => PB (Ia 51) (Ia 51 306) a (FU (Ia 51 304) + 1) i u ∧ (u : Int) < t) (fun t => tI (Ja 62) (Ia 51 305) (Ia 51 304) a.toNat t) (bs)) → WW X 64 [some (kR (some 49)), some (kI a), some (kI x_2), some (kL sm), none, some (kI i), some (kL bs), none, some (kI t)] [] Ia Ja Ra Sa 0 0 := by
              intro n_64
              induction n_64 using Nat.strongRecOn with
              | ind n_64 ih_64 =>
                intro bs t hm_64 hv_64
                have hq_64 := Sh0_i hm_64
                clear hm_64
                obtain ⟨hu, hgt⟩ := hv_64
                refine ww_iload hX (pc := 64) dX11_meanOf_64 rfl ?_
                refine ww_aload_n hX (pc := 66) dX11_meanOf_66 rfl ?_
                refine vI0 hX (pc := 67) sX11_112 (xs_49 hL) (c_X11_states l0 hL hQ ) (by decide) (Nat.le_refl 0) (Nat.le_refl 0) (Nat.le_of_ble_eq_true rfl) dX11_meanOf_67 (fun x_67 I_67 J_67 h_67 => ?_)
                obtain ⟨rfl, rfl, h_67⟩ := h_67
                refine ww_icmp_ge hX (pc := 70) (tgt := 130) dX11_meanOf_70 (by decide) (fun h_70 => ?_) (fun h_70 => ?_)
                · simp only [w32_mod] at h_70
                  refine ww_lload hX (pc := 130) dX11_meanOf_130 rfl ?_
                  refine ww_ldc2 hX (pc := 132) (x := (-1)) dX11_meanOf_132 tb_1398 ?_
                  refine ww_lcmp hX (pc := 135) dX11_meanOf_135 ?_
                  refine ww_if_eq hX (pc := 136) (tgt := 150) dX11_meanOf_136 (by decide) (fun h_136 => ?_) (fun h_136 => ?_)
                  · simp only [w32_mod] at h_136
                    have hgr := GT_r hgt (B := (2 * (Ia 51 304 - pcn a.toNat) * (Ia 51 305 - 1) ^ (Ia 51 304 - pcn a.toNat).toNat)) (fun u hu => hTI i u (by omega) hu.1) (by omega)
                    have hlc := l_cmp_v bs (-1)
                    rw [w64_id (x := bs) (by omega) (by omega), show w64 (-1) = -1 from rfl] at hlc
                    have hsm2 : SMr Ia Ja a (i + 1) sm := SMr_s hsm (by omega) (GT_e hgt (by omega)) (by rw [if_pos (Or.inr (by omega))])
                    refine ww_iinc hX (pc := 150) (lv' := [some (kR (some 49)), some (kI a), some (kI x_2), some (kL sm), none, some (kI (i + 1)), some (kL bs), none, some (kI t)]) dX11_meanOf_150 rfl (by decide) rfl rfl ?_
                    refine ww_goto hX (pc := 153) (tgt := 28) dX11_meanOf_153 (by decide) ?_
                    refine ww_sub [some (kR (some 49)), some (kI a), some (kI x_2), some (kL sm), none, some (kI (i + 1)), none, none, none] (aLe_s (aLe_s (aLe_s (aLe_s (aLe_n (aLe_s (aLe_n (aLe_n (aLe_n aLe_0))))))))) ?_
                    exact ih_28 _ (by have hm9 := Sh0_e hq_28; omega) sm (i + 1) rfl ⟨⟨by omega, by omega⟩, hsm2⟩
                  · simp only [w32_mod] at h_136
                    have hgr := GT_r hgt (B := (2 * (Ia 51 304 - pcn a.toNat) * (Ia 51 305 - 1) ^ (Ia 51 304 - pcn a.toNat).toNat)) (fun u hu => hTI i u (by omega) hu.1) (by omega)
                    have hlc := l_cmp_v bs (-1)
                    rw [w64_id (x := bs) (by omega) (by omega), show w64 (-1) = -1 from rfl] at hlc
                    refine ww_lload_n hX (pc := 139) dX11_meanOf_139 rfl ?_
                    refine ww_aload_n hX (pc := 140) dX11_meanOf_140 rfl ?_
                    refine ww_iload_n hX (pc := 141) dX11_meanOf_141 rfl ?_
                    refine vJ1 hX (pc := 142) sX11_277 (xs_49 hL) (c_X11_power l0 hL hQ (by omega) (by omega)) (by decide) (Nat.le_refl 0) (Nat.le_refl 0) (Nat.le_of_ble_eq_true rfl) dX11_meanOf_142 (fun x_142 I_142 J_142 h_142 => ?_)
                    obtain ⟨rfl, rfl, h_142⟩ := h_142
                    refine ww_lload hX (pc := 145) dX11_meanOf_145 rfl ?_
                    refine ww_ladd hX (pc := 147) dX11_meanOf_147 ?_
                    refine ww_ladd hX (pc := 148) dX11_meanOf_148 ?_
                    refine ww_nmL (fun v_149 hv_149 => ?_)
                    refine ww_lstore_n hX (pc := 149) (lv' := [some (kR (some 49)), some (kI a), some (kI x_2), some (kL v_149), none, some (kI i), some (kL bs), none, some (kI t)]) dX11_meanOf_149 (by decide) rfl rfl ?_
                    have hsm2 : SMr Ia Ja a (i + 1) v_149 := SMr_s hsm (by omega) (GT_e hgt (by omega)) (by rw [if_neg (by omega), hv_149, h_142, hv2])
                    refine ww_iinc hX (pc := 150) (lv' := [some (kR (some 49)), some (kI a), some (kI x_2), some (kL v_149), none, some (kI (i + 1)), some (kL bs), none, some (kI t)]) dX11_meanOf_150 rfl (by decide) rfl rfl ?_
                    refine ww_goto hX (pc := 153) (tgt := 28) dX11_meanOf_153 (by decide) ?_
                    refine ww_sub [some (kR (some 49)), some (kI a), some (kI x_2), some (kL v_149), none, some (kI (i + 1)), none, none, none] (aLe_s (aLe_s (aLe_s (aLe_s (aLe_n (aLe_s (aLe_n (aLe_n (aLe_n aLe_0))))))))) ?_
                    exact ih_28 _ (by have hm9 := Sh0_e hq_28; omega) v_149 (i + 1) rfl ⟨⟨by omega, by omega⟩, hsm2⟩
                · simp only [w32_mod] at h_70
                  have hct := hcr t.toNat (by omega)
                  have htt : ((t.toNat : Nat) : Int) = t := by omega
                  refine ww_aload_n hX (pc := 73) dX11_meanOf_73 rfl ?_
                  refine ww_iload hX (pc := 74) dX11_meanOf_74 rfl ?_
                  refine vI1 hX (pc := 76) sX11_126 (xs_49 hL) (c_X11_readOf l0 hL hQ (by omega) (by omega)) (by decide) (Nat.le_refl 0) (Nat.le_refl 0) (Nat.le_of_ble_eq_true rfl) dX11_meanOf_76 (fun x_76 I_76 J_76 h_76 => ?_)
                  obtain ⟨rfl, rfl, h_76⟩ := h_76
                  refine ww_iload hX (pc := 79) dX11_meanOf_79 rfl ?_
                  refine ww_icmp_ne hX (pc := 81) (tgt := 124) dX11_meanOf_81 (by decide) (fun h_81 => ?_) (fun h_81 => ?_)
                  · simp only [w32_mod] at h_81
                    have hgt2 : GM (fun u => PB (Ia 51) (Ia 51 306) a (FU (Ia 51 304) + 1) i u ∧ (u : Int) < (t + 1)) (fun t => tI (Ja 62) (Ia 51 305) (Ia 51 304) a.toNat t) (bs) := GT_no hgt (by omega) (fun h9 => by
                      have h8 := h9.2.2.2.2; omega)
                    refine ww_iinc hX (pc := 124) (lv' := [some (kR (some 49)), some (kI a), some (kI x_2), some (kL sm), none, some (kI i), some (kL bs), none, some (kI (t + 1))]) dX11_meanOf_124 rfl (by decide) rfl rfl ?_
                    refine ww_goto hX (pc := 127) (tgt := 64) dX11_meanOf_127 (by decide) ?_
                    exact ih_64 _ (by have hm9 := Sh0_e hq_64; omega) bs (t + 1) rfl ⟨⟨by omega, by omega⟩, hgt2⟩
                  · simp only [w32_mod] at h_81
                    refine ww_aload_n hX (pc := 84) dX11_meanOf_84 rfl ?_
                    refine ww_iload_n hX (pc := 85) dX11_meanOf_85 rfl ?_
                    refine ww_iload hX (pc := 86) dX11_meanOf_86 rfl ?_
                    refine ww_aload_n hX (pc := 88) dX11_meanOf_88 rfl ?_
                    refine ww_getR hX (pc := 89) fX11_20 (by decide) (xs_49 hL) (xr_49_3 hL) dX11_meanOf_89 ?_
                    refine ww_sipush hX (pc := 92) (x := 306) dX11_meanOf_92 (by decide) ?_
                    refine ww_iald hX (pc := 95) (xs_51 hL) (by decide) (by omega) (by omega) dX11_meanOf_95 ?_
                    refine ww_toI (b := Ia 51 306) rfl ?_
                    refine vI3 hX (pc := 96) sX11_271 (xs_49 hL) (c_X11_canCome l0 hL hQ ) (by decide) (Nat.le_refl 0) (Nat.le_refl 0) (Nat.le_of_ble_eq_true rfl) dX11_meanOf_96 (fun x_96 I_96 J_96 h_96 => ?_)
                    obtain ⟨rfl, rfl, h_96⟩ := h_96
                    refine ww_if_eq hX (pc := 99) (tgt := 124) dX11_meanOf_99 (by decide) (fun h_99 => ?_) (fun h_99 => ?_)
                    · simp only [w32_mod] at h_99
                      have hgt2 : GM (fun u => PB (Ia 51) (Ia 51 306) a (FU (Ia 51 304) + 1) i u ∧ (u : Int) < (t + 1)) (fun t => tI (Ja 62) (Ia 51 305) (Ia 51 304) a.toNat t) (bs) := GT_no hgt (by omega) (fun h9 => by
                        have h8 := h9.2.2.2.1
                        rw [htt] at h8
                        have := h_96.2.mpr ((canC_iff (by omega) (by omega) (by omega) (by omega)).mpr ⟨h9.2.2.1, h8⟩)
                        omega)
                      refine ww_iinc hX (pc := 124) (lv' := [some (kR (some 49)), some (kI a), some (kI x_2), some (kL sm), none, some (kI i), some (kL bs), none, some (kI (t + 1))]) dX11_meanOf_124 rfl (by decide) rfl rfl ?_
                      refine ww_goto hX (pc := 127) (tgt := 64) dX11_meanOf_127 (by decide) ?_
                      exact ih_64 _ (by have hm9 := Sh0_e hq_64; omega) bs (t + 1) rfl ⟨⟨by omega, by omega⟩, hgt2⟩
                    · simp only [w32_mod] at h_99
                      have hcc := (canC_iff (by omega) (by omega) (by omega) (by omega)).mp (h_96.2.mp (by omega))
                      have hpb : PB (Ia 51) (Ia 51 306) a (FU (Ia 51 304) + 1) i t.toNat := ⟨by omega, by omega, hcc.1, by rw [htt]; exact hcc.2, by omega⟩
                      have hti9 := hTI i t.toNat (by omega) hpb
                      have hgr9 := GT_r hgt (B := (2 * (Ia 51 304 - pcn a.toNat) * (Ia 51 305 - 1) ^ (Ia 51 304 - pcn a.toNat).toNat)) (fun u hu => hTI i u (by omega) hu.1) (by omega)
                      refine ww_aload_n hX (pc := 102) dX11_meanOf_102 rfl ?_
                      refine ww_iload hX (pc := 103) dX11_meanOf_103 rfl ?_
                      refine ww_iload_n hX (pc := 105) dX11_meanOf_105 rfl ?_
                      refine vJ2 hX (pc := 106) sX11_281 (xs_49 hL) (c8_X11_meanIn l0 hL hQ (by omega) (by omega) (by omega) (by omega)) (by decide) (Nat.le_refl 0) (Nat.le_refl 0) (Nat.le_of_ble_eq_true rfl) dX11_meanOf_106 (fun x_106 I_106 J_106 h_106 => ?_)
                      obtain ⟨rfl, rfl, h_106⟩ := h_106
                      have hmi : x_106 = tI (Ja 62) (Ia 51 305) (Ia 51 304) a.toNat t.toNat := by
                        rw [h_106, hv2]
                        rfl
                      refine ww_lload hX (pc := 109) dX11_meanOf_109 rfl ?_
                      refine ww_lcmp hX (pc := 111) dX11_meanOf_111 ?_
                      refine ww_if_le hX (pc := 112) (tgt := 124) dX11_meanOf_112 (by decide) (fun h_112 => ?_) (fun h_112 => ?_)
                      · simp only [w32_mod] at h_112
                        have hlc := l_cmp_v x_106 bs
                        rw [w64_id (x := x_106) (by omega) (by omega), w64_id (x := bs) (by omega) (by omega)] at hlc
                        have hgt2 : GM (fun u => PB (Ia 51) (Ia 51 306) a (FU (Ia 51 304) + 1) i u ∧ (u : Int) < (t + 1)) (fun t => tI (Ja 62) (Ia 51 305) (Ia 51 304) a.toNat t) (bs) := GT_ad hgt (by omega) hpb (by show 0 ≤ tI (Ja 62) (Ia 51 305) (Ia 51 304) a.toNat t.toNat; omega) (by show bs = max bs (tI (Ja 62) (Ia 51 305) (Ia 51 304) a.toNat t.toNat); omega)
                        refine ww_iinc hX (pc := 124) (lv' := [some (kR (some 49)), some (kI a), some (kI x_2), some (kL sm), none, some (kI i), some (kL bs), none, some (kI (t + 1))]) dX11_meanOf_124 rfl (by decide) rfl rfl ?_
                        refine ww_goto hX (pc := 127) (tgt := 64) dX11_meanOf_127 (by decide) ?_
                        exact ih_64 _ (by have hm9 := Sh0_e hq_64; omega) bs (t + 1) rfl ⟨⟨by omega, by omega⟩, hgt2⟩
                      · simp only [w32_mod] at h_112
                        have hlc := l_cmp_v x_106 bs
                        rw [w64_id (x := x_106) (by omega) (by omega), w64_id (x := bs) (by omega) (by omega)] at hlc
                        have hgw : max bs (tI (Ja 62) (Ia 51 305) (Ia 51 304) a.toNat t.toNat) = tI (Ja 62) (Ia 51 305) (Ia 51 304) a.toNat t.toNat := by omega
                        have hgt2 : GM (fun u => PB (Ia 51) (Ia 51 306) a (FU (Ia 51 304) + 1) i u ∧ (u : Int) < (t + 1)) (fun t => tI (Ja 62) (Ia 51 305) (Ia 51 304) a.toNat t) (tI (Ja 62) (Ia 51 305) (Ia 51 304) a.toNat t.toNat) := GT_ad hgt (by omega) hpb (by show 0 ≤ tI (Ja 62) (Ia 51 305) (Ia 51 304) a.toNat t.toNat; omega) hgw.symm
                        refine ww_aload_n hX (pc := 115) dX11_meanOf_115 rfl ?_
                        refine ww_iload hX (pc := 116) dX11_meanOf_116 rfl ?_
                        refine ww_iload_n hX (pc := 118) dX11_meanOf_118 rfl ?_
                        refine vJ2 hX (pc := 119) sX11_281 (xs_49 hL) (c8_X11_meanIn l0 hL hQ (by omega) (by omega) (by omega) (by omega)) (by decide) (Nat.le_refl 0) (Nat.le_refl 0) (Nat.le_of_ble_eq_true rfl) dX11_meanOf_119 (fun x_119 I_119 J_119 h_119 => ?_)
                        obtain ⟨rfl, rfl, h_119⟩ := h_119
                        have hmi2 : x_119 = tI (Ja 62) (Ia 51 305) (Ia 51 304) a.toNat t.toNat := by
                          rw [h_119, hv2]
                          rfl
                        rw [← hmi2] at hgt2
                        refine ww_lstore hX (pc := 122) (lv' := [some (kR (some 49)), some (kI a), some (kI x_2), some (kL sm), none, some (kI i), some (kL x_119), none, some (kI t)]) dX11_meanOf_122 (by decide) rfl rfl ?_
                        refine ww_iinc hX (pc := 124) (lv' := [some (kR (some 49)), some (kI a), some (kI x_2), some (kL sm), none, some (kI i), some (kL x_119), none, some (kI (t + 1))]) dX11_meanOf_124 rfl (by decide) rfl rfl ?_
                        refine ww_goto hX (pc := 127) (tgt := 64) dX11_meanOf_127 (by decide) ?_
                        exact ih_64 _ (by have hm9 := Sh0_e hq_64; omega) x_119 (t + 1) rfl ⟨⟨by omega, by omega⟩, hgt2⟩
            exact hl_64 _ (-1) v_62 rfl ⟨⟨by omega, by omega⟩, GT_0 (by omega)⟩
          · simp only [w32_mod] at h_48
            have hsm2 : SMr Ia Ja a (i + 1) sm := SMr_o hsm (by omega) (by omega) (GM_ex (m := 256) (fun t ht => by have := ht.2.1; omega) (fun t ht => (hTI i t (by omega) ht).1))
            refine ww_goto hX (pc := 51) (tgt := 150) dX11_meanOf_51 (by decide) ?_
            refine ww_iinc hX (pc := 150) (lv' := [some (kR (some 49)), some (kI a), some (kI x_2), some (kL sm), none, some (kI (i + 1)), none, none, none]) dX11_meanOf_150 rfl (by decide) rfl rfl ?_
            refine ww_goto hX (pc := 153) (tgt := 28) dX11_meanOf_153 (by decide) ?_
            exact ih_28 _ (by have hm9 := Sh0_e hq_28; omega) sm (i + 1) rfl ⟨⟨by omega, by omega⟩, hsm2⟩
    exact hl_28 _ x_21 0 rfl ⟨⟨by omega, by omega⟩, SMr_0 (by
      first
      | rw [if_pos (by omega)]
      | (rw [if_neg (by omega), h_21, hv2]))⟩
  · simp only [w32_mod] at h_12
    refine ww_lconst hX (pc := 15) (x := 0) dX11_meanOf_15 (by decide) ?_
    refine ww_goto hX (pc := 16) (tgt := 24) dX11_meanOf_16 (by decide) ?_
    refine ww_lstore_n hX (pc := 24) (lv' := [some (kR (some 49)), some (kI a), some (kI x_2), some (kL 0), none, none, none, none, none]) dX11_meanOf_24 (by decide) rfl rfl ?_
    refine ww_iconst hX (pc := 25) (x := 0) dX11_meanOf_25 rfl ?_
    refine ww_istore hX (pc := 26) (lv' := [some (kR (some 49)), some (kI a), some (kI x_2), some (kL 0), none, some (kI 0), none, none, none]) dX11_meanOf_26 (by decide) rfl rfl ?_
    have hl_28 : ∀ (n_28 : Nat) (sm : Int) (i : Int), (Ia 51 305 - i).toNat = n_28 → ((0 ≤ i ∧ i ≤ Ia 51 305) ∧ SMr Ia Ja a i sm) → WW X 28 [some (kR (some 49)), some (kI a), some (kI x_2), some (kL sm), none, some (kI i), none, none, none] [] Ia Ja Ra Sa 0 0 := by
      intro n_28
      induction n_28 using Nat.strongRecOn with
      | ind n_28 ih_28 =>
        intro sm i hm_28 hv_28
        have hq_28 := Sh0_i hm_28
        clear hm_28
        obtain ⟨hv, hsm⟩ := hv_28
        refine ww_iload hX (pc := 28) dX11_meanOf_28 rfl ?_
        refine ww_aload_n hX (pc := 30) dX11_meanOf_30 rfl ?_
        refine ww_getR hX (pc := 31) fX11_20 (by decide) (xs_49 hL) (xr_49_3 hL) dX11_meanOf_31 ?_
        refine ww_sipush hX (pc := 34) (x := 305) dX11_meanOf_34 (by decide) ?_
        refine ww_iald hX (pc := 37) (xs_51 hL) (by decide) (by omega) (by omega) dX11_meanOf_37 ?_
        refine ww_toI (b := Ia 51 305) rfl ?_
        refine ww_icmp_ge hX (pc := 38) (tgt := 156) dX11_meanOf_38 (by decide) (fun h_38 => ?_) (fun h_38 => ?_)
        · simp only [w32_mod] at h_38
          refine ww_lload_n hX (pc := 156) dX11_meanOf_156 rfl ?_
          refine rJ hX (pc := 157) hT (Nat.le_refl 0) (Nat.le_refl 0) dX11_meanOf_157 ?_
          exact ⟨rfl, rfl, (by obtain ⟨rr, g1, g2⟩ := hsm; rw [show i = Ia 51 305 by omega] at g1 g2; exact ⟨rr, fun x hx => by rw [show ((a.toNat : Nat) : Int) = a by omega]; exact g1 x hx, g2⟩), (by obtain ⟨rr, g1, g2⟩ := hsm; rw [show i = Ia 51 305 by omega] at g1 g2; exact MR8_of (by omega) (by omega) (by omega) (by omega) (by omega) rfl (fun x hx => GT_r (g1 x (by omega)) (fun t ht => hTI x t (by omega) ht) (by omega)) g2)⟩
        · simp only [w32_mod] at h_38
          skip
          refine ww_iload hX (pc := 41) dX11_meanOf_41 rfl ?_
          refine ww_aload_n hX (pc := 43) dX11_meanOf_43 rfl ?_
          refine ww_iload_n hX (pc := 44) dX11_meanOf_44 rfl ?_
          refine vI1 hX (pc := 45) sX11_126 (xs_49 hL) (c_X11_readOf l0 hL hQ (by omega) (by omega)) (by decide) (Nat.le_refl 0) (Nat.le_refl 0) (Nat.le_of_ble_eq_true rfl) dX11_meanOf_45 (fun x_45 I_45 J_45 h_45 => ?_)
          obtain ⟨rfl, rfl, h_45⟩ := h_45
          refine ww_icmp_ne hX (pc := 48) (tgt := 54) dX11_meanOf_48 (by decide) (fun h_48 => ?_) (fun h_48 => ?_)
          · simp only [w32_mod] at h_48
            refine ww_ldc2 hX (pc := 54) (x := (-1)) dX11_meanOf_54 tb_1398 ?_
            refine ww_lstore hX (pc := 57) (lv' := [some (kR (some 49)), some (kI a), some (kI x_2), some (kL sm), none, some (kI i), some (kL (-1)), none, none]) dX11_meanOf_57 (by decide) rfl rfl ?_
            refine ww_iload_n hX (pc := 59) dX11_meanOf_59 rfl ?_
            refine ww_iconst hX (pc := 60) (x := 1) dX11_meanOf_60 rfl ?_
            refine ww_iadd hX (pc := 61) dX11_meanOf_61 ?_
            refine ww_nmI (fun v_62 hv_62 => ?_)
            refine ww_istore hX (pc := 62) (lv' := [some (kR (some 49)), some (kI a), some (kI x_2), some (kL sm), none, some (kI i), some (kL (-1)), none, some (kI v_62)]) dX11_meanOf_62 (by decide) rfl rfl ?_
            have hl_64 : ∀ (n_64 : Nat) (bs : Int) (t : Int), (256 - t).toNat = n_64 → ((a + 1 ≤ t ∧ t ≤ (FU (Ia 51 304) + 1)) ∧ GM (fun u => PB (Ia 51) (Ia 51 306) a (FU (Ia 51 304) + 1) i u ∧ (u : Int) < t) (fun t => tI (Ja 62) (Ia 51 305) (Ia 51 304) a.toNat t) (bs)) → WW X 64 [some (kR (some 49)), some (kI a), some (kI x_2), some (kL sm), none, some (kI i), some (kL bs), none, some (kI t)] [] Ia Ja Ra Sa 0 0 := by
              intro n_64
              induction n_64 using Nat.strongRecOn with
              | ind n_64 ih_64 =>
                intro bs t hm_64 hv_64
                have hq_64 := Sh0_i hm_64
                clear hm_64
                obtain ⟨hu, hgt⟩ := hv_64
                refine ww_iload hX (pc := 64) dX11_meanOf_64 rfl ?_
                refine ww_aload_n hX (pc := 66) dX11_meanOf_66 rfl ?_
                refine vI0 hX (pc := 67) sX11_112 (xs_49 hL) (c_X11_states l0 hL hQ ) (by decide) (Nat.le_refl 0) (Nat.le_refl 0) (Nat.le_of_ble_eq_true rfl) dX11_meanOf_67 (fun x_67 I_67 J_67 h_67 => ?_)
                obtain ⟨rfl, rfl, h_67⟩ := h_67
                refine ww_icmp_ge hX (pc := 70) (tgt := 130) dX11_meanOf_70 (by decide) (fun h_70 => ?_) (fun h_70 => ?_)
                · simp only [w32_mod] at h_70
                  refine ww_lload hX (pc := 130) dX11_meanOf_130 rfl ?_
                  refine ww_ldc2 hX (pc := 132) (x := (-1)) dX11_meanOf_132 tb_1398 ?_
                  refine ww_lcmp hX (pc := 135) dX11_meanOf_135 ?_
                  refine ww_if_eq hX (pc := 136) (tgt := 150) dX11_meanOf_136 (by decide) (fun h_136 => ?_) (fun h_136 => ?_)
                  · simp only [w32_mod] at h_136
                    have hgr := GT_r hgt (B := (2 * (Ia 51 304 - pcn a.toNat) * (Ia 51 305 - 1) ^ (Ia 51 304 - pcn a.toNat).toNat)) (fun u hu => hTI i u (by omega) hu.1) (by omega)
                    have hlc := l_cmp_v bs (-1)
                    rw [w64_id (x := bs) (by omega) (by omega), show w64 (-1) = -1 from rfl] at hlc
                    have hsm2 : SMr Ia Ja a (i + 1) sm := SMr_s hsm (by omega) (GT_e hgt (by omega)) (by rw [if_pos (Or.inr (by omega))])
                    refine ww_iinc hX (pc := 150) (lv' := [some (kR (some 49)), some (kI a), some (kI x_2), some (kL sm), none, some (kI (i + 1)), some (kL bs), none, some (kI t)]) dX11_meanOf_150 rfl (by decide) rfl rfl ?_
                    refine ww_goto hX (pc := 153) (tgt := 28) dX11_meanOf_153 (by decide) ?_
                    refine ww_sub [some (kR (some 49)), some (kI a), some (kI x_2), some (kL sm), none, some (kI (i + 1)), none, none, none] (aLe_s (aLe_s (aLe_s (aLe_s (aLe_n (aLe_s (aLe_n (aLe_n (aLe_n aLe_0))))))))) ?_
                    exact ih_28 _ (by have hm9 := Sh0_e hq_28; omega) sm (i + 1) rfl ⟨⟨by omega, by omega⟩, hsm2⟩
                  · simp only [w32_mod] at h_136
                    have hgr := GT_r hgt (B := (2 * (Ia 51 304 - pcn a.toNat) * (Ia 51 305 - 1) ^ (Ia 51 304 - pcn a.toNat).toNat)) (fun u hu => hTI i u (by omega) hu.1) (by omega)
                    have hlc := l_cmp_v bs (-1)
                    rw [w64_id (x := bs) (by omega) (by omega), show w64 (-1) = -1 from rfl] at hlc
                    refine ww_lload_n hX (pc := 139) dX11_meanOf_139 rfl ?_
                    refine ww_aload_n hX (pc := 140) dX11_meanOf_140 rfl ?_
                    refine ww_iload_n hX (pc := 141) dX11_meanOf_141 rfl ?_
                    refine vJ1 hX (pc := 142) sX11_277 (xs_49 hL) (c_X11_power l0 hL hQ (by omega) (by omega)) (by decide) (Nat.le_refl 0) (Nat.le_refl 0) (Nat.le_of_ble_eq_true rfl) dX11_meanOf_142 (fun x_142 I_142 J_142 h_142 => ?_)
                    obtain ⟨rfl, rfl, h_142⟩ := h_142
                    refine ww_lload hX (pc := 145) dX11_meanOf_145 rfl ?_
                    refine ww_ladd hX (pc := 147) dX11_meanOf_147 ?_
                    refine ww_ladd hX (pc := 148) dX11_meanOf_148 ?_
                    refine ww_nmL (fun v_149 hv_149 => ?_)
                    refine ww_lstore_n hX (pc := 149) (lv' := [some (kR (some 49)), some (kI a), some (kI x_2), some (kL v_149), none, some (kI i), some (kL bs), none, some (kI t)]) dX11_meanOf_149 (by decide) rfl rfl ?_
                    have hsm2 : SMr Ia Ja a (i + 1) v_149 := SMr_s hsm (by omega) (GT_e hgt (by omega)) (by rw [if_neg (by omega), hv_149, h_142, hv2])
                    refine ww_iinc hX (pc := 150) (lv' := [some (kR (some 49)), some (kI a), some (kI x_2), some (kL v_149), none, some (kI (i + 1)), some (kL bs), none, some (kI t)]) dX11_meanOf_150 rfl (by decide) rfl rfl ?_
                    refine ww_goto hX (pc := 153) (tgt := 28) dX11_meanOf_153 (by decide) ?_
                    refine ww_sub [some (kR (some 49)), some (kI a), some (kI x_2), some (kL v_149), none, some (kI (i + 1)), none, none, none] (aLe_s (aLe_s (aLe_s (aLe_s (aLe_n (aLe_s (aLe_n (aLe_n (aLe_n aLe_0))))))))) ?_
                    exact ih_28 _ (by have hm9 := Sh0_e hq_28; omega) v_149 (i + 1) rfl ⟨⟨by omega, by omega⟩, hsm2⟩
                · simp only [w32_mod] at h_70
                  have hct := hcr t.toNat (by omega)
                  have htt : ((t.toNat : Nat) : Int) = t := by omega
                  refine ww_aload_n hX (pc := 73) dX11_meanOf_73 rfl ?_
                  refine ww_iload hX (pc := 74) dX11_meanOf_74 rfl ?_
                  refine vI1 hX (pc := 76) sX11_126 (xs_49 hL) (c_X11_readOf l0 hL hQ (by omega) (by omega)) (by decide) (Nat.le_refl 0) (Nat.le_refl 0) (Nat.le_of_ble_eq_true rfl) dX11_meanOf_76 (fun x_76 I_76 J_76 h_76 => ?_)
                  obtain ⟨rfl, rfl, h_76⟩ := h_76
                  refine ww_iload hX (pc := 79) dX11_meanOf_79 rfl ?_
                  refine ww_icmp_ne hX (pc := 81) (tgt := 124) dX11_meanOf_81 (by decide) (fun h_81 => ?_) (fun h_81 => ?_)
                  · simp only [w32_mod] at h_81
                    have hgt2 : GM (fun u => PB (Ia 51) (Ia 51 306) a (FU (Ia 51 304) + 1) i u ∧ (u : Int) < (t + 1)) (fun t => tI (Ja 62) (Ia 51 305) (Ia 51 304) a.toNat t) (bs) := GT_no hgt (by omega) (fun h9 => by
                      have h8 := h9.2.2.2.2; omega)
                    refine ww_iinc hX (pc := 124) (lv' := [some (kR (some 49)), some (kI a), some (kI x_2), some (kL sm), none, some (kI i), some (kL bs), none, some (kI (t + 1))]) dX11_meanOf_124 rfl (by decide) rfl rfl ?_
                    refine ww_goto hX (pc := 127) (tgt := 64) dX11_meanOf_127 (by decide) ?_
                    exact ih_64 _ (by have hm9 := Sh0_e hq_64; omega) bs (t + 1) rfl ⟨⟨by omega, by omega⟩, hgt2⟩
                  · simp only [w32_mod] at h_81
                    refine ww_aload_n hX (pc := 84) dX11_meanOf_84 rfl ?_
                    refine ww_iload_n hX (pc := 85) dX11_meanOf_85 rfl ?_
                    refine ww_iload hX (pc := 86) dX11_meanOf_86 rfl ?_
                    refine ww_aload_n hX (pc := 88) dX11_meanOf_88 rfl ?_
                    refine ww_getR hX (pc := 89) fX11_20 (by decide) (xs_49 hL) (xr_49_3 hL) dX11_meanOf_89 ?_
                    refine ww_sipush hX (pc := 92) (x := 306) dX11_meanOf_92 (by decide) ?_
                    refine ww_iald hX (pc := 95) (xs_51 hL) (by decide) (by omega) (by omega) dX11_meanOf_95 ?_
                    refine ww_toI (b := Ia 51 306) rfl ?_
                    refine vI3 hX (pc := 96) sX11_271 (xs_49 hL) (c_X11_canCome l0 hL hQ ) (by decide) (Nat.le_refl 0) (Nat.le_refl 0) (Nat.le_of_ble_eq_true rfl) dX11_meanOf_96 (fun x_96 I_96 J_96 h_96 => ?_)
                    obtain ⟨rfl, rfl, h_96⟩ := h_96
                    refine ww_if_eq hX (pc := 99) (tgt := 124) dX11_meanOf_99 (by decide) (fun h_99 => ?_) (fun h_99 => ?_)
                    · simp only [w32_mod] at h_99
                      have hgt2 : GM (fun u => PB (Ia 51) (Ia 51 306) a (FU (Ia 51 304) + 1) i u ∧ (u : Int) < (t + 1)) (fun t => tI (Ja 62) (Ia 51 305) (Ia 51 304) a.toNat t) (bs) := GT_no hgt (by omega) (fun h9 => by
                        have h8 := h9.2.2.2.1
                        rw [htt] at h8
                        have := h_96.2.mpr ((canC_iff (by omega) (by omega) (by omega) (by omega)).mpr ⟨h9.2.2.1, h8⟩)
                        omega)
                      refine ww_iinc hX (pc := 124) (lv' := [some (kR (some 49)), some (kI a), some (kI x_2), some (kL sm), none, some (kI i), some (kL bs), none, some (kI (t + 1))]) dX11_meanOf_124 rfl (by decide) rfl rfl ?_
                      refine ww_goto hX (pc := 127) (tgt := 64) dX11_meanOf_127 (by decide) ?_
                      exact ih_64 _ (by have hm9 := Sh0_e hq_64; omega) bs (t + 1) rfl ⟨⟨by omega, by omega⟩, hgt2⟩
                    · simp only [w32_mod] at h_99
                      have hcc := (canC_iff (by omega) (by omega) (by omega) (by omega)).mp (h_96.2.mp (by omega))
                      have hpb : PB (Ia 51) (Ia 51 306) a (FU (Ia 51 304) + 1) i t.toNat := ⟨by omega, by omega, hcc.1, by rw [htt]; exact hcc.2, by omega⟩
                      have hti9 := hTI i t.toNat (by omega) hpb
                      have hgr9 := GT_r hgt (B := (2 * (Ia 51 304 - pcn a.toNat) * (Ia 51 305 - 1) ^ (Ia 51 304 - pcn a.toNat).toNat)) (fun u hu => hTI i u (by omega) hu.1) (by omega)
                      refine ww_aload_n hX (pc := 102) dX11_meanOf_102 rfl ?_
                      refine ww_iload hX (pc := 103) dX11_meanOf_103 rfl ?_
                      refine ww_iload_n hX (pc := 105) dX11_meanOf_105 rfl ?_
                      refine vJ2 hX (pc := 106) sX11_281 (xs_49 hL) (c8_X11_meanIn l0 hL hQ (by omega) (by omega) (by omega) (by omega)) (by decide) (Nat.le_refl 0) (Nat.le_refl 0) (Nat.le_of_ble_eq_true rfl) dX11_meanOf_106 (fun x_106 I_106 J_106 h_106 => ?_)
                      obtain ⟨rfl, rfl, h_106⟩ := h_106
                      have hmi : x_106 = tI (Ja 62) (Ia 51 305) (Ia 51 304) a.toNat t.toNat := by
                        rw [h_106, hv2]
                        rfl
                      refine ww_lload hX (pc := 109) dX11_meanOf_109 rfl ?_
                      refine ww_lcmp hX (pc := 111) dX11_meanOf_111 ?_
                      refine ww_if_le hX (pc := 112) (tgt := 124) dX11_meanOf_112 (by decide) (fun h_112 => ?_) (fun h_112 => ?_)
                      · simp only [w32_mod] at h_112
                        have hlc := l_cmp_v x_106 bs
                        rw [w64_id (x := x_106) (by omega) (by omega), w64_id (x := bs) (by omega) (by omega)] at hlc
                        have hgt2 : GM (fun u => PB (Ia 51) (Ia 51 306) a (FU (Ia 51 304) + 1) i u ∧ (u : Int) < (t + 1)) (fun t => tI (Ja 62) (Ia 51 305) (Ia 51 304) a.toNat t) (bs) := GT_ad hgt (by omega) hpb (by show 0 ≤ tI (Ja 62) (Ia 51 305) (Ia 51 304) a.toNat t.toNat; omega) (by show bs = max bs (tI (Ja 62) (Ia 51 305) (Ia 51 304) a.toNat t.toNat); omega)
                        refine ww_iinc hX (pc := 124) (lv' := [some (kR (some 49)), some (kI a), some (kI x_2), some (kL sm), none, some (kI i), some (kL bs), none, some (kI (t + 1))]) dX11_meanOf_124 rfl (by decide) rfl rfl ?_
                        refine ww_goto hX (pc := 127) (tgt := 64) dX11_meanOf_127 (by decide) ?_
                        exact ih_64 _ (by have hm9 := Sh0_e hq_64; omega) bs (t + 1) rfl ⟨⟨by omega, by omega⟩, hgt2⟩
                      · simp only [w32_mod] at h_112
                        have hlc := l_cmp_v x_106 bs
                        rw [w64_id (x := x_106) (by omega) (by omega), w64_id (x := bs) (by omega) (by omega)] at hlc
                        have hgw : max bs (tI (Ja 62) (Ia 51 305) (Ia 51 304) a.toNat t.toNat) = tI (Ja 62) (Ia 51 305) (Ia 51 304) a.toNat t.toNat := by omega
                        have hgt2 : GM (fun u => PB (Ia 51) (Ia 51 306) a (FU (Ia 51 304) + 1) i u ∧ (u : Int) < (t + 1)) (fun t => tI (Ja 62) (Ia 51 305) (Ia 51 304) a.toNat t) (tI (Ja 62) (Ia 51 305) (Ia 51 304) a.toNat t.toNat) := GT_ad hgt (by omega) hpb (by show 0 ≤ tI (Ja 62) (Ia 51 305) (Ia 51 304) a.toNat t.toNat; omega) hgw.symm
                        refine ww_aload_n hX (pc := 115) dX11_meanOf_115 rfl ?_
                        refine ww_iload hX (pc := 116) dX11_meanOf_116 rfl ?_
                        refine ww_iload_n hX (pc := 118) dX11_meanOf_118 rfl ?_
                        refine vJ2 hX (pc := 119) sX11_281 (xs_49 hL) (c8_X11_meanIn l0 hL hQ (by omega) (by omega) (by omega) (by omega)) (by decide) (Nat.le_refl 0) (Nat.le_refl 0) (Nat.le_of_ble_eq_true rfl) dX11_meanOf_119 (fun x_119 I_119 J_119 h_119 => ?_)
                        obtain ⟨rfl, rfl, h_119⟩ := h_119
                        have hmi2 : x_119 = tI (Ja 62) (Ia 51 305) (Ia 51 304) a.toNat t.toNat := by
                          rw [h_119, hv2]
                          rfl
                        rw [← hmi2] at hgt2
                        refine ww_lstore hX (pc := 122) (lv' := [some (kR (some 49)), some (kI a), some (kI x_2), some (kL sm), none, some (kI i), some (kL x_119), none, some (kI t)]) dX11_meanOf_122 (by decide) rfl rfl ?_
                        refine ww_iinc hX (pc := 124) (lv' := [some (kR (some 49)), some (kI a), some (kI x_2), some (kL sm), none, some (kI i), some (kL x_119), none, some (kI (t + 1))]) dX11_meanOf_124 rfl (by decide) rfl rfl ?_
                        refine ww_goto hX (pc := 127) (tgt := 64) dX11_meanOf_127 (by decide) ?_
                        exact ih_64 _ (by have hm9 := Sh0_e hq_64; omega) x_119 (t + 1) rfl ⟨⟨by omega, by omega⟩, hgt2⟩
            exact hl_64 _ (-1) v_62 rfl ⟨⟨by omega, by omega⟩, GT_0 (by omega)⟩
          · simp only [w32_mod] at h_48
            have hsm2 : SMr Ia Ja a (i + 1) sm := SMr_o hsm (by omega) (by omega) (GM_ex (m := 256) (fun t ht => by have := ht.2.1; omega) (fun t ht => (hTI i t (by omega) ht).1))
            refine ww_goto hX (pc := 51) (tgt := 150) dX11_meanOf_51 (by decide) ?_
            refine ww_iinc hX (pc := 150) (lv' := [some (kR (some 49)), some (kI a), some (kI x_2), some (kL sm), none, some (kI (i + 1)), none, none, none]) dX11_meanOf_150 rfl (by decide) rfl rfl ?_
            refine ww_goto hX (pc := 153) (tgt := 28) dX11_meanOf_153 (by decide) ?_
            exact ih_28 _ (by have hm9 := Sh0_e hq_28; omega) sm (i + 1) rfl ⟨⟨by omega, by omega⟩, hsm2⟩
    exact hl_28 _ 0 0 rfl ⟨⟨by omega, by omega⟩, SMr_0 (by
      first
      | rw [if_pos (by omega)]
      | (rw [if_neg (by omega), h_21, hv2]))⟩
set_option maxHeartbeats 4000000 in
set_option maxRecDepth 20000 in
theorem c8_X11_looks (l0 : Launch) {Ia Ja : aI1} {Ra : aR1} {Sa : aS1} (hL : LY Ra Sa) (hQ : RX Ia) (hcr : ∀ t : Nat, (t : Int) ≤ FU (Ia 51 304) → -1 ≤ Ia 51 t ∧ Ia 51 t ≤ 7) (hK : ∀ s : Nat, (s : Int) ≤ FU (Ia 51 304) → Ia 51 s < Ia 51 305) {vv : Int} (hq : QF Ia Ja vv) (hv9 : vv ≤ 1000000)  : CT l0 4 0 0 mX11_looks [kR (some 49)] Ia Ja Ra Sa (cV (fun I' J' => Ch [61] [25] Ia I' ∧ Kp 49 73 Ja J' ∧ RX I' ∧ I' 51 = Ia 51 ∧ I' 49 25 = I' 49 1 ∧ RT I' J') Ra Sa) := by
  refine ct_in pn_X11 (Nat.le_of_ble_eq_true rfl) (fun X hX hT hIn => ?_)
  have hX : aK l0 X cX11_looks 2 RX11 none 4 0 0 := hX
  change WW X 0 [some (kR (some 49)), none] [] Ia Ja Ra Sa 0 0
  have qIa := RX_o hQ
  have hq1 := hq.1
  have hq2 := hq.2.1
  refine ww_aload_n hX (pc := 0) dX11_looks_0 rfl ?_
  refine ww_getI hX (pc := 1) fX11_62 (by decide) (xs_49 hL) dX11_looks_1 ?_
  refine ww_aload_n hX (pc := 4) dX11_looks_4 rfl ?_
  refine ww_getI hX (pc := 5) fX11_11 (by decide) (xs_49 hL) dX11_looks_5 ?_
  refine ww_icmp_ne hX (pc := 8) (tgt := 12) dX11_looks_8 (by decide) (fun h_8 => ?_) (fun h_8 => ?_)
  · simp only [w32_mod] at h_8
    refine ww_aload_n hX (pc := 12) dX11_looks_12 rfl ?_
    refine ww_aload_n hX (pc := 13) dX11_looks_13 rfl ?_
    refine ww_getI hX (pc := 14) fX11_11 (by decide) (xs_49 hL) dX11_looks_14 ?_
    refine ww_putI hX (pc := 17) (fun h9 => absurd h9 (by decide)) gX11_62 rfl (xs_49 hL) dX11_looks_17 ?_
    refine ww_nmH (fun I_17 eI_17 => ?_)
    have kI_17 : Ch [61] [25] Ia I_17 := by rw [eI_17]; exact Ch_f Ch_rf (by decide)
    have cI_17 : RX I_17 := by rw [eI_17]; exact RX_f hQ (by decide)
    have qI_17 := RX_o cI_17
    have r304_I_17 : I_17 51 304 = Ia 51 304 := by rw [eI_17, up2_off _ _ _ (by decide)]
    have r305_I_17 : I_17 51 305 = Ia 51 305 := by rw [eI_17, up2_off _ _ _ (by decide)]
    have f1_I_17 : I_17 49 1 = Ia 49 1 := by rw [eI_17, up2_n _ _ (Or.inr (by decide))]
    have rf_I_17 : FU (I_17 51 304) = FU (Ia 51 304) := by rw [r304_I_17]
    have e51_17 : I_17 51 = Ia 51 := by rw [eI_17, up2_off _ _ _ (by decide)]
    have z25 : I_17 49 25 = Ia 49 1 := by rw [eI_17, up2_s]
    refine ww_aload_n hX (pc := 20) dX11_looks_20 rfl ?_
    refine ww_aload_n hX (pc := 21) dX11_looks_21 rfl ?_
    refine ww_getR hX (pc := 22) fX11_20 (by decide) (xs_49 hL) (xr_49_3 hL) dX11_looks_22 ?_
    refine ww_sipush hX (pc := 25) (x := 306) dX11_looks_25 (by decide) ?_
    refine ww_iald hX (pc := 28) (xs_51 hL) (by decide) (by omega) (by omega) dX11_looks_28 ?_
    refine ww_toI (b := I_17 51 306) rfl ?_
    refine vV1 hX (pc := 29) sX11_285 (xs_49 hL) (c5_X11_lasts0 l0 hL cI_17 (by rw [e51_17]; exact hcr)) (by decide) (Nat.le_refl 0) (Nat.le_refl 0) (Nat.le_of_ble_eq_true rfl) dX11_looks_29 (fun I_29 J_29 h_29 => ?_)
    have kJ_29 : Kp 49 73 Ja J_29 := Kp_tr (Kp_rf (a := 49) (b := 73)) h_29.2.1
    have kI_29 : Ch [61] [25] Ia I_29 := Ch_tr kI_17 (Ch_wd h_29.1 (by decide) (by decide))
    have cI_29 : RX I_29 := h_29.2.2.1
    have qI_29 := RX_o cI_29
    have r304_I_29 : I_29 51 304 = I_17 51 304 := by rw [h_29.1.1 51 (by decide) (by decide)]
    have r305_I_29 : I_29 51 305 = I_17 51 305 := by rw [h_29.1.1 51 (by decide) (by decide)]
    have f1_I_29 : I_29 49 1 = I_17 49 1 := h_29.1.2 1 (by decide)
    have f25_I_29 : I_29 49 25 = I_17 49 25 := h_29.1.2 25 (by decide)
    have rf_I_29 : FU (I_29 51 304) = FU (I_17 51 304) := by rw [r304_I_29]
    have e51_29 : I_29 51 = Ia 51 := h_29.2.2.2.1.trans e51_17
    have e304 : FU (I_29 51 304) = FU (Ia 51 304) := by rw [e51_29]
    have hz := h_29.2.2.2.2
    rw [e51_17] at hz
    refine ww_aload_n hX (pc := 32) dX11_looks_32 rfl ?_
    refine vI0 hX (pc := 33) sX11_112 (xs_49 hL) (c_X11_states l0 hL cI_29 ) (by decide) (Nat.le_refl 0) (Nat.le_refl 0) (Nat.le_of_ble_eq_true rfl) dX11_looks_33 (fun x_33 I_33 J_33 h_33 => ?_)
    obtain ⟨rfl, rfl, h_33⟩ := h_33
    refine ww_iconst hX (pc := 36) (x := 1) dX11_looks_36 rfl ?_
    refine ww_isub hX (pc := 37) dX11_looks_37 ?_
    refine ww_nmI (fun v_38 hv_38 => ?_)
    refine ww_istore_n hX (pc := 38) (lv' := [some (kR (some 49)), some (kI v_38)]) dX11_looks_38 (by decide) rfl rfl ?_
    have hl_39 : ∀ (n_39 : Nat) (i : Int) (J39 : aI1), (i + 1).toNat = n_39 → (Kp 49 73 Ja J39 ∧ (-1 ≤ i ∧ i ≤ FU (Ia 51 304)) ∧ (∀ s : Nat, i < s → (s : Int) ≤ FU (Ia 51 304) → MRs (Ia 51) (Ia 51 306) (FU (Ia 51 304) + 1) (Ia 51 305) (Ia 51 304) (J39 62) s (J39 62 s) ∧ MR8 (Ia 51 304) (Ia 51 305 - 1) (Ia 51 s) (pcn s) (J39 62 s))) → WW X 39 [some (kR (some 49)), some (kI i)] [] I_29 J39 Ra Sa 0 0 := by
      intro n_39
      induction n_39 using Nat.strongRecOn with
      | ind n_39 ih_39 =>
        intro i J39 hm_39 hv_39
        have hq_39 := Sh0_i hm_39
        clear hm_39
        obtain ⟨kJ39, hv, hms⟩ := hv_39
        refine ww_iload_n hX (pc := 39) dX11_looks_39 rfl ?_
        refine ww_if_lt hX (pc := 40) (tgt := 60) dX11_looks_40 (by decide) (fun h_40 => ?_) (fun h_40 => ?_)
        · simp only [w32_mod] at h_40
          refine rV hX (pc := 60) hT (Nat.le_refl 0) (Nat.le_refl 0) dX11_looks_60 ?_
          exact ⟨kI_29, kJ39, cI_29, e51_29, (by omega), ⟨by rw [e51_29]; exact hz, by rw [e51_29]; exact fun s hs => hms s (by omega) hs⟩⟩
        · simp only [w32_mod] at h_40
          refine ww_aload_n hX (pc := 43) dX11_looks_43 rfl ?_
          refine ww_getR hX (pc := 44) fX11_58 (by decide) (xs_49 hL) (xr_49_24 hL) dX11_looks_44 ?_
          refine ww_iload_n hX (pc := 47) dX11_looks_47 rfl ?_
          refine ww_aload_n hX (pc := 48) dX11_looks_48 rfl ?_
          refine ww_iload_n hX (pc := 49) dX11_looks_49 rfl ?_
          refine vJ1 hX (pc := 50) sX11_288 (xs_49 hL) (c8_X11_meanOf l0 hL cI_29 (by omega) (by omega) (by rw [e51_29]; exact hcr) (fun t h1 h2 => by rw [e51_29] at h2 ⊢; exact (hms t h1 h2).2) (by rw [e51_29]; exact hK i.toNat (by omega))) (by decide) (Nat.le_refl 0) (Nat.le_refl 0) (Nat.le_of_ble_eq_true rfl) dX11_looks_50 (fun x_50 I_50 J_50 h_50 => ?_)
          obtain ⟨rfl, rfl, h_50⟩ := h_50
          rw [e51_29] at h_50
          refine ww_last hX (pc := 53) (xs_62 hL) (by decide) (by omega) (by omega) dX11_looks_53 ?_
          refine ww_nmK (fun J_53 eJ_53 => ?_)
          have kJ_53 : Kp 49 73 Ja J_53 := by rw [eJ_53]; exact Kp_up kJ39 _ _ (by decide)
          refine ww_iinc hX (pc := 54) (lv' := [some (kR (some 49)), some (kI (i + (-1)))]) dX11_looks_54 rfl (by decide) rfl rfl ?_
          refine ww_goto hX (pc := 57) (tgt := 39) dX11_looks_57 (by decide) ?_
          exact ih_39 _ (by have hm9 := Sh0_e hq_39; omega) (i + (-1)) J_53 rfl ⟨kJ_53, ⟨by omega, by omega⟩, (fun s h1 h2 => by
      rw [eJ_53, up2_row]
      by_cases e9 : s = i.toNat
      · rw [e9, up1_s]
        exact ⟨MRs_cg h_50.1 (fun t g1 g2 => (up1_n _ _ (by omega)).symm), h_50.2⟩
      · rw [up1_n _ _ e9]
        have hs := hms s (by omega) h2
        exact ⟨MRs_cg hs.1 (fun t g1 g2 => (up1_n _ _ (by omega)).symm), hs.2⟩)⟩
    exact hl_39 _ v_38 J_29 rfl ⟨kJ_29, (by omega), fun s h1 h2 => absurd h2 (by omega)⟩
  · simp only [w32_mod] at h_8
    refine rV hX (pc := 11) hT (Nat.le_refl 0) (Nat.le_refl 0) dX11_looks_11 ?_
    exact ⟨Ch_rf, (Kp_rf (a := 49) (b := 73)), hQ, rfl, (by omega), hq.2.2 (by omega)⟩
set_option maxHeartbeats 4000000 in
set_option maxRecDepth 20000 in
theorem c8_X11_isBetter (l0 : Launch) {Ia Ja : aI1} {Ra : aR1} {Sa : aS1} (hL : LY Ra Sa) (hQ : RX Ia) {s t u m : Int} (hs0 : 0 ≤ s) (hs1 : s ≤ FU (Ia 51 304)) (ht0 : 0 ≤ t) (ht1 : t ≤ FU (Ia 51 304)) (hu0 : 0 ≤ u) (hu1 : u ≤ FU (Ia 51 304)) (hm0 : 0 ≤ m) (hm1 : m ≤ 3) (hO : ∀ l, l < 8 → 0 ≤ Ia 51 (256 + l) ∧ Ia 51 (256 + l) ≤ 99) (hst : s.toNat &&& t.toNat = s.toNat) (hsu : s.toNat &&& u.toNat = s.toNat) (hM : ∀ t : Nat, (t : Int) ≤ FU (Ia 51 304) → MR8 (Ia 51 304) (Ia 51 305 - 1) (Ia 51 t) (pcn t) (Ja 62 t))  : CT l0 2 0 0 mX11_isBetter [kR (some 49), kI s, kI t, kI u, kI m] Ia Ja Ra Sa (cI (fun x I' J' => Ia = I' ∧ Ja = J' ∧ (x = 0 ∨ x = 1) ∧ (x = 1 ↔ bR m s (Ia 51 304) (Ia 51 305) (Ia 51) (Ia 61) (Ja 62) t.toNat u.toNat = true)) Ra Sa) := by
  refine ct_in pn_X11 (Nat.le_of_ble_eq_true rfl) (fun X hX hT hIn => ?_)
  have hX : aK l0 X cX11_isBetter 7 RX11 (some .boolean) 2 0 0 := hX
  change WW X 0 [some (kR (some 49)), some (kI s), some (kI t), some (kI u), some (kI m), none, none] [] Ia Ja Ra Sa 0 0
  have qIa := RX_o hQ
  have hdt := anx_N (s := t) (t := s) (by omega) (by omega) (by omega) (by omega)
  have hdu := anx_N (s := u) (t := s) (by omega) (by omega) (by omega) (by omega)
  have hlt9 := df_lt (s := t.toNat) (t := s.toNat) (by omega)
  have hlu9 := df_lt (s := u.toNat) (t := s.toNat) (by omega)
  have hpt9 := pcn_r (df t.toNat s.toNat)
  have hpu9 := pcn_r (df u.toNat s.toNat)
  have hot := oilF_r (k := Ia 51) (a := ((df t.toNat s.toNat : Nat) : Int)) hO (Ia 51 304).toNat (by omega)
  have hou := oilF_r (k := Ia 51) (a := ((df u.toNat s.toNat : Nat) : Int)) hO (Ia 51 304).toNat (by omega)
  have hbt9 := hQ.2.2.1 t.toNat (by omega)
  have hbu9 := hQ.2.2.1 u.toNat (by omega)
  have hns := pcn_n (n := Ia 51 304) (t := s.toNat) (by omega) (by omega) (by omega)
  have hnt := pcn_n (n := Ia 51 304) (t := t.toNat) (by omega) (by omega) (by omega)
  have hnu := pcn_n (n := Ia 51 304) (t := u.toNat) (by omega) (by omega) (by omega)
  have hrs := pcn_r s.toNat
  have hrt := pcn_r t.toNat
  have hru := pcn_r u.toNat
  have hjt := tJ_r (s := s.toNat) (t := t.toNat) (K := Ia 51 305) (n := Ia 51 304) (by omega) (by omega) (by omega) (by omega) (hM t.toNat (by omega)) (pcn_le hst)
  have hju := tJ_r (s := s.toNat) (t := u.toNat) (K := Ia 51 305) (n := Ia 51 304) (by omega) (by omega) (by omega) (by omega) (hM u.toNat (by omega)) (pcn_le hsu)
  refine ww_iload_n hX (pc := 0) dX11_isBetter_0 rfl ?_
  refine ww_iload_n hX (pc := 1) dX11_isBetter_1 rfl ?_
  refine ww_iconst hX (pc := 2) (x := (-1)) dX11_isBetter_2 rfl ?_
  refine ww_ixor hX (pc := 3) dX11_isBetter_3 ?_
  refine ww_iand hX (pc := 4) dX11_isBetter_4 ?_
  refine sI1 hX (pc := 5) sX11_259 (c7_X11_ones l0 (by omega) (by omega)) (by decide) (Nat.le_refl 0) (Nat.le_refl 0) (Nat.le_of_ble_eq_true rfl) dX11_isBetter_5 (fun x_5 I_5 J_5 h_5 => ?_)
  obtain ⟨rfl, rfl, h_5⟩ := h_5
  rw [hdt, Int.toNat_natCast] at h_5
  refine ww_iload_n hX (pc := 8) dX11_isBetter_8 rfl ?_
  refine ww_iload_n hX (pc := 9) dX11_isBetter_9 rfl ?_
  refine ww_iconst hX (pc := 10) (x := (-1)) dX11_isBetter_10 rfl ?_
  refine ww_ixor hX (pc := 11) dX11_isBetter_11 ?_
  refine ww_iand hX (pc := 12) dX11_isBetter_12 ?_
  refine sI1 hX (pc := 13) sX11_259 (c7_X11_ones l0 (by omega) (by omega)) (by decide) (Nat.le_refl 0) (Nat.le_refl 0) (Nat.le_of_ble_eq_true rfl) dX11_isBetter_13 (fun x_13 I_13 J_13 h_13 => ?_)
  obtain ⟨rfl, rfl, h_13⟩ := h_13
  rw [hdu, Int.toNat_natCast] at h_13
  refine ww_isub hX (pc := 16) dX11_isBetter_16 ?_
  refine ww_nmI (fun v_17 hv_17 => ?_)
  refine ww_istore hX (pc := 17) (lv' := [some (kR (some 49)), some (kI s), some (kI t), some (kI u), some (kI m), some (kI v_17), none]) dX11_isBetter_17 (by decide) rfl rfl ?_
  refine ww_iload hX (pc := 19) dX11_isBetter_19 rfl ?_
  refine ww_if_ne hX (pc := 21) (tgt := 35) dX11_isBetter_21 (by decide) (fun h_21 => ?_) (fun h_21 => ?_)
  · simp only [w32_mod] at h_21
    refine ww_iload hX (pc := 35) dX11_isBetter_35 rfl ?_
    refine ww_iconst hX (pc := 37) (x := 1) dX11_isBetter_37 rfl ?_
    refine ww_icmp_ne hX (pc := 38) (tgt := 68) dX11_isBetter_38 (by decide) (fun h_38 => ?_) (fun h_38 => ?_)
    · simp only [w32_mod] at h_38
      refine ww_iload hX (pc := 68) dX11_isBetter_68 rfl ?_
      refine ww_iconst hX (pc := 70) (x := 2) dX11_isBetter_70 rfl ?_
      refine ww_icmp_ne hX (pc := 71) (tgt := 115) dX11_isBetter_71 (by decide) (fun h_71 => ?_) (fun h_71 => ?_)
      · simp only [w32_mod] at h_71
        refine ww_aload_n hX (pc := 115) dX11_isBetter_115 rfl ?_
        refine ww_iload_n hX (pc := 116) dX11_isBetter_116 rfl ?_
        refine vI1 hX (pc := 117) sX11_274 (xs_49 hL) (c8_X11_dark l0 hL hQ (by omega) (by omega)) (by decide) (Nat.le_refl 0) (Nat.le_refl 0) (Nat.le_of_ble_eq_true rfl) dX11_isBetter_117 (fun x_117 I_117 J_117 h_117 => ?_)
        obtain ⟨rfl, rfl, h_117⟩ := h_117
        refine ww_iconst hX (pc := 120) (x := 1) dX11_isBetter_120 rfl ?_
        refine ww_iadd hX (pc := 121) dX11_isBetter_121 ?_
        refine ww_nmI (fun v_122 hv_122 => ?_)
        refine ww_istore hX (pc := 122) (lv' := [some (kR (some 49)), some (kI s), some (kI t), some (kI u), some (kI m), some (kI v_17), some (kI v_122)]) dX11_isBetter_122 (by decide) rfl rfl ?_
        refine ww_aload_n hX (pc := 124) dX11_isBetter_124 rfl ?_
        refine ww_getR hX (pc := 125) fX11_58 (by decide) (xs_49 hL) (xr_49_24 hL) dX11_isBetter_125 ?_
        refine ww_iload_n hX (pc := 128) dX11_isBetter_128 rfl ?_
        refine ww_lald hX (pc := 129) (xs_62 hL) (by decide) (by omega) (by omega) dX11_isBetter_129 ?_
        refine ww_aload_n hX (pc := 130) dX11_isBetter_130 rfl ?_
        refine ww_iload hX (pc := 131) dX11_isBetter_131 rfl ?_
        refine ww_aload_n hX (pc := 133) dX11_isBetter_133 rfl ?_
        refine ww_iload_n hX (pc := 134) dX11_isBetter_134 rfl ?_
        refine vI1 hX (pc := 135) sX11_274 (xs_49 hL) (c8_X11_dark l0 hL hQ (by omega) (by omega)) (by decide) (Nat.le_refl 0) (Nat.le_refl 0) (Nat.le_of_ble_eq_true rfl) dX11_isBetter_135 (fun x_135 I_135 J_135 h_135 => ?_)
        obtain ⟨rfl, rfl, h_135⟩ := h_135
        refine ww_isub hX (pc := 138) dX11_isBetter_138 ?_
        refine vJ1 hX (pc := 139) sX11_277 (xs_49 hL) (c_X11_power l0 hL hQ (by omega) (by omega)) (by decide) (Nat.le_refl 0) (Nat.le_refl 0) (Nat.le_of_ble_eq_true rfl) dX11_isBetter_139 (fun x_139 I_139 J_139 h_139 => ?_)
        obtain ⟨rfl, rfl, h_139⟩ := h_139
        refine ww_lmul hX (pc := 142) dX11_isBetter_142 ?_
        refine ww_toL (b := tJ (Ja 62) (Ia 51 305) (Ia 51 304) s.toNat t.toNat) (by rw [h_139, hv_122, h_117, h_135]; rfl) ?_
        refine ww_aload_n hX (pc := 143) dX11_isBetter_143 rfl ?_
        refine ww_getR hX (pc := 144) fX11_58 (by decide) (xs_49 hL) (xr_49_24 hL) dX11_isBetter_144 ?_
        refine ww_iload_n hX (pc := 147) dX11_isBetter_147 rfl ?_
        refine ww_lald hX (pc := 148) (xs_62 hL) (by decide) (by omega) (by omega) dX11_isBetter_148 ?_
        refine ww_aload_n hX (pc := 149) dX11_isBetter_149 rfl ?_
        refine ww_iload hX (pc := 150) dX11_isBetter_150 rfl ?_
        refine ww_aload_n hX (pc := 152) dX11_isBetter_152 rfl ?_
        refine ww_iload_n hX (pc := 153) dX11_isBetter_153 rfl ?_
        refine vI1 hX (pc := 154) sX11_274 (xs_49 hL) (c8_X11_dark l0 hL hQ (by omega) (by omega)) (by decide) (Nat.le_refl 0) (Nat.le_refl 0) (Nat.le_of_ble_eq_true rfl) dX11_isBetter_154 (fun x_154 I_154 J_154 h_154 => ?_)
        obtain ⟨rfl, rfl, h_154⟩ := h_154
        refine ww_isub hX (pc := 157) dX11_isBetter_157 ?_
        refine vJ1 hX (pc := 158) sX11_277 (xs_49 hL) (c_X11_power l0 hL hQ (by omega) (by omega)) (by decide) (Nat.le_refl 0) (Nat.le_refl 0) (Nat.le_of_ble_eq_true rfl) dX11_isBetter_158 (fun x_158 I_158 J_158 h_158 => ?_)
        obtain ⟨rfl, rfl, h_158⟩ := h_158
        refine ww_lmul hX (pc := 161) dX11_isBetter_161 ?_
        refine ww_toL (b := tJ (Ja 62) (Ia 51 305) (Ia 51 304) s.toNat u.toNat) (by rw [h_158, hv_122, h_117, h_154]; rfl) ?_
        have hlc := l_cmp_v (tJ (Ja 62) (Ia 51 305) (Ia 51 304) s.toNat t.toNat) (tJ (Ja 62) (Ia 51 305) (Ia 51 304) s.toNat u.toNat)
        rw [w64_id (x := tJ (Ja 62) (Ia 51 305) (Ia 51 304) s.toNat t.toNat) (by omega) (by omega), w64_id (x := tJ (Ja 62) (Ia 51 305) (Ia 51 304) s.toNat u.toNat) (by omega) (by omega)] at hlc
        refine ww_lcmp hX (pc := 162) dX11_isBetter_162 ?_
        refine ww_if_le hX (pc := 163) (tgt := 170) dX11_isBetter_163 (by decide) (fun h_163 => ?_) (fun h_163 => ?_)
        · simp only [w32_mod] at h_163
          refine ww_iconst hX (pc := 170) (x := 0) dX11_isBetter_170 rfl ?_
          refine rZ hX (pc := 171) hT (Nat.le_refl 0) (Nat.le_refl 0) dX11_isBetter_171 (by decide) ?_
          exact ⟨rfl, rfl, by omega, (by
                unfold bR
                rw [if_neg (show ¬ m = 0 by omega), if_neg (show ¬ m = 1 by omega), if_neg (show ¬ m = 2 by omega), decide_eq_true_iff]
                omega)⟩
        · simp only [w32_mod] at h_163
          refine ww_iconst hX (pc := 166) (x := 1) dX11_isBetter_166 rfl ?_
          refine ww_goto hX (pc := 167) (tgt := 171) dX11_isBetter_167 (by decide) ?_
          refine rZ hX (pc := 171) hT (Nat.le_refl 0) (Nat.le_refl 0) dX11_isBetter_171 (by decide) ?_
          exact ⟨rfl, rfl, by omega, (by
                unfold bR
                rw [if_neg (show ¬ m = 0 by omega), if_neg (show ¬ m = 1 by omega), if_neg (show ¬ m = 2 by omega), decide_eq_true_iff]
                omega)⟩
      · simp only [w32_mod] at h_71
        refine ww_aload_n hX (pc := 74) dX11_isBetter_74 rfl ?_
        refine ww_getR hX (pc := 75) fX11_55 (by decide) (xs_49 hL) (xr_49_23 hL) dX11_isBetter_75 ?_
        refine ww_iload_n hX (pc := 78) dX11_isBetter_78 rfl ?_
        refine ww_iald hX (pc := 79) (xs_61 hL) (by decide) (by omega) (by omega) dX11_isBetter_79 ?_
        refine ww_aload_n hX (pc := 80) dX11_isBetter_80 rfl ?_
        refine ww_getR hX (pc := 81) fX11_55 (by decide) (xs_49 hL) (xr_49_23 hL) dX11_isBetter_81 ?_
        refine ww_iload_n hX (pc := 84) dX11_isBetter_84 rfl ?_
        refine ww_iald hX (pc := 85) (xs_61 hL) (by decide) (by omega) (by omega) dX11_isBetter_85 ?_
        refine ww_icmp_gt hX (pc := 86) (tgt := 109) dX11_isBetter_86 (by decide) (fun h_86 => ?_) (fun h_86 => ?_)
        · simp only [w32_mod] at h_86
          refine ww_iconst hX (pc := 109) (x := 1) dX11_isBetter_109 rfl ?_
          refine ww_goto hX (pc := 110) (tgt := 114) dX11_isBetter_110 (by decide) ?_
          refine rZ hX (pc := 114) hT (Nat.le_refl 0) (Nat.le_refl 0) dX11_isBetter_114 (by decide) ?_
          exact ⟨rfl, rfl, by omega, (by
                unfold bR
                rw [if_neg (show ¬ m = 0 by omega), if_neg (show ¬ m = 1 by omega), if_pos (show m = 2 by omega), decide_eq_true_iff]
                omega)⟩
        · simp only [w32_mod] at h_86
          refine ww_aload_n hX (pc := 89) dX11_isBetter_89 rfl ?_
          refine ww_getR hX (pc := 90) fX11_55 (by decide) (xs_49 hL) (xr_49_23 hL) dX11_isBetter_90 ?_
          refine ww_iload_n hX (pc := 93) dX11_isBetter_93 rfl ?_
          refine ww_iald hX (pc := 94) (xs_61 hL) (by decide) (by omega) (by omega) dX11_isBetter_94 ?_
          refine ww_aload_n hX (pc := 95) dX11_isBetter_95 rfl ?_
          refine ww_getR hX (pc := 96) fX11_55 (by decide) (xs_49 hL) (xr_49_23 hL) dX11_isBetter_96 ?_
          refine ww_iload_n hX (pc := 99) dX11_isBetter_99 rfl ?_
          refine ww_iald hX (pc := 100) (xs_61 hL) (by decide) (by omega) (by omega) dX11_isBetter_100 ?_
          refine ww_icmp_ne hX (pc := 101) (tgt := 113) dX11_isBetter_101 (by decide) (fun h_101 => ?_) (fun h_101 => ?_)
          · simp only [w32_mod] at h_101
            refine ww_iconst hX (pc := 113) (x := 0) dX11_isBetter_113 rfl ?_
            refine rZ hX (pc := 114) hT (Nat.le_refl 0) (Nat.le_refl 0) dX11_isBetter_114 (by decide) ?_
            exact ⟨rfl, rfl, by omega, (by
                  unfold bR
                  rw [if_neg (show ¬ m = 0 by omega), if_neg (show ¬ m = 1 by omega), if_pos (show m = 2 by omega), decide_eq_true_iff]
                  omega)⟩
          · simp only [w32_mod] at h_101
            refine ww_iload hX (pc := 104) dX11_isBetter_104 rfl ?_
            refine ww_if_ge hX (pc := 106) (tgt := 113) dX11_isBetter_106 (by decide) (fun h_106 => ?_) (fun h_106 => ?_)
            · simp only [w32_mod] at h_106
              refine ww_iconst hX (pc := 113) (x := 0) dX11_isBetter_113 rfl ?_
              refine rZ hX (pc := 114) hT (Nat.le_refl 0) (Nat.le_refl 0) dX11_isBetter_114 (by decide) ?_
              exact ⟨rfl, rfl, by omega, (by
                    unfold bR
                    rw [if_neg (show ¬ m = 0 by omega), if_neg (show ¬ m = 1 by omega), if_pos (show m = 2 by omega), decide_eq_true_iff]
                    omega)⟩
            · simp only [w32_mod] at h_106
              refine ww_iconst hX (pc := 109) (x := 1) dX11_isBetter_109 rfl ?_
              refine ww_goto hX (pc := 110) (tgt := 114) dX11_isBetter_110 (by decide) ?_
              refine rZ hX (pc := 114) hT (Nat.le_refl 0) (Nat.le_refl 0) dX11_isBetter_114 (by decide) ?_
              exact ⟨rfl, rfl, by omega, (by
                    unfold bR
                    rw [if_neg (show ¬ m = 0 by omega), if_neg (show ¬ m = 1 by omega), if_pos (show m = 2 by omega), decide_eq_true_iff]
                    omega)⟩
    · simp only [w32_mod] at h_38
      refine ww_aload_n hX (pc := 41) dX11_isBetter_41 rfl ?_
      refine ww_iload_n hX (pc := 42) dX11_isBetter_42 rfl ?_
      refine ww_iload_n hX (pc := 43) dX11_isBetter_43 rfl ?_
      refine ww_iconst hX (pc := 44) (x := (-1)) dX11_isBetter_44 rfl ?_
      refine ww_ixor hX (pc := 45) dX11_isBetter_45 ?_
      refine ww_iand hX (pc := 46) dX11_isBetter_46 ?_
      refine vI1 hX (pc := 47) sX11_301 (xs_49 hL) (c_X11_oilOf l0 hL hQ ) (by decide) (Nat.le_refl 0) (Nat.le_refl 0) (Nat.le_of_ble_eq_true rfl) dX11_isBetter_47 (fun x_47 I_47 J_47 h_47 => ?_)
      obtain ⟨rfl, rfl, h_47⟩ := h_47
      rw [hdt] at h_47
      refine ww_aload_n hX (pc := 50) dX11_isBetter_50 rfl ?_
      refine ww_iload_n hX (pc := 51) dX11_isBetter_51 rfl ?_
      refine ww_iload_n hX (pc := 52) dX11_isBetter_52 rfl ?_
      refine ww_iconst hX (pc := 53) (x := (-1)) dX11_isBetter_53 rfl ?_
      refine ww_ixor hX (pc := 54) dX11_isBetter_54 ?_
      refine ww_iand hX (pc := 55) dX11_isBetter_55 ?_
      refine vI1 hX (pc := 56) sX11_301 (xs_49 hL) (c_X11_oilOf l0 hL hQ ) (by decide) (Nat.le_refl 0) (Nat.le_refl 0) (Nat.le_of_ble_eq_true rfl) dX11_isBetter_56 (fun x_56 I_56 J_56 h_56 => ?_)
      obtain ⟨rfl, rfl, h_56⟩ := h_56
      rw [hdu] at h_56
      refine ww_icmp_ge hX (pc := 59) (tgt := 66) dX11_isBetter_59 (by decide) (fun h_59 => ?_) (fun h_59 => ?_)
      · simp only [w32_mod] at h_59
        refine ww_iconst hX (pc := 66) (x := 0) dX11_isBetter_66 rfl ?_
        refine rZ hX (pc := 67) hT (Nat.le_refl 0) (Nat.le_refl 0) dX11_isBetter_67 (by decide) ?_
        exact ⟨rfl, rfl, by omega, (by
              unfold bR
              rw [if_neg (show ¬ m = 0 by omega), if_pos (show m = 1 by omega), decide_eq_true_iff]
              omega)⟩
      · simp only [w32_mod] at h_59
        refine ww_iconst hX (pc := 62) (x := 1) dX11_isBetter_62 rfl ?_
        refine ww_goto hX (pc := 63) (tgt := 67) dX11_isBetter_63 (by decide) ?_
        refine rZ hX (pc := 67) hT (Nat.le_refl 0) (Nat.le_refl 0) dX11_isBetter_67 (by decide) ?_
        exact ⟨rfl, rfl, by omega, (by
              unfold bR
              rw [if_neg (show ¬ m = 0 by omega), if_pos (show m = 1 by omega), decide_eq_true_iff]
              omega)⟩
  · simp only [w32_mod] at h_21
    refine ww_iload hX (pc := 24) dX11_isBetter_24 rfl ?_
    refine ww_if_ge hX (pc := 26) (tgt := 33) dX11_isBetter_26 (by decide) (fun h_26 => ?_) (fun h_26 => ?_)
    · simp only [w32_mod] at h_26
      refine ww_iconst hX (pc := 33) (x := 0) dX11_isBetter_33 rfl ?_
      refine rZ hX (pc := 34) hT (Nat.le_refl 0) (Nat.le_refl 0) dX11_isBetter_34 (by decide) ?_
      exact ⟨rfl, rfl, by omega, (by
            unfold bR
            rw [if_pos (show m = 0 by omega), decide_eq_true_iff]
            omega)⟩
    · simp only [w32_mod] at h_26
      refine ww_iconst hX (pc := 29) (x := 1) dX11_isBetter_29 rfl ?_
      refine ww_goto hX (pc := 30) (tgt := 34) dX11_isBetter_30 (by decide) ?_
      refine rZ hX (pc := 34) hT (Nat.le_refl 0) (Nat.le_refl 0) dX11_isBetter_34 (by decide) ?_
      exact ⟨rfl, rfl, by omega, (by
            unfold bR
            rw [if_pos (show m = 0 by omega), decide_eq_true_iff]
            omega)⟩
def Sb7 (a b : Int) : Prop := ¬ b = -1 → a.toNat &&& b.toNat = a.toNat
theorem nx_cr {bt : Nat → Nat → Bool} {code : Nat → Int} {g s N x v : Int} {n : Nat} (h : v = fW (nxF bt code g s N x) (-1) n) (hN : 0 < N) : (-1 ≤ v ∧ v < N) ∧ Sb7 s v := by
  rcases nx_cd (bt := bt) (code := code) (g := g) (s := s) (N := N) (x := x) n with h1 | ⟨t, h1, h2, h3, h4⟩
  · rw [← h] at h1
    exact ⟨by omega, fun h9 => absurd h1 h9⟩
  · rw [← h] at h1
    refine ⟨by omega, fun _ => ?_⟩
    rw [h1, Int.toNat_natCast]
    exact h3

set_option maxHeartbeats 4000000 in
set_option maxRecDepth 20000 in
theorem c8_X11_nextOf (l0 : Launch) {Ia Ja : aI1} {Ra : aR1} {Sa : aS1} (hL : LY Ra Sa) (hQ : RX Ia) {a b m : Int} (ha0 : 0 ≤ a) (ha1 : a ≤ FU (Ia 51 304)) (hb0 : -2147483648 ≤ b) (hb1 : b < 2147483648) (hm0 : 0 ≤ m) (hm1 : m ≤ 3) (hO : ∀ l, l < 8 → 0 ≤ Ia 51 (256 + l) ∧ Ia 51 (256 + l) ≤ 99) (hcr : ∀ t : Nat, (t : Int) ≤ FU (Ia 51 304) → -1 ≤ Ia 51 t ∧ Ia 51 t ≤ 7) (hM : ∀ t : Nat, (t : Int) ≤ FU (Ia 51 304) → MR8 (Ia 51 304) (Ia 51 305 - 1) (Ia 51 t) (pcn t) (Ja 62 t))  : CT l0 3 0 0 mX11_nextOf [kR (some 49), kI a, kI b, kI m] Ia Ja Ra Sa (cI (fun x I' J' => Ia = I' ∧ Ja = J' ∧ x = NX (bR m a (Ia 51 304) (Ia 51 305) (Ia 51) (Ia 61) (Ja 62)) (Ia 51) (Ia 51 306) a (FU (Ia 51 304) + 1) b) Ra Sa) := by
  refine ct_in pn_X11 (Nat.le_of_ble_eq_true rfl) (fun X hX hT hIn => ?_)
  have hX : aK l0 X cX11_nextOf 6 RX11 (some .int) 3 0 0 := hX
  change WW X 0 [some (kR (some 49)), some (kI a), some (kI b), some (kI m), none, none] [] Ia Ja Ra Sa 0 0
  have qIa := RX_o hQ
  refine ww_iconst hX (pc := 0) (x := (-1)) dX11_nextOf_0 rfl ?_
  refine ww_istore hX (pc := 1) (lv' := [some (kR (some 49)), some (kI a), some (kI b), some (kI m), some (kI (-1)), none]) dX11_nextOf_1 (by decide) rfl rfl ?_
  refine ww_iload_n hX (pc := 3) dX11_nextOf_3 rfl ?_
  refine ww_istore hX (pc := 4) (lv' := [some (kR (some 49)), some (kI a), some (kI b), some (kI m), some (kI (-1)), some (kI a)]) dX11_nextOf_4 (by decide) rfl rfl ?_
  have hl_6 : ∀ (n_6 : Nat) (bs : Int) (t : Int), (256 - t).toNat = n_6 → (((a ≤ t ∧ t ≤ (FU (Ia 51 304) + 1)) ∧ (-1 ≤ bs ∧ bs ≤ FU (Ia 51 304))) ∧ bs = fW (nxF (bR m a (Ia 51 304) (Ia 51 305) (Ia 51) (Ia 61) (Ja 62)) (Ia 51) (Ia 51 306) a (FU (Ia 51 304) + 1) b) (-1) t.toNat) → WW X 6 [some (kR (some 49)), some (kI a), some (kI b), some (kI m), some (kI bs), some (kI t)] [] Ia Ja Ra Sa 0 0 := by
    intro n_6
    induction n_6 using Nat.strongRecOn with
    | ind n_6 ih_6 =>
      intro bs t hm_6 hv_6
      have hq_6 := Sh0_i hm_6
      clear hm_6
      obtain ⟨hv, hbs⟩ := hv_6
      have hcx := nx_cr hbs (by omega)
      refine ww_iload hX (pc := 6) dX11_nextOf_6 rfl ?_
      refine ww_aload_n hX (pc := 8) dX11_nextOf_8 rfl ?_
      refine vI0 hX (pc := 9) sX11_112 (xs_49 hL) (c_X11_states l0 hL hQ ) (by decide) (Nat.le_refl 0) (Nat.le_refl 0) (Nat.le_of_ble_eq_true rfl) dX11_nextOf_9 (fun x_9 I_9 J_9 h_9 => ?_)
      obtain ⟨rfl, rfl, h_9⟩ := h_9
      refine ww_icmp_ge hX (pc := 12) (tgt := 72) dX11_nextOf_12 (by decide) (fun h_12 => ?_) (fun h_12 => ?_)
      · simp only [w32_mod] at h_12
        refine ww_iload hX (pc := 72) dX11_nextOf_72 rfl ?_
        refine rI hX (pc := 74) hT (Nat.le_refl 0) (Nat.le_refl 0) dX11_nextOf_74 ?_
        exact ⟨rfl, rfl, (by rw [hbs, show t = FU (Ia 51 304) + 1 by omega]; rfl)⟩
      · simp only [w32_mod] at h_12
        have hct := hcr t.toNat (by omega)
        refine ww_aload_n hX (pc := 15) dX11_nextOf_15 rfl ?_
        refine ww_iload hX (pc := 16) dX11_nextOf_16 rfl ?_
        refine vI1 hX (pc := 18) sX11_126 (xs_49 hL) (c_X11_readOf l0 hL hQ (by omega) (by omega)) (by decide) (Nat.le_refl 0) (Nat.le_refl 0) (Nat.le_of_ble_eq_true rfl) dX11_nextOf_18 (fun x_18 I_18 J_18 h_18 => ?_)
        obtain ⟨rfl, rfl, h_18⟩ := h_18
        refine ww_iload_n hX (pc := 21) dX11_nextOf_21 rfl ?_
        refine ww_icmp_ne hX (pc := 22) (tgt := 66) dX11_nextOf_22 (by decide) (fun h_22 => ?_) (fun h_22 => ?_)
        · simp only [w32_mod] at h_22
          have hst : nxF (bR m a (Ia 51 304) (Ia 51 305) (Ia 51) (Ia 61) (Ja 62)) (Ia 51) (Ia 51 306) a (FU (Ia 51 304) + 1) b bs t.toNat = bs := nxF_x (by omega) (fun h9 => by
            have := h9.2.1; omega)
          refine ww_iinc hX (pc := 66) (lv' := [some (kR (some 49)), some (kI a), some (kI b), some (kI m), some (kI bs), some (kI (t + 1))]) dX11_nextOf_66 rfl (by decide) rfl rfl ?_
          refine ww_goto hX (pc := 69) (tgt := 6) dX11_nextOf_69 (by decide) ?_
          exact ih_6 _ (by have hm9 := Sh0_e hq_6; omega) bs (t + 1) rfl ⟨by omega, (by rw [fW_s _ _ (by omega), ← hbs, hst])⟩
        · simp only [w32_mod] at h_22
          refine ww_aload_n hX (pc := 25) dX11_nextOf_25 rfl ?_
          refine ww_iload_n hX (pc := 26) dX11_nextOf_26 rfl ?_
          refine ww_iload hX (pc := 27) dX11_nextOf_27 rfl ?_
          refine ww_aload_n hX (pc := 29) dX11_nextOf_29 rfl ?_
          refine ww_getR hX (pc := 30) fX11_20 (by decide) (xs_49 hL) (xr_49_3 hL) dX11_nextOf_30 ?_
          refine ww_sipush hX (pc := 33) (x := 306) dX11_nextOf_33 (by decide) ?_
          refine ww_iald hX (pc := 36) (xs_51 hL) (by decide) (by omega) (by omega) dX11_nextOf_36 ?_
          refine ww_toI (b := Ia 51 306) rfl ?_
          refine vI3 hX (pc := 37) sX11_271 (xs_49 hL) (c_X11_canCome l0 hL hQ ) (by decide) (Nat.le_refl 0) (Nat.le_refl 0) (Nat.le_of_ble_eq_true rfl) dX11_nextOf_37 (fun x_37 I_37 J_37 h_37 => ?_)
          obtain ⟨rfl, rfl, h_37⟩ := h_37
          refine ww_if_eq hX (pc := 40) (tgt := 66) dX11_nextOf_40 (by decide) (fun h_40 => ?_) (fun h_40 => ?_)
          · simp only [w32_mod] at h_40
            have hst : nxF (bR m a (Ia 51 304) (Ia 51 305) (Ia 51) (Ia 61) (Ja 62)) (Ia 51) (Ia 51 306) a (FU (Ia 51 304) + 1) b bs t.toNat = bs := if_neg (fun h9 => by
              have h8 := h9.2.2.1
              rw [show ((t.toNat : Nat) : Int) = t by omega] at h8
              have := h_37.2.mpr ((canC_iff (by omega) (by omega) (by omega) (by omega)).mpr ⟨h9.2.1, h8⟩)
              omega)
            refine ww_iinc hX (pc := 66) (lv' := [some (kR (some 49)), some (kI a), some (kI b), some (kI m), some (kI bs), some (kI (t + 1))]) dX11_nextOf_66 rfl (by decide) rfl rfl ?_
            refine ww_goto hX (pc := 69) (tgt := 6) dX11_nextOf_69 (by decide) ?_
            exact ih_6 _ (by have hm9 := Sh0_e hq_6; omega) bs (t + 1) rfl ⟨by omega, (by rw [fW_s _ _ (by omega), ← hbs, hst])⟩
          · simp only [w32_mod] at h_40
            have hcc := (canC_iff (by omega) (by omega) (by omega) (by omega)).mp (h_37.2.mp (by omega))
            refine ww_iload hX (pc := 43) dX11_nextOf_43 rfl ?_
            refine ww_iconst hX (pc := 45) (x := (-1)) dX11_nextOf_45 rfl ?_
            refine ww_icmp_eq hX (pc := 46) (tgt := 62) dX11_nextOf_46 (by decide) (fun h_46 => ?_) (fun h_46 => ?_)
            · simp only [w32_mod] at h_46
              have hst : nxF (bR m a (Ia 51 304) (Ia 51 305) (Ia 51) (Ia 61) (Ja 62)) (Ia 51) (Ia 51 306) a (FU (Ia 51 304) + 1) b bs t.toNat = t := nxF_y (by omega) (by omega) hcc.1 hcc.2 (by omega) (Or.inl (by omega))
              refine ww_iload hX (pc := 62) dX11_nextOf_62 rfl ?_
              refine ww_istore hX (pc := 64) (lv' := [some (kR (some 49)), some (kI a), some (kI b), some (kI m), some (kI t), some (kI t)]) dX11_nextOf_64 (by decide) rfl rfl ?_
              refine ww_iinc hX (pc := 66) (lv' := [some (kR (some 49)), some (kI a), some (kI b), some (kI m), some (kI t), some (kI (t + 1))]) dX11_nextOf_66 rfl (by decide) rfl rfl ?_
              refine ww_goto hX (pc := 69) (tgt := 6) dX11_nextOf_69 (by decide) ?_
              exact ih_6 _ (by have hm9 := Sh0_e hq_6; omega) t (t + 1) rfl ⟨by omega, (by rw [fW_s _ _ (by omega), ← hbs, hst])⟩
            · simp only [w32_mod] at h_46
              refine ww_aload_n hX (pc := 49) dX11_nextOf_49 rfl ?_
              refine ww_iload_n hX (pc := 50) dX11_nextOf_50 rfl ?_
              refine ww_iload hX (pc := 51) dX11_nextOf_51 rfl ?_
              refine ww_iload hX (pc := 53) dX11_nextOf_53 rfl ?_
              refine ww_iload_n hX (pc := 55) dX11_nextOf_55 rfl ?_
              refine vI4 hX (pc := 56) sX11_304 (xs_49 hL) (c8_X11_isBetter l0 hL hQ (by omega) (by omega) (by omega) (by omega) (by omega) (by omega) (by omega) (by omega) hO hcc.1 (hcx.2 (by omega)) hM) (by decide) (Nat.le_refl 0) (Nat.le_refl 0) (Nat.le_of_ble_eq_true rfl) dX11_nextOf_56 (fun x_56 I_56 J_56 h_56 => ?_)
              obtain ⟨rfl, rfl, h_56⟩ := h_56
              refine ww_if_eq hX (pc := 59) (tgt := 66) dX11_nextOf_59 (by decide) (fun h_59 => ?_) (fun h_59 => ?_)
              · simp only [w32_mod] at h_59
                have hst : nxF (bR m a (Ia 51 304) (Ia 51 305) (Ia 51) (Ia 61) (Ja 62)) (Ia 51) (Ia 51 306) a (FU (Ia 51 304) + 1) b bs t.toNat = bs := nxF_x (by omega) (fun h9 => by
                  have g3 := h9.2.2
                  rcases g3 with g3 | g3
                  · omega
                  · have := h_56.2.mpr g3; omega)
                refine ww_iinc hX (pc := 66) (lv' := [some (kR (some 49)), some (kI a), some (kI b), some (kI m), some (kI bs), some (kI (t + 1))]) dX11_nextOf_66 rfl (by decide) rfl rfl ?_
                refine ww_goto hX (pc := 69) (tgt := 6) dX11_nextOf_69 (by decide) ?_
                exact ih_6 _ (by have hm9 := Sh0_e hq_6; omega) bs (t + 1) rfl ⟨by omega, (by rw [fW_s _ _ (by omega), ← hbs, hst])⟩
              · simp only [w32_mod] at h_59
                have hst : nxF (bR m a (Ia 51 304) (Ia 51 305) (Ia 51) (Ia 61) (Ja 62)) (Ia 51) (Ia 51 306) a (FU (Ia 51 304) + 1) b bs t.toNat = t := nxF_y (by omega) (by omega) hcc.1 hcc.2 (by omega) (Or.inr (h_56.2.mp (by omega)))
                refine ww_iload hX (pc := 62) dX11_nextOf_62 rfl ?_
                refine ww_istore hX (pc := 64) (lv' := [some (kR (some 49)), some (kI a), some (kI b), some (kI m), some (kI t), some (kI t)]) dX11_nextOf_64 (by decide) rfl rfl ?_
                refine ww_iinc hX (pc := 66) (lv' := [some (kR (some 49)), some (kI a), some (kI b), some (kI m), some (kI t), some (kI (t + 1))]) dX11_nextOf_66 rfl (by decide) rfl rfl ?_
                refine ww_goto hX (pc := 69) (tgt := 6) dX11_nextOf_69 (by decide) ?_
                exact ih_6 _ (by have hm9 := Sh0_e hq_6; omega) t (t + 1) rfl ⟨by omega, (by rw [fW_s _ _ (by omega), ← hbs, hst])⟩
  exact hl_6 _ (-1) a rfl ⟨by omega, (fW_e nxF_n).symm⟩
set_option maxHeartbeats 4000000 in
set_option maxRecDepth 20000 in
theorem c8_X11_gcd (l0 : Launch) {Ia Ja : aI1} {Ra : aR1} {Sa : aS1} {a b : Int} (ha0 : 0 ≤ a) (ha1 : a < 4611686018427387904) (hb0 : 0 ≤ b) (hb1 : b < 4611686018427387904)  : CT l0 0 0 0 mX11_gcd [kL a, kL b] Ia Ja Ra Sa (cJ (fun x I' J' => Ia = I' ∧ Ja = J' ∧ x = gq a b) Ra Sa) := by
  refine ct_in pn_X11 (Nat.le_of_ble_eq_true rfl) (fun X hX hT hIn => ?_)
  have hX : aK l0 X cX11_gcd 10 RX11 (some .long) 0 0 0 := hX
  change WW X 0 [some (kL a), none, some (kL b), none, none, none, none, none, none, none] [] Ia Ja Ra Sa 0 0
  refine ww_lload_n hX (pc := 0) dX11_gcd_0 rfl ?_
  refine ww_lstore hX (pc := 1) (lv' := [some (kL a), none, some (kL b), none, some (kL a), none, none, none, none, none]) dX11_gcd_1 (by decide) rfl rfl ?_
  refine ww_lload_n hX (pc := 3) dX11_gcd_3 rfl ?_
  refine ww_lstore hX (pc := 4) (lv' := [some (kL a), none, some (kL b), none, some (kL a), none, some (kL b), none, none, none]) dX11_gcd_4 (by decide) rfl rfl ?_
  have hl_6 : ∀ (n_6 : Nat) (xx : Int) (yy : Int), yy.toNat = n_6 → (((0 ≤ xx ∧ xx < 4611686018427387904) ∧ (0 ≤ yy ∧ yy < 4611686018427387904)) ∧ Nat.gcd xx.toNat yy.toNat = Nat.gcd a.toNat b.toNat) → WW X 6 [some (kL a), none, some (kL b), none, some (kL xx), none, some (kL yy), none, none, none] [] Ia Ja Ra Sa 0 0 := by
    intro n_6
    induction n_6 using Nat.strongRecOn with
    | ind n_6 ih_6 =>
      intro xx yy hm_6 hv_6
      have hq_6 := Sh0_i hm_6
      clear hm_6
      obtain ⟨hv, hgg⟩ := hv_6
      refine ww_lload hX (pc := 6) dX11_gcd_6 rfl ?_
      refine ww_lconst hX (pc := 8) (x := 0) dX11_gcd_8 (by decide) ?_
      refine ww_lcmp hX (pc := 9) dX11_gcd_9 ?_
      have hlc := l_cmp_v yy 0
      rw [w64_id (x := yy) (by omega) (by omega), show w64 0 = 0 from rfl] at hlc
      refine ww_if_le hX (pc := 10) (tgt := 31) dX11_gcd_10 (by decide) (fun h_10 => ?_) (fun h_10 => ?_)
      · simp only [w32_mod] at h_10
        refine ww_lload hX (pc := 31) dX11_gcd_31 rfl ?_
        refine rJ hX (pc := 33) hT (Nat.le_refl 0) (Nat.le_refl 0) dX11_gcd_33 ?_
        exact ⟨rfl, rfl, (by unfold gq; rw [← hgg, show yy.toNat = 0 by omega, Nat.gcd_zero_right]; omega)⟩
      · simp only [w32_mod] at h_10
        refine ww_lload hX (pc := 13) dX11_gcd_13 rfl ?_
        refine ww_lload hX (pc := 15) dX11_gcd_15 rfl ?_
        refine ww_lrem hX (pc := 17) dX11_gcd_17 (by rw [w64_id (by omega) (by omega)]; omega) ?_
        refine ww_toL (b := xx % yy) (l_rem_v (by omega) (by omega) (by omega) (by omega)) ?_
        have hmn := Int.emod_nonneg xx (show yy ≠ 0 by omega)
        have hml := Int.emod_lt_of_pos xx (show 0 < yy by omega)
        refine ww_nmL (fun v_18 hv_18 => ?_)
        refine ww_lstore hX (pc := 18) (lv' := [some (kL a), none, some (kL b), none, some (kL xx), none, some (kL yy), none, some (kL v_18), none]) dX11_gcd_18 (by decide) rfl rfl ?_
        refine ww_lload hX (pc := 20) dX11_gcd_20 rfl ?_
        refine ww_lstore hX (pc := 22) (lv' := [some (kL a), none, some (kL b), none, some (kL yy), none, some (kL yy), none, some (kL v_18), none]) dX11_gcd_22 (by decide) rfl rfl ?_
        refine ww_lload hX (pc := 24) dX11_gcd_24 rfl ?_
        refine ww_lstore hX (pc := 26) (lv' := [some (kL a), none, some (kL b), none, some (kL yy), none, some (kL v_18), none, some (kL v_18), none]) dX11_gcd_26 (by decide) rfl rfl ?_
        refine ww_goto hX (pc := 28) (tgt := 6) dX11_gcd_28 (by decide) ?_
        refine ww_sub [some (kL a), none, some (kL b), none, some (kL yy), none, some (kL v_18), none, none, none] (aLe_s (aLe_n (aLe_s (aLe_n (aLe_s (aLe_n (aLe_s (aLe_n (aLe_n (aLe_n aLe_0)))))))))) ?_
        exact ih_6 _ (by have hm9 := Sh0_e hq_6; omega) yy v_18 rfl ⟨by omega, (by rw [hv_18, toNat_mod (by omega) (by omega), ← hgg, Nat.gcd_comm yy.toNat, ← Nat.gcd_rec, Nat.gcd_comm])⟩
  exact hl_6 _ a b rfl ⟨by omega, rfl⟩
