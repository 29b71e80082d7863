/-! class and reference choose alike -/
theorem PB_cg {code k : Nat → Int} {g e N x : Int} (h : ∀ t : Nat, (t : Int) < N → code t = k t) (t : Nat) : PB k g e N x t ↔ PB code g e N x t := by
  constructor
  · intro ht
    exact ⟨ht.1, ht.2.1, ht.2.2.1, ht.2.2.2.1, by rw [h t ht.2.1]; exact ht.2.2.2.2⟩
  · intro ht
    exact ⟨ht.1, ht.2.1, ht.2.2.1, ht.2.2.2.1, by rw [← h t ht.2.1]; exact ht.2.2.2.2⟩
theorem MRc_cg {code k M : Nat → Int} {g n K : Int} (h : MRc k g n K M) (e : ∀ t : Nat, (t : Int) < FU n + 1 → code t = k t) : MRc code g n K M := fun s hs => by
  obtain ⟨⟨r, h1, h2⟩, h3⟩ := h s hs
  rw [← e s (by omega)] at h2 h3
  exact ⟨⟨r, fun x hx => GM_cg (h1 x hx) (fun t => PB_cg e t) (fun _ _ => rfl), h2⟩, h3⟩
theorem T_link {code T M : Nat → Int} {g n K : Int} (hn : 1 ≤ n) (hn8 : n ≤ 8) (hK : 2 ≤ K) (h : MTc code g n K T) (k : MRc code g n K M) : ∀ (q s : Nat), (s : Int) ≤ FU n → FU n + 1 - s ≤ q → (code s = -1 → T s = M s * (K - 1) ^ (9 - (n - pcn s)).toNat) ∧ (¬ code s = -1 → T s = M s * (K - 1) ^ (8 - (n - pcn s)).toNat) := by
  have hF := FU_r hn hn8
  intro q
  induction q with
  | zero =>
    intro s hs hq
    exfalso
    omega
  | succ q ih =>
    intro s hs hq
    exact M_link hK hn8 (by omega) (by omega) (fun t ht htN hc => ⟨(ih t (by omega) (by omega)).2 hc, (k t (by omega)).2.1⟩) (fun t ht => pcn_n hn hn8 (by omega)) (h s hs).1 (k s hs).1
theorem T_lk {code T M : Nat → Int} {g n K : Int} (hn : 1 ≤ n) (hn8 : n ≤ 8) (hK : 2 ≤ K) (h : MTc code g n K T) (k : MRc code g n K M) {s : Nat} (hs : (s : Int) ≤ FU n) : (code s = -1 → T s = M s * (K - 1) ^ (9 - (n - pcn s)).toNat) ∧ (¬ code s = -1 → T s = M s * (K - 1) ^ (8 - (n - pcn s)).toNat) :=
  T_link hn hn8 hK h k (FU n + 1).toNat s hs (by omega)
theorem sh_bit : ∀ a : Fin 256, ∀ n : Fin 8, w32 (i_and (i_shr (a.val : Int) (n.val : Int)) 1) = 1 ↔ a.val.testBit n.val = true := by decide +kernel
theorem oilF_S {k : Nat → Int} {a : Nat} (ha : a < 256) : ∀ n : Nat, n ≤ 8 → oilF k (a : Int) n = oilS (fun l => k (256 + l)) a n
  | 0, _ => rfl
  | n + 1, h => by
    rw [oilS_s, ← oilF_S ha n (by omega)]
    show oilF k (a : Int) n + (if w32 (i_and (i_shr (a : Int) (n : Int)) 1) = 1 then k (256 + n) else 0) = _
    have hb := sh_bit ⟨a, ha⟩ ⟨n, by omega⟩
    by_cases e : a.testBit n = true
    · rw [if_pos (hb.mpr e), if_pos e]
    · rw [if_neg (fun h9 => e (hb.mp h9)), if_neg e, Int.add_zero]
theorem mul_ltc {a b c : Int} (h : 1 ≤ c) : a * c < b * c ↔ a < b := by
  constructor
  · intro h1
    refine Decidable.byContradiction (fun h2 => ?_)
    have := Int.mul_le_mul_of_nonneg_right (show b ≤ a by omega) (show 0 ≤ c by omega)
    omega
  · intro h1
    exact Int.mul_lt_mul_of_pos_right h1 (by omega)
theorem NX_lk {m n K g s x : Int} {code k o o2 L T L' M : Nat → Int} (hm : 0 ≤ m ∧ m ≤ 3) (hn : 1 ≤ n) (hn8 : n ≤ 8) (hK : 2 ≤ K) (hk : ∀ t : Nat, (t : Int) < FU n + 1 → code t = k t) (ho : m = 1 → ∀ t : Nat, (t : Int) ≤ FU n → o t = oilS o2 t n.toNat) (ho2 : ∀ l, l < 8 → o2 l = k (256 + l)) (hL : m = 2 → zLV code g (FU n + 1) K (-1) L) (hT : m = 3 → MTc code g n K T) (hL' : zLV k g (FU n + 1) K (-1) L') (hM : MRc k g n K M) (hs : 0 ≤ s ∧ s ≤ FU n) (hx : ¬ x = -1) : NX (bC m o L T) code g s (FU n + 1) x = NX (bR m s n K k L' M) k g s (FU n + 1) x := by
  have hF := FU_r hn hn8
  refine NX_cg hk (fun t v ht hv => ?_)
  have t1 := ht.1
  have v1 := hv.1
  have t2 := ht.2.1
  have v2 := hv.2.1
  have t3 := pcn_df t2
  have v3 := pcn_df v2
  have pt := pcn_le t2
  have pv := pcn_le v2
  have nt := pcn_n hn hn8 (show (t : Int) ≤ FU n by omega)
  have nv := pcn_n hn hn8 (show (v : Int) ≤ FU n by omega)
  have rs := pcn_r s.toNat
  unfold bC bR
  rcases (show m = 0 ∨ m = 1 ∨ m = 2 ∨ m = 3 by omega) with rfl | rfl | rfl | rfl
  · rw [if_neg (by decide), if_neg (by decide), if_neg (by decide), if_pos rfl, t3, v3]
    exact decide_eq_decide.mpr (by omega)
  · rw [if_pos rfl, if_neg (by decide), if_pos rfl]
    have g1 : ∀ u : Nat, (u : Int) < FU n + 1 → s.toNat &&& u = s.toNat → o u = oilS (fun l => k (256 + l)) s.toNat n.toNat + oilF k ((df u s.toNat : Nat) : Int) n.toNat := fun u hu hu2 => by
      rw [ho rfl u (by omega), oilS_cg (t := u) n.toNat (fun l hl => ho2 l (by omega)) (fun _ _ => rfl), oilS_df hu2, oilF_S (df_lt (by omega)) n.toNat (by omega)]
    rw [g1 t t1 t2, g1 v v1 v2]
    exact decide_eq_decide.mpr (by omega)
  · rw [if_neg (by decide), if_pos rfl, if_neg (by decide), if_neg (by decide), if_pos rfl, t3, v3]
    have g1 : ∀ u : Nat, (u : Int) < FU n + 1 → L u = L' u := fun u hu => zLV_un (hL rfl) hL' hk (FU n + 1).toNat u hu (by omega)
    rw [g1 t t1, g1 v v1]
    exact decide_eq_decide.mpr (by omega)
  · rw [if_neg (by decide), if_neg (by decide), if_pos rfl, if_neg (by decide), if_neg (by decide), if_neg (by decide)]
    refine decide_eq_decide.mpr ?_
    have hM2 := MRc_cg hM hk
    have a1 := (T_lk hn hn8 hK (hT rfl) hM2 (show (t : Int) ≤ FU n by omega)).2 (by rw [ht.2.2.2]; exact hx)
    have b1 := (T_lk hn hn8 hK (hT rfl) hM2 (show (v : Int) ≤ FU n by omega)).2 (by rw [hv.2.2.2]; exact hx)
    have ns := pcn_n hn hn8 (show (s.toNat : Int) ≤ FU n by omega)
    by_cases e : n - pcn s.toNat ≤ 7
    · have a2 : T t = tJ M K n s.toNat t * (K - 1) ^ (7 - (n - pcn s.toNat)).toNat := by
        unfold tJ
        rw [a1, Int.mul_assoc, pw_add]
        exact congrArg (fun z : Nat => M t * (K - 1) ^ z) (by omega)
      have b2 : T v = tJ M K n s.toNat v * (K - 1) ^ (7 - (n - pcn s.toNat)).toNat := by
        unfold tJ
        rw [b1, Int.mul_assoc, pw_add]
        exact congrArg (fun z : Nat => M v * (K - 1) ^ z) (by omega)
      rw [a2, b2]
      exact mul_ltc (pw_pos (by omega) _)
    · have a2 : tJ M K n s.toNat t = T t * (K - 1) ^ 1 := by
        unfold tJ
        rw [a1, Int.mul_assoc, pw_add]
        exact congrArg (fun z : Nat => M t * (K - 1) ^ z) (by omega)
      have b2 : tJ M K n s.toNat v = T v * (K - 1) ^ 1 := by
        unfold tJ
        rw [b1, Int.mul_assoc, pw_add]
        exact congrArg (fun z : Nat => M v * (K - 1) ^ z) (by omega)
      rw [a2, b2]
      exact (mul_ltc (pw_pos (by omega) _)).symm
