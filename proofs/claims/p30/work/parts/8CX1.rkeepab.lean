/-- what one means when one sends from s -/
def tJ (M : Nat → Int) (K n : Int) (s t : Nat) : Int := M t * (K - 1) ^ (n - pcn s + 1 - (n - pcn t)).toNat
theorem tJ_r {M : Nat → Int} {K n cs : Int} {s t : Nat} (hK : 2 ≤ K) (hK8 : K ≤ 8) (hn : 0 ≤ n - pcn t) (hn8 : n ≤ 8) (h : MR8 n (K - 1) cs (pcn t) (M t)) (hle : pcn s ≤ pcn t) : 0 ≤ tJ M K n s t ∧ tJ M K n s t ≤ 8070721400 := by
  have hq := pw_pos (P := K - 1) (by omega) (n - pcn s + 1 - (n - pcn t)).toNat
  refine ⟨Int.mul_nonneg h.1 (by omega), ?_⟩
  have h2 : tJ M K n s t ≤ 200 * (K - 1) ^ (n - pcn t).toNat * (K - 1) ^ (n - pcn s + 1 - (n - pcn t)).toNat := Int.mul_le_mul_of_nonneg_right h.2.1 (by omega)
  have hps := pcn_r s
  rw [Int.mul_assoc, pw_add, show (n - pcn t).toNat + (n - pcn s + 1 - (n - pcn t)).toNat = (n - pcn s).toNat + 1 by omega, Int.pow_succ] at h2
  have hu := pow_7 (b := K - 1) (n := (n - pcn s).toNat) (by omega) (by omega) (by omega)
  have h3 : (K - 1) ^ (n - pcn s).toNat * (K - 1) ≤ (K - 1) ^ (n - pcn s).toNat * 7 := Int.mul_le_mul_of_nonneg_left (by omega) (by omega)
  omega
theorem oilF_r {k : Nat → Int} {a : Int} (ho : ∀ l, l < 8 → 0 ≤ k (256 + l) ∧ k (256 + l) ≤ 99) : ∀ n : Nat, n ≤ 8 → 0 ≤ oilF k a n ∧ oilF k a n ≤ 99 * n
  | 0, _ => ⟨Int.le_refl 0, Int.le_refl 0⟩
  | n + 1, h => by
    have h1 := oilF_r (a := a) ho n (by omega)
    have h2 := ho n (by omega)
    show 0 ≤ oilF k a n + (if _ then _ else _) ∧ oilF k a n + (if _ then _ else _) ≤ _
    split <;> omega
/-- a MANNER from s by the reference's tables -/
def bR (m s n K : Int) (k L M : Nat → Int) (t v : Nat) : Bool := if m = 0 then decide (pcn (df t s.toNat) < pcn (df v s.toNat)) else if m = 1 then decide (oilF k ((df t s.toNat : Nat) : Int) n.toNat < oilF k ((df v s.toNat : Nat) : Int) n.toNat) else if m = 2 then decide (L v < L t ∨ (L t = L v ∧ pcn (df t s.toNat) < pcn (df v s.toNat))) else decide (tJ M K n s.toNat v < tJ M K n s.toNat t)
def dwn (code : Nat → Int) (K n : Int) (a : Nat) : Int := (K - 1) ^ (n - pcn a).toNat * (if code a = -1 then K else K - 1)

set_option maxHeartbeats 4000000 in
set_option maxRecDepth 20000 in
theorem c8_X11_dark (l0 : Launch) {Ia Ja : aI1} {Ra : aR1} {Sa : aS1} (hL : LY Ra Sa) (hQ : RX Ia) {a : Int} (ha0 : 0 ≤ a) (ha1 : a ≤ 255)  : CT l0 1 0 0 mX11_dark [kR (some 49), kI a] Ia Ja Ra Sa (cI (fun x I' J' => Ia = I' ∧ Ja = J' ∧ x = Ia 51 304 - pcn a.toNat) Ra Sa) := by
  refine ct_in pn_X11 (Nat.le_of_ble_eq_true rfl) (fun X hX hT hIn => ?_)
  have hX : aK l0 X cX11_dark 2 RX11 (some .int) 1 0 0 := hX
  change WW X 0 [some (kR (some 49)), some (kI a)] [] Ia Ja Ra Sa 0 0
  have qIa := RX_o hQ
  refine ww_aload_n hX (pc := 0) dX11_dark_0 rfl ?_
  refine ww_getR hX (pc := 1) fX11_20 (by decide) (xs_49 hL) (xr_49_3 hL) dX11_dark_1 ?_
  refine ww_sipush hX (pc := 4) (x := 304) dX11_dark_4 (by decide) ?_
  refine ww_iald hX (pc := 7) (xs_51 hL) (by decide) (by omega) (by omega) dX11_dark_7 ?_
  refine ww_toI (b := Ia 51 304) rfl ?_
  refine ww_iload_n hX (pc := 8) dX11_dark_8 rfl ?_
  refine sI1 hX (pc := 9) sX11_259 (c7_X11_ones l0 (by omega) (by omega)) (by decide) (Nat.le_refl 0) (Nat.le_refl 0) (Nat.le_of_ble_eq_true rfl) dX11_dark_9 (fun x_9 I_9 J_9 h_9 => ?_)
  obtain ⟨rfl, rfl, h_9⟩ := h_9
  refine ww_isub hX (pc := 12) dX11_dark_12 ?_
  refine rI hX (pc := 13) hT (Nat.le_refl 0) (Nat.le_refl 0) dX11_dark_13 ?_
  exact ⟨rfl, rfl, by rw [h_9]⟩
set_option maxHeartbeats 4000000 in
set_option maxRecDepth 20000 in
theorem c8_X11_meanIn (l0 : Launch) {Ia Ja : aI1} {Ra : aR1} {Sa : aS1} (hL : LY Ra Sa) (hQ : RX Ia) {a b : Int} (ha0 : 0 ≤ a) (ha1 : a ≤ 255) (hb0 : -1000 ≤ b) (hb1 : b ≤ 1000)  : CT l0 2 0 0 mX11_meanIn [kR (some 49), kI a, kI b] Ia Ja Ra Sa (cJ (fun x I' J' => Ia = I' ∧ Ja = J' ∧ x = Ja 62 a.toNat * (Ia 51 305 - 1) ^ (b - (Ia 51 304 - pcn a.toNat) - 1).toNat) Ra Sa) := by
  refine ct_in pn_X11 (Nat.le_of_ble_eq_true rfl) (fun X hX hT hIn => ?_)
  have hX : aK l0 X cX11_meanIn 3 RX11 (some .long) 2 0 0 := hX
  change WW X 0 [some (kR (some 49)), some (kI a), some (kI b)] [] Ia Ja Ra Sa 0 0
  have qIa := RX_o hQ
  have hpr := pcn_r a.toNat
  refine ww_aload_n hX (pc := 0) dX11_meanIn_0 rfl ?_
  refine ww_getR hX (pc := 1) fX11_58 (by decide) (xs_49 hL) (xr_49_24 hL) dX11_meanIn_1 ?_
  refine ww_iload_n hX (pc := 4) dX11_meanIn_4 rfl ?_
  refine ww_lald hX (pc := 5) (xs_62 hL) (by decide) (by omega) (by omega) dX11_meanIn_5 ?_
  refine ww_aload_n hX (pc := 6) dX11_meanIn_6 rfl ?_
  refine ww_iload_n hX (pc := 7) dX11_meanIn_7 rfl ?_
  refine ww_aload_n hX (pc := 8) dX11_meanIn_8 rfl ?_
  refine ww_iload_n hX (pc := 9) dX11_meanIn_9 rfl ?_
  refine vI1 hX (pc := 10) sX11_274 (xs_49 hL) (c8_X11_dark l0 hL hQ (by omega) (by omega)) (by decide) (Nat.le_refl 0) (Nat.le_refl 0) (Nat.le_of_ble_eq_true rfl) dX11_meanIn_10 (fun x_10 I_10 J_10 h_10 => ?_)
  obtain ⟨rfl, rfl, h_10⟩ := h_10
  refine ww_isub hX (pc := 13) dX11_meanIn_13 ?_
  refine ww_iconst hX (pc := 14) (x := 1) dX11_meanIn_14 rfl ?_
  refine ww_isub hX (pc := 15) dX11_meanIn_15 ?_
  refine vJ1 hX (pc := 16) sX11_277 (xs_49 hL) (c_X11_power l0 hL hQ (by omega) (by omega)) (by decide) (Nat.le_refl 0) (Nat.le_refl 0) (Nat.le_of_ble_eq_true rfl) dX11_meanIn_16 (fun x_16 I_16 J_16 h_16 => ?_)
  obtain ⟨rfl, rfl, h_16⟩ := h_16
  refine ww_lmul hX (pc := 19) dX11_meanIn_19 ?_
  refine rJ hX (pc := 20) hT (Nat.le_refl 0) (Nat.le_refl 0) dX11_meanIn_20 ?_
  exact ⟨rfl, rfl, by rw [h_16, h_10]⟩
