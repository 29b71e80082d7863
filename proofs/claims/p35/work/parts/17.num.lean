section
/-! numbers: bits of small whole numbers -/
theorem o_nat (n : Nat) : Int32.ofInt (n : Int) = Int32.ofNat n := rfl
theorem o_and (a b : Nat) : Int32.ofInt (a : Int) &&& Int32.ofInt (b : Int) = Int32.ofInt ((a &&& b : Nat) : Int) := by
  rw [o_nat, o_nat, o_nat]
  apply Int32.toBitVec_inj.1
  show BitVec.ofNat 32 a &&& BitVec.ofNat 32 b = BitVec.ofNat 32 (a &&& b)
  apply BitVec.eq_of_getLsbD_eq
  intro i hi
  simp [hi]
theorem o_or (a b : Nat) : Int32.ofInt (a : Int) ||| Int32.ofInt (b : Int) = Int32.ofInt ((a ||| b : Nat) : Int) := by
  rw [o_nat, o_nat, o_nat]
  apply Int32.toBitVec_inj.1
  show BitVec.ofNat 32 a ||| BitVec.ofNat 32 b = BitVec.ofNat 32 (a ||| b)
  apply BitVec.eq_of_getLsbD_eq
  intro i hi
  simp [hi]
theorem o_xor (a b : Nat) : Int32.ofInt (a : Int) ^^^ Int32.ofInt (b : Int) = Int32.ofInt ((a ^^^ b : Nat) : Int) := by
  rw [o_nat, o_nat, o_nat]
  apply Int32.toBitVec_inj.1
  show BitVec.ofNat 32 a ^^^ BitVec.ofNat 32 b = BitVec.ofNat 32 (a ^^^ b)
  apply BitVec.eq_of_getLsbD_eq
  intro i hi
  simp [hi]
theorem i_or_N {a b : Nat} (ha : a < 2147483648) (hb : b < 2147483648) : i_or a b = ((a ||| b : Nat) : Int) := by
  have h : a ||| b < 2 ^ 31 := Nat.or_lt_two_pow ha hb
  unfold i_or
  rw [o_or]
  exact w32_id (by omega) (by omega)
theorem i_xor_N {a b : Nat} (ha : a < 2147483648) (hb : b < 2147483648) : i_xor a b = ((a ^^^ b : Nat) : Int) := by
  have h : a ^^^ b < 2 ^ 31 := Nat.xor_lt_two_pow ha hb
  unfold i_xor
  rw [o_xor]
  exact w32_id (by omega) (by omega)
theorem i_or_ge {a b : Int} (h0 : 0 ≤ a) (h1 : a < 2147483648) (h2 : 0 ≤ b) (h3 : b < 2147483648) : a ≤ i_or a b ∧ b ≤ i_or a b ∧ i_or a b < 2147483648 := by
  obtain ⟨n, rfl⟩ := Int.eq_ofNat_of_zero_le h0
  obtain ⟨m, rfl⟩ := Int.eq_ofNat_of_zero_le h2
  have h : n ||| m < 2 ^ 31 := Nat.or_lt_two_pow (by omega) (by omega)
  have g1 : n ≤ n ||| m := Nat.left_le_or
  have g2 : m ≤ n ||| m := Nat.right_le_or
  have e : i_or (n : Int) (m : Int) = ((n ||| m : Nat) : Int) := i_or_N (by omega) (by omega)
  rw [e]
  omega
theorem i_or_lt (k : Nat) {a b : Int} (hk : k ≤ 31) (h0 : 0 ≤ a) (h1 : a < 2 ^ k) (h2 : 0 ≤ b) (h3 : b < 2 ^ k) : i_or a b < 2 ^ k := by
  obtain ⟨n, rfl⟩ := Int.eq_ofNat_of_zero_le h0
  obtain ⟨m, rfl⟩ := Int.eq_ofNat_of_zero_le h2
  have q1 : n < 2 ^ k := by exact_mod_cast h1
  have q2 : m < 2 ^ k := by exact_mod_cast h3
  have h : n ||| m < 2 ^ k := Nat.or_lt_two_pow q1 q2
  have hb : (2 : Nat) ^ k ≤ 2 ^ 31 := Nat.pow_le_pow_right (by decide) hk
  have e : i_or (n : Int) (m : Int) = ((n ||| m : Nat) : Int) := i_or_N (by omega) (by omega)
  rw [e]
  exact_mod_cast h
theorem i_xor_lt (k : Nat) {a b : Int} (hk : k ≤ 31) (h0 : 0 ≤ a) (h1 : a < 2 ^ k) (h2 : 0 ≤ b) (h3 : b < 2 ^ k) : 0 ≤ i_xor a b ∧ i_xor a b < 2 ^ k := by
  obtain ⟨n, rfl⟩ := Int.eq_ofNat_of_zero_le h0
  obtain ⟨m, rfl⟩ := Int.eq_ofNat_of_zero_le h2
  have q1 : n < 2 ^ k := by exact_mod_cast h1
  have q2 : m < 2 ^ k := by exact_mod_cast h3
  have h : n ^^^ m < 2 ^ k := Nat.xor_lt_two_pow q1 q2
  have hb : (2 : Nat) ^ k ≤ 2 ^ 31 := Nat.pow_le_pow_right (by decide) hk
  have e : i_xor (n : Int) (m : Int) = ((n ^^^ m : Nat) : Int) := i_xor_N (by omega) (by omega)
  rw [e]
  exact ⟨by omega, by exact_mod_cast h⟩
theorem i_and_le {a : Int} (h0 : 0 ≤ a) (h1 : a < 2147483648) (b : Int) : 0 ≤ i_and a b ∧ i_and a b ≤ a := by
  obtain ⟨n, rfl⟩ := Int.eq_ofNat_of_zero_le h0
  have hb : ∃ m : Nat, m < 4294967296 ∧ Int32.ofInt b = Int32.ofInt ((m : Nat) : Int) := ⟨(Int32.ofInt b).toBitVec.toNat, (Int32.ofInt b).toBitVec.isLt, by
    rw [o_nat]
    apply Int32.toBitVec_inj.1
    show _ = BitVec.ofNat 32 _
    rw [BitVec.ofNat_toNat]
    simp⟩
  obtain ⟨m, hm, e⟩ := hb
  have g : n &&& m ≤ n := Nat.and_le_left
  unfold i_and
  rw [e, o_and]
  have e2 : (Int32.ofInt ((n &&& m : Nat) : Int)).toInt = ((n &&& m : Nat) : Int) := w32_id (by omega) (by omega)
  rw [e2]
  omega
theorem i_and_comm (a b : Int) : i_and a b = i_and b a := by
  unfold i_and
  rw [Int32.and_comm]
theorem i_and_1 (x : Int) : i_and x 1 = 0 ∨ i_and x 1 = 1 := by
  rw [i_and_comm]
  have := i_and_le (a := 1) (by decide) (by decide) x
  omega
theorem i_shl1 {n : Int} (h0 : 0 ≤ n) (h1 : n ≤ 8) : i_shl 1 n = 2 ^ n.toNat := by
  rcases (show n = 0 ∨ n = 1 ∨ n = 2 ∨ n = 3 ∨ n = 4 ∨ n = 5 ∨ n = 6 ∨ n = 7 ∨ n = 8 by omega) with rfl | rfl | rfl | rfl | rfl | rfl | rfl | rfl | rfl <;> decide +kernel
/-- one less than a power of two -/
def FU (n : Int) : Int := 2 ^ n.toNat - 1
theorem FU_r {n : Int} (h0 : 1 ≤ n) (h1 : n ≤ 8) : 1 ≤ FU n ∧ FU n ≤ 255 ∧ FU n + 1 = 2 ^ n.toNat := by
  unfold FU
  rcases (show n = 1 ∨ n = 2 ∨ n = 3 ∨ n = 4 ∨ n = 5 ∨ n = 6 ∨ n = 7 ∨ n = 8 by omega) with rfl | rfl | rfl | rfl | rfl | rfl | rfl | rfl <;> decide
end
section
theorem aLe_0 {b : List (Option aV)} : aLe [] b := trivial
theorem aLe_s {a b : List (Option aV)} {v : aV} (h : aLe a b) : aLe (some v :: a) (some v :: b) := ⟨rfl, h⟩
theorem aLe_n {a b : List (Option aV)} {w : Option aV} (h : aLe a b) : aLe (none :: a) (w :: b) := h
theorem pn_X0 : plainName yX0_ask.cls = true := by decide +kernel
theorem pn_X1 : plainName yX1_full.cls = true := by decide +kernel
theorem pn_X2 : plainName yX2_note.cls = true := by decide +kernel
theorem pn_X3 : plainName yX3_solve.cls = true := by decide +kernel
theorem pn_X4 : plainName yX4_prepare.cls = true := by decide +kernel
theorem pn_X5 : plainName yX5_fill.cls = true := by decide +kernel
theorem pn_X6 : plainName yX6_init.cls = true := by decide +kernel
theorem pn_X7 : plainName yX7_fail.cls = true := by decide +kernel
theorem pn_X8 : plainName yX8_spread.cls = true := by decide +kernel
theorem pn_X9 : plainName yX9_put.cls = true := by decide +kernel
theorem pn_X10 : plainName yX10_lamps.cls = true := by decide +kernel
theorem pn_X11 : plainName yX11_lamps.cls = true := by decide +kernel
theorem pn_J6 : plainName yJ6_bitCount_0f7a4.cls = true := by decide +kernel
theorem pn_J7 : plainName yJ7_fill_53178.cls = true := by decide +kernel
/-- only cells from a on, below b, may differ -/
def Kp (a b : Nat) (I I' : aI1) : Prop := ∀ k, (k < a ∨ b ≤ k) → I' k = I k
theorem Kp_rf {a b : Nat} {I : aI1} : Kp a b I I := fun _ _ => rfl
theorem Kp_tr {a b : Nat} {I I1 I2 : aI1} (h : Kp a b I I1) (h2 : Kp a b I1 I2) : Kp a b I I2 := fun k hk => (h2 k hk).trans (h k hk)
theorem Kp_up {a b : Nat} {I I1 : aI1} (h : Kp a b I I1) {k : Nat} (j : Nat) (v : Int) (hk : a ≤ k ∧ k < b) : Kp a b I (up2 I1 k j v) := fun q hq => by
  rw [up2_off _ _ _ (by omega)]
  exact h q hq
theorem Kp_upR {a b : Nat} {I I1 : aI1} (h : Kp a b I I1) {k : Nat} (f : Nat → Int) (hk : a ≤ k ∧ k < b) : Kp a b I (upR I1 k f) := fun q hq => by
  rw [upR_n _ _ (by omega)]
  exact h q hq
theorem Kp_wd {a b a' b' : Nat} {I I1 : aI1} (h : Kp a b I I1) (h1 : a' ≤ a) (h2 : b ≤ b') : Kp a' b' I I1 := fun q hq => h q (by omega)
theorem Kp_at {a b : Nat} {I I1 : aI1} (h : Kp a b I I1) (k j : Nat) (hk : k < a ∨ b ≤ k) : I1 k j = I k j := by rw [h k hk]
section WLS
variable {l0 : Launch} {X : aX} {cc : ByteArray} {nL : Nat} {rt : Option FieldType} {d mc ms : Nat} {pc : Nat} {lv : List (Option aV)} {st : List aV} {I J : aI1} {R : aR1} {S : aS1} {uc us : Nat}
theorem ww_ldcS (hX : aK l0 X cc nL RX7 rt d mc ms) {n idx : Nat} {tx : String} (hd : decode cc pc = .ok (.ldc idx, 2)) (ht : strTab[n]? = some (n, idx, tx)) (k : WW X (pc + 2) lv (kS n :: st) I J R S uc us) : WW X pc lv st I J R S uc us := by
  obtain ⟨p, l, e, Rm, s, m, args, below, meth, c, Q, E⟩ := X
  obtain ⟨hl0, hx, hb, hr, hml, hown, hts, hlocks, hK, hz0, hR, hStr⟩ := hX
  intro H locs ls hP hS hz hl
  exact va_ldcS hx hb hown (hStr.1 _ (List.mem_of_getElem? ht)) hd (k H locs ls hP hS hz hl)
end WLS
/-- what holds of the class's own state: numbers in their ranges -/
def XI (I : aI1) : Prop := (1 ≤ I 1 5 ∧ I 1 5 ≤ 8) ∧ (2 ≤ I 1 6 ∧ I 1 6 ≤ 8) ∧ (0 ≤ I 1 8 ∧ I 1 8 ≤ FU (I 1 5)) ∧ (0 ≤ I 1 9 ∧ I 1 9 ≤ 6) ∧ (0 ≤ I 1 10 ∧ I 1 10 ≤ 24) ∧ (0 ≤ I 1 11 ∧ I 1 11 ≤ 16) ∧ (0 ≤ I 8 1 ∧ I 8 1 ≤ 400) ∧ (0 ≤ I 0 12 ∧ I 0 12 ≤ 30) ∧ (0 ≤ I 0 13 ∧ I 0 13 ≤ 24) ∧ (∀ s, s < 256 → -1 ≤ I 3 s ∧ I 3 s ≤ 7) ∧ (∀ j, j < 400 → 0 ≤ I 9 j ∧ I 9 j ≤ 255)
theorem XI_kp {I I' : aI1} {a b : Nat} (h : XI I) (hk : Kp a b I I') (ha : 10 ≤ a) : XI I' := by
  unfold XI at h ⊢
  rw [hk 1 (by omega), hk 3 (by omega), hk 8 (by omega), hk 9 (by omega), hk 0 (by omega)]
  exact h
theorem XI.fu {I : aI1} (h : XI I) : 1 ≤ FU (I 1 5) ∧ FU (I 1 5) ≤ 255 := by
  have := FU_r h.1.1 h.1.2
  omega
end
section
theorem fill_step {f : Nat → Int} {I : aI1} {k : Nat} {i v : Int} (h : 0 ≤ i) : up2 (upR I k (fun j => if (j : Int) < i then v else f j)) k i.toNat v = upR I k (fun j => if (j : Int) < i + 1 then v else f j) := by
  funext a b
  by_cases ha : a = k
  · subst ha
    by_cases hb : b = i.toNat
    · subst hb
      rw [up2_s, upR_s, if_pos (by omega)]
    · rw [up2_n _ _ (Or.inr hb), upR_s, upR_s]
      by_cases hc : (b : Int) < i
      · rw [if_pos hc, if_pos (by omega)]
      · rw [if_neg hc, if_neg (by omega)]
  · rw [up2_n _ _ (Or.inl ha), upR_n _ _ ha, upR_n _ _ ha]
theorem fill_stepF {f : Nat → Int} {I : aI1} {k : Nat} {i v lo : Int} (h : 0 ≤ lo) (h2 : lo ≤ i) : up2 (upR I k (fun j => if lo ≤ (j : Int) ∧ (j : Int) < i then v else f j)) k i.toNat v = upR I k (fun j => if lo ≤ (j : Int) ∧ (j : Int) < i + 1 then v else f j) := by
  funext a b
  by_cases ha : a = k
  · subst ha
    by_cases hb : b = i.toNat
    · subst hb
      rw [up2_s, upR_s, if_pos (by omega)]
    · rw [up2_n _ _ (Or.inr hb), upR_s, upR_s]
      by_cases hc : lo ≤ (b : Int) ∧ (b : Int) < i
      · rw [if_pos hc, if_pos (by omega)]
      · rw [if_neg hc, if_neg (by omega)]
  · rw [up2_n _ _ (Or.inl ha), upR_n _ _ ha, upR_n _ _ ha]
theorem fill_0 {I : aI1} {k : Nat} {v : Int} : I = upR I k (fun j => if (j : Int) < 0 then v else I k j) := by
  funext a b
  by_cases ha : a = k
  · subst ha
    rw [upR_s, if_neg (by omega)]
  · rw [upR_n _ _ ha]
theorem fill_0F {I : aI1} {k : Nat} {v lo : Int} : I = upR I k (fun j => if lo ≤ (j : Int) ∧ (j : Int) < lo then v else I k j) := by
  funext a b
  by_cases ha : a = k
  · subst ha
    rw [upR_s, if_neg (by omega)]
  · rw [upR_n _ _ ha]
theorem fill_end {I : aI1} {k n : Nat} {v i : Int} (h : i = n) : upR I k (fun j => if (j : Int) < i then v else I k j) = upR I k (fun j => if j < n then v else I k j) := by
  subst h
  congr 1
  funext j
  by_cases hj : j < n
  · rw [if_pos hj, if_pos (by omega)]
  · rw [if_neg hj, if_neg (by omega)]
/-- how many bits are set, as the machine counts them -/
def bc (a : Int) : Int := i_and (((i_and ((i_and (a - i_and (i_ushr a 1) 1431655765) 858993459 + i_and (i_ushr (a - i_and (i_ushr a 1) 1431655765) 2) 858993459) + i_ushr (i_and (a - i_and (i_ushr a 1) 1431655765) 858993459 + i_and (i_ushr (a - i_and (i_ushr a 1) 1431655765) 2) 858993459) 4) 252645135) + i_ushr (i_and ((i_and (a - i_and (i_ushr a 1) 1431655765) 858993459 + i_and (i_ushr (a - i_and (i_ushr a 1) 1431655765) 2) 858993459) + i_ushr (i_and (a - i_and (i_ushr a 1) 1431655765) 858993459 + i_and (i_ushr (a - i_and (i_ushr a 1) 1431655765) 2) 858993459) 4) 252645135) 8) + i_ushr ((i_and ((i_and (a - i_and (i_ushr a 1) 1431655765) 858993459 + i_and (i_ushr (a - i_and (i_ushr a 1) 1431655765) 2) 858993459) + i_ushr (i_and (a - i_and (i_ushr a 1) 1431655765) 858993459 + i_and (i_ushr (a - i_and (i_ushr a 1) 1431655765) 2) 858993459) 4) 252645135) + i_ushr (i_and ((i_and (a - i_and (i_ushr a 1) 1431655765) 858993459 + i_and (i_ushr (a - i_and (i_ushr a 1) 1431655765) 2) 858993459) + i_ushr (i_and (a - i_and (i_ushr a 1) 1431655765) 858993459 + i_and (i_ushr (a - i_and (i_ushr a 1) 1431655765) 2) 858993459) 4) 252645135) 8) 16) 63
end
section
section WST
variable {l0 : Launch} {X : aX} {cc : ByteArray} {nL : Nat} {own : String} {rt : Option FieldType} {d mc ms : Nat} {pc : Nat} {lv : List (Option aV)} {st : List aV} {I J : aI1} {R : aR1} {S : aS1} {uc us : Nat} {post : Option aV → aI1 → aI1 → aR1 → aS1 → Prop}
theorem ww_getSv (hX : aK l0 X cc nL own rt d mc ms) {idx n : Nat} (hn : n < 13) (h1 : Cond.fieldLink own idx "java/lang/String" "value" "[B" ∈ aTb) (hd : decode cc pc = .ok (.getfield idx, 3)) (kk : WW X (pc + 3) lv (kS (100 + n) :: st) I J R S uc us) : WW X pc lv (kS n :: st) I J R S uc us := by
  obtain ⟨p, l, e, Rm, s, m, args, below, meth, c, Q, E⟩ := X
  obtain ⟨hl0, hx, hb, hr, hml, hown, hts, hlocks, hK, hz0, hR, hStr⟩ := hX
  intro H locs ls hP hS hz hl
  exact vk_getf hx hb ((hStr.2.1.1 n hn).2.2.1) hS hown (hts _ h1) (fun _ h => h) hd (kk H locs ls hP hS hz hl)
theorem ww_getSc (hX : aK l0 X cc nL own rt d mc ms) {idx n : Nat} (hn : n < 13) (h1 : Cond.fieldLink own idx "java/lang/String" "coder" "B" ∈ aTb) (hd : decode cc pc = .ok (.getfield idx, 3)) (kk : WW X (pc + 3) lv (kI 0 :: st) I J R S uc us) : WW X pc lv (kS n :: st) I J R S uc us := by
  obtain ⟨p, l, e, Rm, s, m, args, below, meth, c, Q, E⟩ := X
  obtain ⟨hl0, hx, hb, hr, hml, hown, hts, hlocks, hK, hz0, hR, hStr⟩ := hX
  intro H locs ls hP hS hz hl
  exact vk_getf hx hb ((hStr.2.1.1 n hn).2.1) hS hown (hts _ h1) (fun _ h => h) hd (kk H locs ls hP hS hz hl)
theorem ww_alenS (hX : aK l0 X cc nL own rt d mc ms) {n : Nat} (hn : n < 13) (hd : decode cc pc = .ok (.arraylength, 1)) (kk : WW X (pc + 1) lv (kI ((strLen.getD n 0 : Nat) : Int) :: st) I J R S uc us) : WW X pc lv (kS (100 + n) :: st) I J R S uc us := by
  obtain ⟨p, l, e, Rm, s, m, args, below, meth, c, Q, E⟩ := X
  obtain ⟨hl0, hx, hb, hr, hml, hown, hts, hlocks, hK, hz0, hR, hStr⟩ := hX
  intro H locs ls hP hS hz hl
  exact va_tlen hx hb ((hStr.2.1.1 n hn).2.2.2) hS (v := Int32.ofInt ((strLen.getD n 0 : Nat) : Int)) rfl hd (kk H locs ls hP hS hz hl)
theorem ww_baldS (hX : aK l0 X cc nL own rt d mc ms) {n : Nat} {i : Int} (hn : n < 13) (h0 : 0 ≤ i) (h1 : i < (strLen.getD n 0 : Nat)) (hl9 : strLen.getD n 0 < 2147483648) (hd : decode cc pc = .ok (.baload, 1)) (kk : WW X (pc + 1) lv (kI ((strByt.getD n []).getD i.toNat 0).toInt :: st) I J R S uc us) : WW X pc lv (kI i :: kS (100 + n) :: st) I J R S uc us := by
  obtain ⟨p, l, e, Rm, s, m, args, below, meth, c, Q, E⟩ := X
  obtain ⟨hl0, hx, hb, hr, hml, hown, hts, hlocks, hK, hz0, hR, hStr⟩ := hX
  intro H locs ls hP hS hz hl
  have hin := n_in h0 h1 hl9
  refine va_tb hx hb ((hStr.2.1.1 n hn).2.2.2) hS hin.1 rfl hd ?_
  have kk := kk H locs ls hP hS hz hl
  simp only [List.map_cons, aC_I, n_of] at kk
  rw [hin.2]
  exact kk
theorem ww_gcs (hX : aK l0 X cc nL own rt d mc ms) {idx : Nat} (h1 : Cond.fieldLink own idx "java/lang/String" "COMPACT_STRINGS" "Z" ∈ aTb) (hd : decode cc pc = .ok (.getstatic idx, 3)) (kk : WW X (pc + 3) lv (kI 1 :: st) I J R S uc us) : WW X pc lv st I J R S uc us := by
  obtain ⟨p, l, e, Rm, s, m, args, below, meth, c, Q, E⟩ := X
  obtain ⟨hl0, hx, hb, hr, hml, hown, hts, hlocks, hK, hz0, hR, hStr⟩ := hX
  intro H locs ls hP hS hz hl
  exact va_gets hx hb hStr.2.2.1 hS hown (hts _ h1) (fun _ h => h) hd (kk H locs ls hP hS hz hl)
theorem ww_gfm (hX : aK l0 X cc nL own rt d mc ms) {idx : Nat} (h1 : Cond.fieldLink own idx "jdk/internal/util/Preconditions" "SIOOBE_FORMATTER" "Ljava/util/function/BiFunction;" ∈ aTb) (hd : decode cc pc = .ok (.getstatic idx, 3)) (kn : WW X (pc + 3) lv (kR none :: st) I J R S uc us) (kk : WW X (pc + 3) lv (kS 200 :: st) I J R S uc us) : WW X pc lv st I J R S uc us := by
  obtain ⟨p, l, e, Rm, s, m, args, below, meth, c, Q, E⟩ := X
  obtain ⟨hl0, hx, hb, hr, hml, hown, hts, hlocks, hK, hz0, hR, hStr⟩ := hX
  intro H locs ls hP hS hz hl
  rcases hStr.2.2.2.1 with h | h
  · exact va_gets hx hb h hS hown (hts _ h1) (fun _ h => h) hd (kn H locs ls hP hS hz hl)
  · exact va_gets hx hb h hS hown (hts _ h1) (fun _ h => h) hd (kk H locs ls hP hS hz hl)
theorem ww_i2c (hX : aK l0 X cc nL own rt d mc ms) {a : Int} (hd : decode cc pc = .ok (.i2c, 1)) (k : WW X (pc + 1) lv (kI (i_c a) :: st) I J R S uc us) : WW X pc lv (kI a :: st) I J R S uc us := by
  obtain ⟨p, l, e, Rm, s, m, args, below, meth, c, Q, E⟩ := X
  obtain ⟨hl0, hx, hb, hr, hml, hown, hts, hlocks, hK, hz0, hR, hStr⟩ := hX
  intro H locs ls hP hS hz hl
  refine lv_i2c (v := Int32.ofInt (i_c a)) hx hb hd ?_ (k H locs ls hP hS hz hl)
  rw [i_c, n_of]
theorem ww_callX (hX : aK l0 X cc nL own rt d mc ms) {idx b : Nat} {M : aM} {n d' mc' ms' : Nat} {av : List aV} (hsi : aSX own idx M n) (hb9 : b < 13) (hM : CT l0 d' mc' ms' M (kS b :: av) I J R S post) (hav : av.length = n) (hd1 : d' + 1 ≤ d) (hc : uc + mc' ≤ mc) (hs : us + ms' ≤ ms) (hcat : aCat st ≤ 8) (hd : decode cc pc = .ok (.invokevirtual idx, 3)) (kk : ∀ r I' J' R' S', post r I' J' R' S' → WW X (pc + 3) lv (r.toList ++ st) I' J' R' S' (uc + mc') (us + ms')) : WW X pc lv (av.reverse ++ kS b :: st) I J R S uc us := by
  obtain ⟨p, l, e, Rm, s, m, args, below, meth, c, Q, E⟩ := X
  obtain ⟨hl0, hx, hb, hr, hml, hown, hts, hlocks, hK, hz0, hR, hStr⟩ := hX
  intro H locs ls hP hS hz hl
  obtain ⟨⟨s1, s2, s3, s4, s5⟩, s6, s7, s8⟩ := hsi
  subst hl0
  have hlr : 8 + (M.2.2.1 + 11) + 64 * d' ≤ Rm.locals := by have := hR.2.1; omega
  have hfr : d' + 1 ≤ Rm.frames := by have := hR.1; omega
  rw [List.map_append, List.map_reverse, List.map_cons]
  have hrc := vk_recv (i := b) hStr.2.1 hb9 hS
  rw [← s8] at hrc
  exact ww_back (va_runV (As := av.map (aC E)) (rest := st.map (aC E)) (y := M.1) (ws := aWs M.1 M.2.1 M.2.2.1 M.2.2.2) ⟨hx, hb, hml, hown, hts⟩ (hM E)
    ⟨callB_of (bytes := M.2.1) (maxL := M.2.2.1) (ret := M.2.2.2) n hts (aTb_ws s1) rfl rfl rfl (hts _ s3) (hts _ s2) s4 ⟨hfr, hlr⟩, hts _ s6, hts _ s7⟩
    ⟨aPre_blind, hrc, (fun U hU hW => ⟨rfl, by rw [hU]; exact hP, by rw [hU]; exact hz, va_K.moved hW.alike hK, aStr_to hStr hW hS hU⟩)⟩ rfl (by simpa using hav) (by rw [← hml]; exact hl.1) rfl (lv_room (by rw [aCat_eq]; exact hcat)) hd ⟨by rw [hR.2.2.1]; exact hc, by rw [hR.2.2.2]; exact hs⟩) hS hl kk
theorem xI0 (hX : aK l0 X cc nL own rt d mc ms) {idx b d' : Nat} {M : aM} {p : Int → aI1 → aI1 → Prop} (hsi : aSX own idx M 0) (hb9 : b < 13) (hM : CT l0 d' 0 0 M [kS b] I J R S (cI p R S)) (hd1 : d' + 1 ≤ d) (hc : uc ≤ mc) (hs : us ≤ ms) (hcat : aCat st ≤ 8) (hd : decode cc pc = .ok (.invokevirtual idx, 3)) (kk : ∀ x I' J', p x I' J' → WW X (pc + 3) lv (kI x :: st) I' J' R S uc us) : WW X pc lv (kS b :: st) I J R S uc us :=
  ww_callX hX (av := []) hsi hb9 hM rfl hd1 hc hs hcat hd (fun r I' J' R' S' h => by obtain ⟨x, rfl, rfl, rfl, h⟩ := h; exact kk x I' J' h)
theorem xI1 (hX : aK l0 X cc nL own rt d mc ms) {idx b d' : Nat} {M : aM} {a1 : aV} {p : Int → aI1 → aI1 → Prop} (hsi : aSX own idx M 1) (hb9 : b < 13) (hM : CT l0 d' 0 0 M [kS b, a1] I J R S (cI p R S)) (hd1 : d' + 1 ≤ d) (hc : uc ≤ mc) (hs : us ≤ ms) (hcat : aCat st ≤ 8) (hd : decode cc pc = .ok (.invokevirtual idx, 3)) (kk : ∀ x I' J', p x I' J' → WW X (pc + 3) lv (kI x :: st) I' J' R S uc us) : WW X pc lv (a1 :: kS b :: st) I J R S uc us :=
  ww_callX hX (av := [a1]) hsi hb9 hM rfl hd1 hc hs hcat hd (fun r I' J' R' S' h => by obtain ⟨x, rfl, rfl, rfl, h⟩ := h; exact kk x I' J' h)
theorem rB (hX : aK l0 X cc nL own (some .byte) d mc ms) {pq : Int → aI1 → aI1 → Prop} (hT : aT X (cI pq R S) mc ms) {x : Int} (hc : uc ≤ mc) (hs : us ≤ ms) (hd : decode cc pc = .ok (.ireturn, 1)) (hnw : narrow .byte (.int (Int32.ofInt x)) = .int (Int32.ofInt x)) (hp : pq x I J) : WW X pc lv [kI x] I J R S uc us := by
  obtain ⟨p, l, e, Rm, s, m, args, below, meth, c, Q, E⟩ := X
  obtain ⟨hl0, hx, hb, hr, hml, hown, hts, hlocks, hK, hz0, hR, hStr⟩ := hX
  have hQ : Q = MQ below (aQ E (cI pq R S)) args s mc ms (fun q => E.1 ≤ q) := hT
  subst hQ
  intro H locs ls hP hS hz hl
  refine W.widen hc hs ?_
  exact W.zret (v := Int32.ofInt x) hx hb hr hnw (fun t ht hW => ⟨⟨some (kI x), I, J, R, S, rfl, ⟨x, rfl, rfl, rfl, hp⟩, by rw [ht]; exact hP, by rw [ht]; exact hz⟩, hS.F ht⟩) hS.2.2 hd hlocks
theorem rC (hX : aK l0 X cc nL own (some .char) d mc ms) {pq : Int → aI1 → aI1 → Prop} (hT : aT X (cI pq R S) mc ms) {x : Int} (hc : uc ≤ mc) (hs : us ≤ ms) (hd : decode cc pc = .ok (.ireturn, 1)) (hnw : narrow .char (.int (Int32.ofInt x)) = .int (Int32.ofInt x)) (hp : pq x I J) : WW X pc lv [kI x] I J R S uc us := by
  obtain ⟨p, l, e, Rm, s, m, args, below, meth, c, Q, E⟩ := X
  obtain ⟨hl0, hx, hb, hr, hml, hown, hts, hlocks, hK, hz0, hR, hStr⟩ := hX
  have hQ : Q = MQ below (aQ E (cI pq R S)) args s mc ms (fun q => E.1 ≤ q) := hT
  subst hQ
  intro H locs ls hP hS hz hl
  refine W.widen hc hs ?_
  exact W.zret (v := Int32.ofInt x) hx hb hr hnw (fun t ht hW => ⟨⟨some (kI x), I, J, R, S, rfl, ⟨x, rfl, rfl, rfl, hp⟩, by rw [ht]; exact hP, by rw [ht]; exact hz⟩, hS.F ht⟩) hS.2.2 hd hlocks
end WST
theorem i_c_nar (a : Int) : narrow .char (.int (Int32.ofInt (i_c a))) = .int (Int32.ofInt (i_c a)) := by
  rw [i_c, n_of]
  exact pk_nc _
theorem pn_J0 : plainName yJ0_length_8abf5.cls = true := by decide +kernel
theorem pn_J1 : plainName yJ1_charAt_3b067.cls = true := by decide +kernel
theorem pn_J3 : plainName yJ3_checkIndex_8e157.cls = true := by decide +kernel
/-- the letter at a place of a String constant -/
def chS (n : Nat) (i : Int) : Int := i_c (i_and ((strByt.getD n []).getD i.toNat 0).toInt 255)
theorem strLen_r {n : Nat} (h : n < 13) : 2 ≤ strLen.getD n 0 ∧ strLen.getD n 0 ≤ 5 := by
  have : ∀ n : Fin 13, 2 ≤ strLen.getD n.val 0 ∧ strLen.getD n.val 0 ≤ 5 := by decide
  exact this ⟨n, h⟩
end
section
theorem bc_r {a : Int} (h0 : 0 ≤ a) (h1 : a < 256) : 0 ≤ bc a ∧ bc a ≤ 8 := by
  have h : ∀ n : Fin 256, 0 ≤ bc ((n.val : Nat) : Int) ∧ bc ((n.val : Nat) : Int) ≤ 8 := by decide +kernel
  have := h ⟨a.toNat, by omega⟩
  rwa [show ((a.toNat : Nat) : Int) = a by omega] at this
set_option maxHeartbeats 4000000 in
set_option maxRecDepth 20000 in
theorem c_J6_bitCount_0f7a4 (l0 : Launch) {Ia Ja : aI1} {Ra : aR1} {Sa : aS1} {a : Int}  : CT l0 0 0 0 mJ6_bitCount_0f7a4 [kI a] Ia Ja Ra Sa (cI (fun x I' J' => Ia = I' ∧ Ja = J' ∧ x = bc a) Ra Sa) := by
  refine ct_in pn_J6 (Nat.le_of_ble_eq_true rfl) (fun X hX hT hIn => ?_)
  have hX : aK l0 X cJ6_bitCount_0f7a4 1 RJ6 (some .int) 0 0 0 := hX
  change WW X 0 [some (kI a)] [] Ia Ja Ra Sa 0 0
  refine ww_iload_n hX (pc := 0) dJ6_bitCount_0f7a4_0 rfl ?_
  refine ww_iload_n hX (pc := 1) dJ6_bitCount_0f7a4_1 rfl ?_
  refine ww_iconst hX (pc := 2) (x := 1) dJ6_bitCount_0f7a4_2 rfl ?_
  refine ww_iushr hX (pc := 3) dJ6_bitCount_0f7a4_3 ?_
  refine ww_ldcw hX (pc := 4) (x := 1431655765) dJ6_bitCount_0f7a4_4 tb_701 ?_
  refine ww_iand hX (pc := 7) dJ6_bitCount_0f7a4_7 ?_
  refine ww_isub hX (pc := 8) dJ6_bitCount_0f7a4_8 ?_
  refine ww_nmI (fun v_9 hv_9 => ?_)
  refine ww_istore_n hX (pc := 9) (lv' := [some (kI v_9)]) dJ6_bitCount_0f7a4_9 (by decide) rfl rfl ?_
  refine ww_iload_n hX (pc := 10) dJ6_bitCount_0f7a4_10 rfl ?_
  refine ww_ldcw hX (pc := 11) (x := 858993459) dJ6_bitCount_0f7a4_11 tb_702 ?_
  refine ww_iand hX (pc := 14) dJ6_bitCount_0f7a4_14 ?_
  refine ww_iload_n hX (pc := 15) dJ6_bitCount_0f7a4_15 rfl ?_
  refine ww_iconst hX (pc := 16) (x := 2) dJ6_bitCount_0f7a4_16 rfl ?_
  refine ww_iushr hX (pc := 17) dJ6_bitCount_0f7a4_17 ?_
  refine ww_ldcw hX (pc := 18) (x := 858993459) dJ6_bitCount_0f7a4_18 tb_702 ?_
  refine ww_iand hX (pc := 21) dJ6_bitCount_0f7a4_21 ?_
  refine ww_iadd hX (pc := 22) dJ6_bitCount_0f7a4_22 ?_
  refine ww_nmI (fun v_23 hv_23 => ?_)
  refine ww_istore_n hX (pc := 23) (lv' := [some (kI v_23)]) dJ6_bitCount_0f7a4_23 (by decide) rfl rfl ?_
  refine ww_iload_n hX (pc := 24) dJ6_bitCount_0f7a4_24 rfl ?_
  refine ww_iload_n hX (pc := 25) dJ6_bitCount_0f7a4_25 rfl ?_
  refine ww_iconst hX (pc := 26) (x := 4) dJ6_bitCount_0f7a4_26 rfl ?_
  refine ww_iushr hX (pc := 27) dJ6_bitCount_0f7a4_27 ?_
  refine ww_iadd hX (pc := 28) dJ6_bitCount_0f7a4_28 ?_
  refine ww_ldcw hX (pc := 29) (x := 252645135) dJ6_bitCount_0f7a4_29 tb_703 ?_
  refine ww_iand hX (pc := 32) dJ6_bitCount_0f7a4_32 ?_
  refine ww_nmI (fun v_33 hv_33 => ?_)
  refine ww_istore_n hX (pc := 33) (lv' := [some (kI v_33)]) dJ6_bitCount_0f7a4_33 (by decide) rfl rfl ?_
  refine ww_iload_n hX (pc := 34) dJ6_bitCount_0f7a4_34 rfl ?_
  refine ww_iload_n hX (pc := 35) dJ6_bitCount_0f7a4_35 rfl ?_
  refine ww_bipush hX (pc := 36) (x := 8) dJ6_bitCount_0f7a4_36 (by decide) ?_
  refine ww_iushr hX (pc := 38) dJ6_bitCount_0f7a4_38 ?_
  refine ww_iadd hX (pc := 39) dJ6_bitCount_0f7a4_39 ?_
  refine ww_nmI (fun v_40 hv_40 => ?_)
  refine ww_istore_n hX (pc := 40) (lv' := [some (kI v_40)]) dJ6_bitCount_0f7a4_40 (by decide) rfl rfl ?_
  refine ww_iload_n hX (pc := 41) dJ6_bitCount_0f7a4_41 rfl ?_
  refine ww_iload_n hX (pc := 42) dJ6_bitCount_0f7a4_42 rfl ?_
  refine ww_bipush hX (pc := 43) (x := 16) dJ6_bitCount_0f7a4_43 (by decide) ?_
  refine ww_iushr hX (pc := 45) dJ6_bitCount_0f7a4_45 ?_
  refine ww_iadd hX (pc := 46) dJ6_bitCount_0f7a4_46 ?_
  refine ww_nmI (fun v_47 hv_47 => ?_)
  refine ww_istore_n hX (pc := 47) (lv' := [some (kI v_47)]) dJ6_bitCount_0f7a4_47 (by decide) rfl rfl ?_
  refine ww_iload_n hX (pc := 48) dJ6_bitCount_0f7a4_48 rfl ?_
  refine ww_bipush hX (pc := 49) (x := 63) dJ6_bitCount_0f7a4_49 (by decide) ?_
  refine ww_iand hX (pc := 51) dJ6_bitCount_0f7a4_51 ?_
  refine rI hX (pc := 52) hT (Nat.le_refl 0) (Nat.le_refl 0) dJ6_bitCount_0f7a4_52 ?_
  exact ⟨rfl, rfl, by subst_vars; rfl⟩
set_option maxHeartbeats 4000000 in
set_option maxRecDepth 20000 in
theorem c_J7_fill_53178 (l0 : Launch) {Ia Ja : aI1} {Ra : aR1} {Sa : aS1} {k n : Nat} {v : Int} (hs : Sa[k]? = some (0, n)) (hn : n < 2147483648)  : CT l0 0 0 0 mJ7_fill_53178 [kR (some k), kI v] Ia Ja Ra Sa (cV (fun I' J' => Ja = J' ∧ I' = upR Ia k (fun j => if j < n then v else Ia k j)) Ra Sa) := by
  refine ct_in pn_J7 (Nat.le_of_ble_eq_true rfl) (fun X hX hT hIn => ?_)
  have hX : aK l0 X cJ7_fill_53178 4 RJ7 none 0 0 0 := hX
  change WW X 0 [some (kR (some k)), some (kI v), none, none] [] Ia Ja Ra Sa 0 0
  refine ww_iconst hX (pc := 0) (x := 0) dJ7_fill_53178_0 rfl ?_
  refine ww_istore_n hX (pc := 1) (lv' := [some (kR (some k)), some (kI v), some (kI 0), none]) dJ7_fill_53178_1 (by decide) rfl rfl ?_
  refine ww_aload_n hX (pc := 2) dJ7_fill_53178_2 rfl ?_
  refine ww_alen hX (pc := 3) (by decide) hs dJ7_fill_53178_3 ?_
  refine ww_nmI (fun v_4 hv_4 => ?_)
  refine ww_istore_n hX (pc := 4) (lv' := [some (kR (some k)), some (kI v), some (kI 0), some (kI v_4)]) dJ7_fill_53178_4 (by decide) rfl rfl ?_
  have hl_5 : ∀ (n_5 : Nat) (i : Int) (I2 : aI1), ((n : Int) - i).toNat = n_5 → (0 ≤ i ∧ i ≤ n ∧ I2 = upR Ia k (fun j => if (j : Int) < i then v else Ia k j)) → WW X 5 [some (kR (some k)), some (kI v), some (kI i), some (kI v_4)] [] I2 Ja Ra Sa 0 0 := by
    intro n_5
    induction n_5 using Nat.strongRecOn with
    | ind n_5 ih_5 =>
      intro i I2 hm_5 hv_5
      have hq_5 := Sh0_i hm_5
      clear hm_5
      obtain ⟨hi0, hi1, hI2⟩ := hv_5
      refine ww_iload_n hX (pc := 5) dJ7_fill_53178_5 rfl ?_
      refine ww_iload_n hX (pc := 6) dJ7_fill_53178_6 rfl ?_
      refine ww_icmp_ge hX (pc := 7) (tgt := 20) dJ7_fill_53178_7 (by decide) (fun h_7 => ?_) (fun h_7 => ?_)
      · simp only [w32_mod] at h_7
        refine rV hX (pc := 20) hT (Nat.le_refl 0) (Nat.le_refl 0) dJ7_fill_53178_20 ?_
        exact ⟨rfl, by rw [hI2]; exact fill_end (by omega)⟩
      · simp only [w32_mod] at h_7
        refine ww_aload_n hX (pc := 10) dJ7_fill_53178_10 rfl ?_
        refine ww_iload_n hX (pc := 11) dJ7_fill_53178_11 rfl ?_
        refine ww_iload_n hX (pc := 12) dJ7_fill_53178_12 rfl ?_
        refine ww_iast hX (pc := 13) hs (by omega) (by omega) (by omega) dJ7_fill_53178_13 ?_
        refine ww_nmH (fun I_13 eI_13 => ?_)
        refine ww_iinc hX (pc := 14) (lv' := [some (kR (some k)), some (kI v), some (kI (i + 1)), some (kI v_4)]) dJ7_fill_53178_14 rfl (by decide) rfl rfl ?_
        refine ww_goto hX (pc := 17) (tgt := 5) dJ7_fill_53178_17 (by decide) ?_
        exact ih_5 _ (by have hm9 := Sh0_e hq_5; omega) (i + 1) I_13 rfl ⟨by omega, by omega, by rw [eI_13, hI2]; exact fill_step hi0⟩
  exact hl_5 _ 0 Ia rfl ⟨by omega, by omega, fill_0⟩
set_option maxHeartbeats 4000000 in
set_option maxRecDepth 20000 in
theorem c_J7_fill_d0a16 (l0 : Launch) {Ia Ja : aI1} {Ra : aR1} {Sa : aS1} {k n : Nat} {v : Int} (hs : Sa[k]? = some (1, n)) (hn : n < 2147483648)  : CT l0 0 0 0 mJ7_fill_d0a16 [kR (some k), kL v] Ia Ja Ra Sa (cV (fun I' J' => Ia = I' ∧ J' = upR Ja k (fun j => if j < n then v else Ja k j)) Ra Sa) := by
  refine ct_in pn_J7 (Nat.le_of_ble_eq_true rfl) (fun X hX hT hIn => ?_)
  have hX : aK l0 X cJ7_fill_d0a16 5 RJ7 none 0 0 0 := hX
  change WW X 0 [some (kR (some k)), some (kL v), none, none, none] [] Ia Ja Ra Sa 0 0
  refine ww_iconst hX (pc := 0) (x := 0) dJ7_fill_d0a16_0 rfl ?_
  refine ww_istore_n hX (pc := 1) (lv' := [some (kR (some k)), some (kL v), none, some (kI 0), none]) dJ7_fill_d0a16_1 (by decide) rfl rfl ?_
  refine ww_aload_n hX (pc := 2) dJ7_fill_d0a16_2 rfl ?_
  refine ww_alen hX (pc := 3) (by decide) hs dJ7_fill_d0a16_3 ?_
  refine ww_nmI (fun v_4 hv_4 => ?_)
  refine ww_istore hX (pc := 4) (lv' := [some (kR (some k)), some (kL v), none, some (kI 0), some (kI v_4)]) dJ7_fill_d0a16_4 (by decide) rfl rfl ?_
  have hl_6 : ∀ (n_6 : Nat) (i : Int) (J2 : aI1), ((n : Int) - i).toNat = n_6 → (0 ≤ i ∧ i ≤ n ∧ J2 = upR Ja k (fun j => if (j : Int) < i then v else Ja k j)) → WW X 6 [some (kR (some k)), some (kL v), none, some (kI i), some (kI v_4)] [] Ia J2 Ra Sa 0 0 := by
    intro n_6
    induction n_6 using Nat.strongRecOn with
    | ind n_6 ih_6 =>
      intro i J2 hm_6 hv_6
      have hq_6 := Sh0_i hm_6
      clear hm_6
      obtain ⟨hi0, hi1, hI2⟩ := hv_6
      refine ww_iload_n hX (pc := 6) dJ7_fill_d0a16_6 rfl ?_
      refine ww_iload hX (pc := 7) dJ7_fill_d0a16_7 rfl ?_
      refine ww_icmp_ge hX (pc := 9) (tgt := 22) dJ7_fill_d0a16_9 (by decide) (fun h_9 => ?_) (fun h_9 => ?_)
      · simp only [w32_mod] at h_9
        refine rV hX (pc := 22) hT (Nat.le_refl 0) (Nat.le_refl 0) dJ7_fill_d0a16_22 ?_
        exact ⟨rfl, by rw [hI2]; exact fill_end (by omega)⟩
      · simp only [w32_mod] at h_9
        refine ww_aload_n hX (pc := 12) dJ7_fill_d0a16_12 rfl ?_
        refine ww_iload_n hX (pc := 13) dJ7_fill_d0a16_13 rfl ?_
        refine ww_lload_n hX (pc := 14) dJ7_fill_d0a16_14 rfl ?_
        refine ww_last hX (pc := 15) hs (by omega) (by omega) (by omega) dJ7_fill_d0a16_15 ?_
        refine ww_nmK (fun J_15 eJ_15 => ?_)
        refine ww_iinc hX (pc := 16) (lv' := [some (kR (some k)), some (kL v), none, some (kI (i + 1)), some (kI v_4)]) dJ7_fill_d0a16_16 rfl (by decide) rfl rfl ?_
        refine ww_goto hX (pc := 19) (tgt := 6) dJ7_fill_d0a16_19 (by decide) ?_
        exact ih_6 _ (by have hm9 := Sh0_e hq_6; omega) (i + 1) J_15 rfl ⟨by omega, by omega, by rw [eJ_15, hI2]; exact fill_step hi0⟩
  exact hl_6 _ 0 Ja rfl ⟨by omega, by omega, fill_0⟩
set_option maxHeartbeats 4000000 in
set_option maxRecDepth 20000 in
theorem c_J7_rangeCheck_23922 (l0 : Launch) {Ia Ja : aI1} {Ra : aR1} {Sa : aS1} {a b c : Int} (h1 : 0 ≤ b) (h2 : b ≤ c) (h3 : c ≤ a) (h4 : a < 2147483648)  : CT l0 0 0 0 mJ7_rangeCheck_23922 [kI a, kI b, kI c] Ia Ja Ra Sa (cV (fun I' J' => Ia = I' ∧ Ja = J') Ra Sa) := by
  refine ct_in pn_J7 (Nat.le_of_ble_eq_true rfl) (fun X hX hT hIn => ?_)
  have hX : aK l0 X cJ7_rangeCheck_23922 3 RJ7 none 0 0 0 := hX
  change WW X 0 [some (kI a), some (kI b), some (kI c)] [] Ia Ja Ra Sa 0 0
  refine ww_iload_n hX (pc := 0) dJ7_rangeCheck_23922_0 rfl ?_
  refine ww_iload_n hX (pc := 1) dJ7_rangeCheck_23922_1 rfl ?_
  refine ww_icmp_le hX (pc := 2) (tgt := 46) dJ7_rangeCheck_23922_2 (by decide) (fun h_2 => ?_) (fun h_2 => ?_)
  · simp only [w32_mod] at h_2
    refine ww_iload_n hX (pc := 46) dJ7_rangeCheck_23922_46 rfl ?_
    refine ww_if_ge hX (pc := 47) (tgt := 59) dJ7_rangeCheck_23922_47 (by decide) (fun h_47 => ?_) (fun h_47 => ?_)
    · simp only [w32_mod] at h_47
      refine ww_iload_n hX (pc := 59) dJ7_rangeCheck_23922_59 rfl ?_
      refine ww_iload_n hX (pc := 60) dJ7_rangeCheck_23922_60 rfl ?_
      refine ww_icmp_le hX (pc := 61) (tgt := 73) dJ7_rangeCheck_23922_61 (by decide) (fun h_61 => ?_) (fun h_61 => ?_)
      · simp only [w32_mod] at h_61
        refine rV hX (pc := 73) hT (Nat.le_refl 0) (Nat.le_refl 0) dJ7_rangeCheck_23922_73 ?_
        exact ⟨rfl, rfl⟩
      · simp only [w32_mod] at h_61
        exfalso
        omega
    · simp only [w32_mod] at h_47
      exfalso
      omega
  · simp only [w32_mod] at h_2
    exfalso
    omega
set_option maxHeartbeats 4000000 in
set_option maxRecDepth 20000 in
theorem c_J7_fill_bad5a (l0 : Launch) {Ia Ja : aI1} {Ra : aR1} {Sa : aS1} {k n : Nat} {v a b : Int} (hs : Sa[k]? = some (1, n)) (hn : n < 2147483648) (h1 : 0 ≤ a) (h2 : a ≤ b) (h3 : b ≤ n)  : CT l0 1 0 0 mJ7_fill_bad5a [kR (some k), kI a, kI b, kL v] Ia Ja Ra Sa (cV (fun I' J' => Ia = I' ∧ J' = upR Ja k (fun j => if a ≤ (j : Int) ∧ (j : Int) < b then v else Ja k j)) Ra Sa) := by
  refine ct_in pn_J7 (Nat.le_of_ble_eq_true rfl) (fun X hX hT hIn => ?_)
  have hX : aK l0 X cJ7_fill_bad5a 6 RJ7 none 1 0 0 := hX
  change WW X 0 [some (kR (some k)), some (kI a), some (kI b), some (kL v), none, none] [] Ia Ja Ra Sa 0 0
  refine ww_aload_n hX (pc := 0) dJ7_fill_bad5a_0 rfl ?_
  refine ww_alen hX (pc := 1) (by decide) hs dJ7_fill_bad5a_1 ?_
  refine ww_iload_n hX (pc := 2) dJ7_fill_bad5a_2 rfl ?_
  refine ww_iload_n hX (pc := 3) dJ7_fill_bad5a_3 rfl ?_
  refine sV3 hX (pc := 4) sJ7_13 (c_J7_rangeCheck_23922 l0 (by omega) (by omega) (by omega) (by omega)) (by decide) (Nat.le_refl 0) (Nat.le_refl 0) (Nat.le_of_ble_eq_true rfl) dJ7_fill_bad5a_4 (fun I_4 J_4 h_4 => ?_)
  obtain ⟨rfl, rfl⟩ := h_4
  refine ww_iload_n hX (pc := 7) dJ7_fill_bad5a_7 rfl ?_
  refine ww_istore hX (pc := 8) (lv' := [some (kR (some k)), some (kI a), some (kI b), some (kL v), none, some (kI a)]) dJ7_fill_bad5a_8 (by decide) rfl rfl ?_
  have hl_10 : ∀ (n_10 : Nat) (i : Int) (J2 : aI1), (b - i).toNat = n_10 → (a ≤ i ∧ i ≤ b ∧ J2 = upR Ja k (fun j => if a ≤ (j : Int) ∧ (j : Int) < i then v else Ja k j)) → WW X 10 [some (kR (some k)), some (kI a), some (kI b), some (kL v), none, some (kI i)] [] Ia J2 Ra Sa 0 0 := by
    intro n_10
    induction n_10 using Nat.strongRecOn with
    | ind n_10 ih_10 =>
      intro i J2 hm_10 hv_10
      have hq_10 := Sh0_i hm_10
      clear hm_10
      obtain ⟨hi0, hi1, hI2⟩ := hv_10
      refine ww_iload hX (pc := 10) dJ7_fill_bad5a_10 rfl ?_
      refine ww_iload_n hX (pc := 12) dJ7_fill_bad5a_12 rfl ?_
      refine ww_icmp_ge hX (pc := 13) (tgt := 27) dJ7_fill_bad5a_13 (by decide) (fun h_13 => ?_) (fun h_13 => ?_)
      · simp only [w32_mod] at h_13
        refine rV hX (pc := 27) hT (Nat.le_refl 0) (Nat.le_refl 0) dJ7_fill_bad5a_27 ?_
        exact ⟨rfl, by rw [hI2, show i = b by omega]⟩
      · simp only [w32_mod] at h_13
        refine ww_aload_n hX (pc := 16) dJ7_fill_bad5a_16 rfl ?_
        refine ww_iload hX (pc := 17) dJ7_fill_bad5a_17 rfl ?_
        refine ww_lload_n hX (pc := 19) dJ7_fill_bad5a_19 rfl ?_
        refine ww_last hX (pc := 20) hs (by omega) (by omega) (by omega) dJ7_fill_bad5a_20 ?_
        refine ww_nmK (fun J_20 eJ_20 => ?_)
        refine ww_iinc hX (pc := 21) (lv' := [some (kR (some k)), some (kI a), some (kI b), some (kL v), none, some (kI (i + 1))]) dJ7_fill_bad5a_21 rfl (by decide) rfl rfl ?_
        refine ww_goto hX (pc := 24) (tgt := 10) dJ7_fill_bad5a_24 (by decide) ?_
        exact ih_10 _ (by have hm9 := Sh0_e hq_10; omega) (i + 1) J_20 rfl ⟨by omega, by omega, by rw [eJ_20, hI2]; exact fill_stepF h1 hi0⟩
  exact hl_10 _ a Ja rfl ⟨by omega, by omega, fill_0F⟩
set_option maxHeartbeats 4000000 in
set_option maxRecDepth 20000 in
theorem c_J0_coder_7d493 (l0 : Launch) {Ia Ja : aI1} {Ra : aR1} {Sa : aS1} {n : Nat} (hn : n < 13)  : CT l0 0 0 0 mJ0_coder_7d493 [kS n] Ia Ja Ra Sa (cI (fun x I' J' => Ia = I' ∧ Ja = J' ∧ x = 0) Ra Sa) := by
  refine ct_in pn_J0 (Nat.le_of_ble_eq_true rfl) (fun X hX hT hIn => ?_)
  have hX : aK l0 X cJ0_coder_7d493 1 RJ0 (some .byte) 0 0 0 := hX
  change WW X 0 [some (kS n)] [] Ia Ja Ra Sa 0 0
  refine ww_gcs hX (pc := 0) tb_518 dJ0_coder_7d493_0 ?_
  refine ww_if_eq hX (pc := 3) (tgt := 13) dJ0_coder_7d493_3 (by decide) (fun h_3 => ?_) (fun h_3 => ?_)
  · simp only [w32_mod] at h_3
    exfalso
    revert h_3
    decide
  · simp only [w32_mod] at h_3
    refine ww_aload_nS hX (pc := 6) dJ0_coder_7d493_6 rfl ?_
    refine ww_getSc hX (pc := 7) hn tb_1631 dJ0_coder_7d493_7 ?_
    refine ww_goto hX (pc := 10) (tgt := 14) dJ0_coder_7d493_10 (by decide) ?_
    refine rB hX (pc := 14) hT (Nat.le_refl 0) (Nat.le_refl 0) dJ0_coder_7d493_14 rfl ?_
    exact ⟨rfl, rfl, rfl⟩
set_option maxHeartbeats 4000000 in
set_option maxRecDepth 20000 in
theorem c_J0_isLatin1_aae02 (l0 : Launch) {Ia Ja : aI1} {Ra : aR1} {Sa : aS1} {n : Nat} (hn : n < 13)  : CT l0 0 0 0 mJ0_isLatin1_aae02 [kS n] Ia Ja Ra Sa (cI (fun x I' J' => Ia = I' ∧ Ja = J' ∧ x = 1) Ra Sa) := by
  refine ct_in pn_J0 (Nat.le_of_ble_eq_true rfl) (fun X hX hT hIn => ?_)
  have hX : aK l0 X cJ0_isLatin1_aae02 1 RJ0 (some .boolean) 0 0 0 := hX
  change WW X 0 [some (kS n)] [] Ia Ja Ra Sa 0 0
  refine ww_gcs hX (pc := 0) tb_518 dJ0_isLatin1_aae02_0 ?_
  refine ww_if_eq hX (pc := 3) (tgt := 17) dJ0_isLatin1_aae02_3 (by decide) (fun h_3 => ?_) (fun h_3 => ?_)
  · simp only [w32_mod] at h_3
    exfalso
    revert h_3
    decide
  · simp only [w32_mod] at h_3
    refine ww_aload_nS hX (pc := 6) dJ0_isLatin1_aae02_6 rfl ?_
    refine ww_getSc hX (pc := 7) hn tb_1631 dJ0_isLatin1_aae02_7 ?_
    refine ww_if_ne hX (pc := 10) (tgt := 17) dJ0_isLatin1_aae02_10 (by decide) (fun h_10 => ?_) (fun h_10 => ?_)
    · simp only [w32_mod] at h_10
      exfalso
      revert h_10
      decide
    · simp only [w32_mod] at h_10
      refine ww_iconst hX (pc := 13) (x := 1) dJ0_isLatin1_aae02_13 rfl ?_
      refine ww_goto hX (pc := 14) (tgt := 18) dJ0_isLatin1_aae02_14 (by decide) ?_
      refine rZ hX (pc := 18) hT (Nat.le_refl 0) (Nat.le_refl 0) dJ0_isLatin1_aae02_18 (by decide) ?_
      exact ⟨rfl, rfl, rfl⟩
set_option maxHeartbeats 4000000 in
set_option maxRecDepth 20000 in
theorem c_J0_length_8abf5 (l0 : Launch) {Ia Ja : aI1} {Ra : aR1} {Sa : aS1} {n : Nat} (hn : n < 13)  : CT l0 1 0 0 mJ0_length_8abf5 [kS n] Ia Ja Ra Sa (cI (fun x I' J' => Ia = I' ∧ Ja = J' ∧ x = ((strLen.getD n 0 : Nat) : Int)) Ra Sa) := by
  refine ct_in pn_J0 (Nat.le_of_ble_eq_true rfl) (fun X hX hT hIn => ?_)
  have hX : aK l0 X cJ0_length_8abf5 1 RJ0 (some .int) 1 0 0 := hX
  change WW X 0 [some (kS n)] [] Ia Ja Ra Sa 0 0
  refine ww_aload_nS hX (pc := 0) dJ0_length_8abf5_0 rfl ?_
  refine ww_getSv hX (pc := 1) hn tb_1630 dJ0_length_8abf5_1 ?_
  refine ww_alenS hX (pc := 4) hn dJ0_length_8abf5_4 ?_
  refine ww_aload_nS hX (pc := 5) dJ0_length_8abf5_5 rfl ?_
  refine xI0 hX (pc := 6) sJ0_335 hn (c_J0_coder_7d493 l0 hn) (by decide) (Nat.le_refl 0) (Nat.le_refl 0) (Nat.le_of_ble_eq_true rfl) dJ0_length_8abf5_6 (fun x_6 I_6 J_6 h_6 => ?_)
  obtain ⟨rfl, rfl, h_6⟩ := h_6
  refine ww_ishr hX (pc := 9) dJ0_length_8abf5_9 ?_
  refine rI hX (pc := 10) hT (Nat.le_refl 0) (Nat.le_refl 0) dJ0_length_8abf5_10 ?_
  exact ⟨rfl, rfl, by
    subst h_6
    have h9 := strLen_r hn
    generalize strLen.getD n 0 = q at h9
    rcases (show q = 2 ∨ q = 3 ∨ q = 4 ∨ q = 5 by omega) with rfl | rfl | rfl | rfl <;> decide⟩
set_option maxHeartbeats 4000000 in
set_option maxRecDepth 20000 in
theorem c_J3_checkIndex_a (l0 : Launch) {Ia Ja : aI1} {Ra : aR1} {Sa : aS1} {a b : Int} (h0 : 0 ≤ a) (h1 : a < b) (h2 : b < 2147483648)  : CT l0 0 0 0 mJ3_checkIndex_8e157 [kI a, kI b, kR none] Ia Ja Ra Sa (cI (fun x I' J' => Ia = I' ∧ Ja = J' ∧ True) Ra Sa) := by
  refine ct_in pn_J3 (Nat.le_of_ble_eq_true rfl) (fun X hX hT hIn => ?_)
  have hX : aK l0 X cJ3_checkIndex_8e157 3 RJ3 (some .int) 0 0 0 := hX
  change WW X 0 [some (kI a), some (kI b), some (kR none)] [] Ia Ja Ra Sa 0 0
  refine ww_iload_n hX (pc := 0) dJ3_checkIndex_8e157_0 rfl ?_
  refine ww_if_lt hX (pc := 1) (tgt := 9) dJ3_checkIndex_8e157_1 (by decide) (fun h_1 => ?_) (fun h_1 => ?_)
  · simp only [w32_mod] at h_1
    exfalso
    omega
  · simp only [w32_mod] at h_1
    refine ww_iload_n hX (pc := 4) dJ3_checkIndex_8e157_4 rfl ?_
    refine ww_iload_n hX (pc := 5) dJ3_checkIndex_8e157_5 rfl ?_
    refine ww_icmp_lt hX (pc := 6) (tgt := 16) dJ3_checkIndex_8e157_6 (by decide) (fun h_6 => ?_) (fun h_6 => ?_)
    · simp only [w32_mod] at h_6
      refine ww_iload_n hX (pc := 16) dJ3_checkIndex_8e157_16 rfl ?_
      refine rI hX (pc := 17) hT (Nat.le_refl 0) (Nat.le_refl 0) dJ3_checkIndex_8e157_17 ?_
      exact ⟨rfl, rfl, trivial⟩
    · simp only [w32_mod] at h_6
      exfalso
      omega
set_option maxHeartbeats 4000000 in
set_option maxRecDepth 20000 in
theorem c_J3_checkIndex_b (l0 : Launch) {Ia Ja : aI1} {Ra : aR1} {Sa : aS1} {a b : Int} (h0 : 0 ≤ a) (h1 : a < b) (h2 : b < 2147483648)  : CT l0 0 0 0 mJ3_checkIndex_8e157 [kI a, kI b, kS 200] Ia Ja Ra Sa (cI (fun x I' J' => Ia = I' ∧ Ja = J' ∧ True) Ra Sa) := by
  refine ct_in pn_J3 (Nat.le_of_ble_eq_true rfl) (fun X hX hT hIn => ?_)
  have hX : aK l0 X cJ3_checkIndex_8e157 3 RJ3 (some .int) 0 0 0 := hX
  change WW X 0 [some (kI a), some (kI b), some (kS 200)] [] Ia Ja Ra Sa 0 0
  refine ww_iload_n hX (pc := 0) dJ3_checkIndex_8e157_0 rfl ?_
  refine ww_if_lt hX (pc := 1) (tgt := 9) dJ3_checkIndex_8e157_1 (by decide) (fun h_1 => ?_) (fun h_1 => ?_)
  · simp only [w32_mod] at h_1
    exfalso
    omega
  · simp only [w32_mod] at h_1
    refine ww_iload_n hX (pc := 4) dJ3_checkIndex_8e157_4 rfl ?_
    refine ww_iload_n hX (pc := 5) dJ3_checkIndex_8e157_5 rfl ?_
    refine ww_icmp_lt hX (pc := 6) (tgt := 16) dJ3_checkIndex_8e157_6 (by decide) (fun h_6 => ?_) (fun h_6 => ?_)
    · simp only [w32_mod] at h_6
      refine ww_iload_n hX (pc := 16) dJ3_checkIndex_8e157_16 rfl ?_
      refine rI hX (pc := 17) hT (Nat.le_refl 0) (Nat.le_refl 0) dJ3_checkIndex_8e157_17 ?_
      exact ⟨rfl, rfl, trivial⟩
    · simp only [w32_mod] at h_6
      exfalso
      omega
set_option maxHeartbeats 4000000 in
set_option maxRecDepth 20000 in
theorem c_J0_checkIndex_df160 (l0 : Launch) {Ia Ja : aI1} {Ra : aR1} {Sa : aS1} {a b : Int} (h0 : 0 ≤ a) (h1 : a < b) (h2 : b < 2147483648)  : CT l0 1 0 0 mJ0_checkIndex_df160 [kI a, kI b] Ia Ja Ra Sa (cV (fun I' J' => Ia = I' ∧ Ja = J') Ra Sa) := by
  refine ct_in pn_J0 (Nat.le_of_ble_eq_true rfl) (fun X hX hT hIn => ?_)
  have hX : aK l0 X cJ0_checkIndex_df160 2 RJ0 none 1 0 0 := hX
  change WW X 0 [some (kI a), some (kI b)] [] Ia Ja Ra Sa 0 0
  refine ww_iload_n hX (pc := 0) dJ0_checkIndex_df160_0 rfl ?_
  refine ww_iload_n hX (pc := 1) dJ0_checkIndex_df160_1 rfl ?_
  refine ww_gfm hX (pc := 2) tb_534 dJ0_checkIndex_df160_2 ?_ ?_
  · skip
    refine sI3 hX (pc := 5) sJ0_1059 (c_J3_checkIndex_a l0 (by omega) (by omega) (by omega)) (by decide) (Nat.le_refl 0) (Nat.le_refl 0) (Nat.le_of_ble_eq_true rfl) dJ0_checkIndex_df160_5 (fun x_5 I_5 J_5 h_5 => ?_)
    obtain ⟨rfl, rfl, h_5⟩ := h_5
    refine ww_popI hX (pc := 8) dJ0_checkIndex_df160_8 ?_
    refine rV hX (pc := 9) hT (Nat.le_refl 0) (Nat.le_refl 0) dJ0_checkIndex_df160_9 ?_
    exact ⟨rfl, rfl⟩
  · skip
    refine sI3 hX (pc := 5) sJ0_1059 (c_J3_checkIndex_b l0 (by omega) (by omega) (by omega)) (by decide) (Nat.le_refl 0) (Nat.le_refl 0) (Nat.le_of_ble_eq_true rfl) dJ0_checkIndex_df160_5 (fun x_5 I_5 J_5 h_5 => ?_)
    obtain ⟨rfl, rfl, h_5⟩ := h_5
    refine ww_popI hX (pc := 8) dJ0_checkIndex_df160_8 ?_
    refine rV hX (pc := 9) hT (Nat.le_refl 0) (Nat.le_refl 0) dJ0_checkIndex_df160_9 ?_
    exact ⟨rfl, rfl⟩
set_option maxHeartbeats 4000000 in
set_option maxRecDepth 20000 in
theorem c_J1_charAt_3b067 (l0 : Launch) {Ia Ja : aI1} {Ra : aR1} {Sa : aS1} {n : Nat} {i : Int} (hn : n < 13) (h0 : 0 ≤ i) (h1 : i < (strLen.getD n 0 : Nat))  : CT l0 2 0 0 mJ1_charAt_3b067 [kS (100 + n), kI i] Ia Ja Ra Sa (cI (fun x I' J' => Ia = I' ∧ Ja = J' ∧ x = chS n i) Ra Sa) := by
  refine ct_in pn_J1 (Nat.le_of_ble_eq_true rfl) (fun X hX hT hIn => ?_)
  have hX : aK l0 X cJ1_charAt_3b067 2 RJ1 (some .char) 2 0 0 := hX
  change WW X 0 [some (kS (100 + n)), some (kI i)] [] Ia Ja Ra Sa 0 0
  refine ww_iload_n hX (pc := 0) dJ1_charAt_3b067_0 rfl ?_
  refine ww_aload_nS hX (pc := 1) dJ1_charAt_3b067_1 rfl ?_
  refine ww_alenS hX (pc := 2) hn dJ1_charAt_3b067_2 ?_
  refine sV2 hX (pc := 3) sJ1_9 (c_J0_checkIndex_df160 l0 (by omega) (by omega) (by have := strLen_r hn; omega)) (by decide) (Nat.le_refl 0) (Nat.le_refl 0) (Nat.le_of_ble_eq_true rfl) dJ1_charAt_3b067_3 (fun I_3 J_3 h_3 => ?_)
  obtain ⟨rfl, rfl⟩ := h_3
  refine ww_aload_nS hX (pc := 6) dJ1_charAt_3b067_6 rfl ?_
  refine ww_iload_n hX (pc := 7) dJ1_charAt_3b067_7 rfl ?_
  refine ww_baldS hX (pc := 8) hn (by omega) (by omega) (by have := strLen_r hn; omega) dJ1_charAt_3b067_8 ?_
  refine ww_sipush hX (pc := 9) (x := 255) dJ1_charAt_3b067_9 (by decide) ?_
  refine ww_iand hX (pc := 12) dJ1_charAt_3b067_12 ?_
  refine ww_i2c hX (pc := 13) dJ1_charAt_3b067_13 ?_
  refine rC hX (pc := 14) hT (Nat.le_refl 0) (Nat.le_refl 0) dJ1_charAt_3b067_14 (i_c_nar _) ?_
  exact ⟨rfl, rfl, rfl⟩
set_option maxHeartbeats 4000000 in
set_option maxRecDepth 20000 in
theorem c_J0_charAt_5068e (l0 : Launch) {Ia Ja : aI1} {Ra : aR1} {Sa : aS1} {n : Nat} {i : Int} (hn : n < 13) (h0 : 0 ≤ i) (h1 : i < (strLen.getD n 0 : Nat))  : CT l0 3 0 0 mJ0_charAt_5068e [kS n, kI i] Ia Ja Ra Sa (cI (fun x I' J' => Ia = I' ∧ Ja = J' ∧ x = chS n i) Ra Sa) := by
  refine ct_in pn_J0 (Nat.le_of_ble_eq_true rfl) (fun X hX hT hIn => ?_)
  have hX : aK l0 X cJ0_charAt_5068e 2 RJ0 (some .char) 3 0 0 := hX
  change WW X 0 [some (kS n), some (kI i)] [] Ia Ja Ra Sa 0 0
  refine ww_aload_nS hX (pc := 0) dJ0_charAt_5068e_0 rfl ?_
  refine xI0 hX (pc := 1) sJ0_492 hn (c_J0_isLatin1_aae02 l0 hn) (by decide) (Nat.le_refl 0) (Nat.le_refl 0) (Nat.le_of_ble_eq_true rfl) dJ0_charAt_5068e_1 (fun x_1 I_1 J_1 h_1 => ?_)
  obtain ⟨rfl, rfl, h_1⟩ := h_1
  refine ww_if_eq hX (pc := 4) (tgt := 16) dJ0_charAt_5068e_4 (by decide) (fun h_4 => ?_) (fun h_4 => ?_)
  · simp only [w32_mod] at h_4
    exfalso
    omega
  · simp only [w32_mod] at h_4
    refine ww_aload_nS hX (pc := 7) dJ0_charAt_5068e_7 rfl ?_
    refine ww_getSv hX (pc := 8) hn tb_1630 dJ0_charAt_5068e_8 ?_
    refine ww_iload_n hX (pc := 11) dJ0_charAt_5068e_11 rfl ?_
    refine sI2 hX (pc := 12) sJ0_495 (c_J1_charAt_3b067 l0 hn h0 h1) (by decide) (Nat.le_refl 0) (Nat.le_refl 0) (Nat.le_of_ble_eq_true rfl) dJ0_charAt_5068e_12 (fun x_12 I_12 J_12 h_12 => ?_)
    obtain ⟨rfl, rfl, h_12⟩ := h_12
    refine rC hX (pc := 15) hT (Nat.le_refl 0) (Nat.le_refl 0) dJ0_charAt_5068e_15 (by rw [h_12]; exact i_c_nar _) ?_
    exact ⟨rfl, rfl, h_12⟩
end
section
set_option maxHeartbeats 4000000 in
set_option maxRecDepth 20000 in
theorem c_X1_full (l0 : Launch) {Ia Ja : aI1} {Ra : aR1} {Sa : aS1} (hL : LY Ra Sa) (hI : XI Ia)  : CT l0 0 0 0 mX1_full [kR (some 1)] Ia Ja Ra Sa (cI (fun x I' J' => Ia = I' ∧ Ja = J' ∧ x = FU (Ia 1 5)) Ra Sa) := by
  refine ct_in pn_X1 (Nat.le_of_ble_eq_true rfl) (fun X hX hT hIn => ?_)
  have hX : aK l0 X cX1_full 1 RX1 (some .int) 0 0 0 := hX
  change WW X 0 [some (kR (some 1))] [] Ia Ja Ra Sa 0 0
  refine ww_iconst hX (pc := 0) (x := 1) dX1_full_0 rfl ?_
  refine ww_aload_n hX (pc := 1) dX1_full_1 rfl ?_
  refine ww_getI hX (pc := 2) fX1_30 (by decide) (xs_1 hL) dX1_full_2 ?_
  refine ww_ishl hX (pc := 5) dX1_full_5 ?_
  refine ww_iconst hX (pc := 6) (x := 1) dX1_full_6 rfl ?_
  refine ww_isub hX (pc := 7) dX1_full_7 ?_
  refine rI hX (pc := 8) hT (Nat.le_refl 0) (Nat.le_refl 0) dX1_full_8 ?_
  refine ⟨rfl, rfl, ?_⟩
  rw [i_shl1 (by have := hI.1; omega) (by have := hI.1; omega)]
  rfl
set_option maxHeartbeats 4000000 in
set_option maxRecDepth 20000 in
theorem c_X1_isLamp (l0 : Launch) {Ia Ja : aI1} {Ra : aR1} {Sa : aS1} (hL : LY Ra Sa) (hI : XI Ia) {a : Int} (ha : -2147483648 ≤ a ∧ a < 2147483648)  : CT l0 0 0 0 mX1_isLamp [kR (some 1), kI a] Ia Ja Ra Sa (cI (fun x I' J' => Ia = I' ∧ Ja = J' ∧ (x = 0 ∨ x = 1) ∧ (x = 1 ↔ 0 ≤ a ∧ a < Ia 1 5)) Ra Sa) := by
  refine ct_in pn_X1 (Nat.le_of_ble_eq_true rfl) (fun X hX hT hIn => ?_)
  have hX : aK l0 X cX1_isLamp 2 RX1 (some .boolean) 0 0 0 := hX
  change WW X 0 [some (kR (some 1)), some (kI a)] [] Ia Ja Ra Sa 0 0
  obtain ⟨hn1, hn2⟩ := hI.1
  obtain ⟨hk1, hk2⟩ := hI.2.1
  obtain ⟨hf1, hf2⟩ := hI.fu
  refine ww_iload_n hX (pc := 0) dX1_isLamp_0 rfl ?_
  refine ww_if_lt hX (pc := 1) (tgt := 16) dX1_isLamp_1 (by decide) (fun h_1 => ?_) (fun h_1 => ?_)
  · simp only [w32_mod] at h_1
    refine ww_iconst hX (pc := 16) (x := 0) dX1_isLamp_16 rfl ?_
    refine rZ hX (pc := 17) hT (Nat.le_refl 0) (Nat.le_refl 0) dX1_isLamp_17 (by decide) ?_
    exact ⟨rfl, rfl, by omega, by omega⟩
  · simp only [w32_mod] at h_1
    refine ww_iload_n hX (pc := 4) dX1_isLamp_4 rfl ?_
    refine ww_aload_n hX (pc := 5) dX1_isLamp_5 rfl ?_
    refine ww_getI hX (pc := 6) fX1_30 (by decide) (xs_1 hL) dX1_isLamp_6 ?_
    refine ww_icmp_ge hX (pc := 9) (tgt := 16) dX1_isLamp_9 (by decide) (fun h_9 => ?_) (fun h_9 => ?_)
    · simp only [w32_mod] at h_9
      refine ww_iconst hX (pc := 16) (x := 0) dX1_isLamp_16 rfl ?_
      refine rZ hX (pc := 17) hT (Nat.le_refl 0) (Nat.le_refl 0) dX1_isLamp_17 (by decide) ?_
      exact ⟨rfl, rfl, by omega, by omega⟩
    · simp only [w32_mod] at h_9
      refine ww_iconst hX (pc := 12) (x := 1) dX1_isLamp_12 rfl ?_
      refine ww_goto hX (pc := 13) (tgt := 17) dX1_isLamp_13 (by decide) ?_
      refine rZ hX (pc := 17) hT (Nat.le_refl 0) (Nat.le_refl 0) dX1_isLamp_17 (by decide) ?_
      exact ⟨rfl, rfl, by omega, by omega⟩
set_option maxHeartbeats 4000000 in
set_option maxRecDepth 20000 in
theorem c_X1_isNews (l0 : Launch) {Ia Ja : aI1} {Ra : aR1} {Sa : aS1} (hL : LY Ra Sa) (hI : XI Ia) {a : Int} (ha : -2147483648 ≤ a ∧ a < 2147483648)  : CT l0 0 0 0 mX1_isNews [kR (some 1), kI a] Ia Ja Ra Sa (cI (fun x I' J' => Ia = I' ∧ Ja = J' ∧ (x = 0 ∨ x = 1) ∧ (x = 1 ↔ 0 ≤ a ∧ a < Ia 1 6)) Ra Sa) := by
  refine ct_in pn_X1 (Nat.le_of_ble_eq_true rfl) (fun X hX hT hIn => ?_)
  have hX : aK l0 X cX1_isNews 2 RX1 (some .boolean) 0 0 0 := hX
  change WW X 0 [some (kR (some 1)), some (kI a)] [] Ia Ja Ra Sa 0 0
  obtain ⟨hn1, hn2⟩ := hI.1
  obtain ⟨hk1, hk2⟩ := hI.2.1
  obtain ⟨hf1, hf2⟩ := hI.fu
  refine ww_iload_n hX (pc := 0) dX1_isNews_0 rfl ?_
  refine ww_if_lt hX (pc := 1) (tgt := 16) dX1_isNews_1 (by decide) (fun h_1 => ?_) (fun h_1 => ?_)
  · simp only [w32_mod] at h_1
    refine ww_iconst hX (pc := 16) (x := 0) dX1_isNews_16 rfl ?_
    refine rZ hX (pc := 17) hT (Nat.le_refl 0) (Nat.le_refl 0) dX1_isNews_17 (by decide) ?_
    exact ⟨rfl, rfl, by omega, by omega⟩
  · simp only [w32_mod] at h_1
    refine ww_iload_n hX (pc := 4) dX1_isNews_4 rfl ?_
    refine ww_aload_n hX (pc := 5) dX1_isNews_5 rfl ?_
    refine ww_getI hX (pc := 6) fX1_34 (by decide) (xs_1 hL) dX1_isNews_6 ?_
    refine ww_icmp_ge hX (pc := 9) (tgt := 16) dX1_isNews_9 (by decide) (fun h_9 => ?_) (fun h_9 => ?_)
    · simp only [w32_mod] at h_9
      refine ww_iconst hX (pc := 16) (x := 0) dX1_isNews_16 rfl ?_
      refine rZ hX (pc := 17) hT (Nat.le_refl 0) (Nat.le_refl 0) dX1_isNews_17 (by decide) ?_
      exact ⟨rfl, rfl, by omega, by omega⟩
    · simp only [w32_mod] at h_9
      refine ww_iconst hX (pc := 12) (x := 1) dX1_isNews_12 rfl ?_
      refine ww_goto hX (pc := 13) (tgt := 17) dX1_isNews_13 (by decide) ?_
      refine rZ hX (pc := 17) hT (Nat.le_refl 0) (Nat.le_refl 0) dX1_isNews_17 (by decide) ?_
      exact ⟨rfl, rfl, by omega, by omega⟩
set_option maxHeartbeats 4000000 in
set_option maxRecDepth 20000 in
theorem c_X1_isState (l0 : Launch) {Ia Ja : aI1} {Ra : aR1} {Sa : aS1} (hL : LY Ra Sa) (hI : XI Ia) {a : Int} (ha : -2147483648 ≤ a ∧ a < 2147483648)  : CT l0 1 0 0 mX1_isState [kR (some 1), kI a] Ia Ja Ra Sa (cI (fun x I' J' => Ia = I' ∧ Ja = J' ∧ (x = 0 ∨ x = 1) ∧ (x = 1 ↔ 0 ≤ a ∧ a ≤ FU (Ia 1 5))) Ra Sa) := by
  refine ct_in pn_X1 (Nat.le_of_ble_eq_true rfl) (fun X hX hT hIn => ?_)
  have hX : aK l0 X cX1_isState 2 RX1 (some .boolean) 1 0 0 := hX
  change WW X 0 [some (kR (some 1)), some (kI a)] [] Ia Ja Ra Sa 0 0
  obtain ⟨hn1, hn2⟩ := hI.1
  obtain ⟨hk1, hk2⟩ := hI.2.1
  obtain ⟨hf1, hf2⟩ := hI.fu
  refine ww_iload_n hX (pc := 0) dX1_isState_0 rfl ?_
  refine ww_if_lt hX (pc := 1) (tgt := 16) dX1_isState_1 (by decide) (fun h_1 => ?_) (fun h_1 => ?_)
  · simp only [w32_mod] at h_1
    refine ww_iconst hX (pc := 16) (x := 0) dX1_isState_16 rfl ?_
    refine rZ hX (pc := 17) hT (Nat.le_refl 0) (Nat.le_refl 0) dX1_isState_17 (by decide) ?_
    exact ⟨rfl, rfl, by omega, by omega⟩
  · simp only [w32_mod] at h_1
    refine ww_iload_n hX (pc := 4) dX1_isState_4 rfl ?_
    refine ww_aload_n hX (pc := 5) dX1_isState_5 rfl ?_
    refine vI0 hX (pc := 6) sX1_43 (xs_1 hL) (c_X1_full l0 hL hI) (by decide) (Nat.le_refl 0) (Nat.le_refl 0) (Nat.le_of_ble_eq_true rfl) dX1_isState_6 (fun x_6 I_6 J_6 h_6 => ?_)
    obtain ⟨rfl, rfl, h_6⟩ := h_6
    refine ww_icmp_gt hX (pc := 9) (tgt := 16) dX1_isState_9 (by decide) (fun h_9 => ?_) (fun h_9 => ?_)
    · simp only [w32_mod] at h_9
      refine ww_iconst hX (pc := 16) (x := 0) dX1_isState_16 rfl ?_
      refine rZ hX (pc := 17) hT (Nat.le_refl 0) (Nat.le_refl 0) dX1_isState_17 (by decide) ?_
      exact ⟨rfl, rfl, by omega, by omega⟩
    · simp only [w32_mod] at h_9
      refine ww_iconst hX (pc := 12) (x := 1) dX1_isState_12 rfl ?_
      refine ww_goto hX (pc := 13) (tgt := 17) dX1_isState_13 (by decide) ?_
      refine rZ hX (pc := 17) hT (Nat.le_refl 0) (Nat.le_refl 0) dX1_isState_17 (by decide) ?_
      exact ⟨rfl, rfl, by omega, by omega⟩
set_option maxHeartbeats 4000000 in
set_option maxRecDepth 20000 in
theorem c_X1_isReached (l0 : Launch) {Ia Ja : aI1} {Ra : aR1} {Sa : aS1} (hL : LY Ra Sa) (hI : XI Ia) {a : Int} (ha0 : 0 ≤ a) (ha1 : a ≤ 255)  : CT l0 0 0 0 mX1_isReached [kR (some 1), kI a] Ia Ja Ra Sa (cI (fun x I' J' => Ia = I' ∧ Ja = J' ∧ (x = 0 ∨ x = 1)) Ra Sa) := by
  refine ct_in pn_X1 (Nat.le_of_ble_eq_true rfl) (fun X hX hT hIn => ?_)
  have hX : aK l0 X cX1_isReached 2 RX1 (some .boolean) 0 0 0 := hX
  change WW X 0 [some (kR (some 1)), some (kI a)] [] Ia Ja Ra Sa 0 0
  obtain ⟨hn1, hn2⟩ := hI.1
  obtain ⟨hk1, hk2⟩ := hI.2.1
  obtain ⟨hf1, hf2⟩ := hI.fu
  refine ww_iload_n hX (pc := 0) dX1_isReached_0 rfl ?_
  refine ww_if_eq hX (pc := 1) (tgt := 23) dX1_isReached_1 (by decide) (fun h_1 => ?_) (fun h_1 => ?_)
  · simp only [w32_mod] at h_1
    refine ww_iconst hX (pc := 23) (x := 1) dX1_isReached_23 rfl ?_
    refine ww_goto hX (pc := 24) (tgt := 28) dX1_isReached_24 (by decide) ?_
    refine rZ hX (pc := 28) hT (Nat.le_refl 0) (Nat.le_refl 0) dX1_isReached_28 (by decide) ?_
    exact ⟨rfl, rfl, by omega⟩
  · simp only [w32_mod] at h_1
    refine ww_aload_n hX (pc := 4) dX1_isReached_4 rfl ?_
    refine ww_getR hX (pc := 5) fX1_15 (by decide) (xs_1 hL) (xr_1_1 hL) dX1_isReached_5 ?_
    refine ww_iload_n hX (pc := 8) dX1_isReached_8 rfl ?_
    refine ww_iald hX (pc := 9) (xs_3 hL) (by decide) (by omega) (by omega) dX1_isReached_9 ?_
    refine ww_iconst hX (pc := 10) (x := (-1)) dX1_isReached_10 rfl ?_
    refine ww_icmp_eq hX (pc := 11) (tgt := 27) dX1_isReached_11 (by decide) (fun h_11 => ?_) (fun h_11 => ?_)
    · simp only [w32_mod] at h_11
      refine ww_iconst hX (pc := 27) (x := 0) dX1_isReached_27 rfl ?_
      refine rZ hX (pc := 28) hT (Nat.le_refl 0) (Nat.le_refl 0) dX1_isReached_28 (by decide) ?_
      exact ⟨rfl, rfl, by omega⟩
    · simp only [w32_mod] at h_11
      refine ww_iload_n hX (pc := 14) dX1_isReached_14 rfl ?_
      refine ww_aload_n hX (pc := 15) dX1_isReached_15 rfl ?_
      refine ww_getI hX (pc := 16) fX1_47 (by decide) (xs_1 hL) dX1_isReached_16 ?_
      refine ww_iand hX (pc := 19) dX1_isReached_19 ?_
      refine ww_if_ne hX (pc := 20) (tgt := 27) dX1_isReached_20 (by decide) (fun h_20 => ?_) (fun h_20 => ?_)
      · simp only [w32_mod] at h_20
        refine ww_iconst hX (pc := 27) (x := 0) dX1_isReached_27 rfl ?_
        refine rZ hX (pc := 28) hT (Nat.le_refl 0) (Nat.le_refl 0) dX1_isReached_28 (by decide) ?_
        exact ⟨rfl, rfl, by omega⟩
      · simp only [w32_mod] at h_20
        refine ww_iconst hX (pc := 23) (x := 1) dX1_isReached_23 rfl ?_
        refine ww_goto hX (pc := 24) (tgt := 28) dX1_isReached_24 (by decide) ?_
        refine rZ hX (pc := 28) hT (Nat.le_refl 0) (Nat.le_refl 0) dX1_isReached_28 (by decide) ?_
        exact ⟨rfl, rfl, by omega⟩
set_option maxHeartbeats 4000000 in
set_option maxRecDepth 20000 in
theorem c_X1_canLight (l0 : Launch) {Ia Ja : aI1} {Ra : aR1} {Sa : aS1} (hL : LY Ra Sa) (hI : XI Ia) {a b : Int}  : CT l0 0 0 0 mX1_canLight [kR (some 1), kI a, kI b] Ia Ja Ra Sa (cI (fun x I' J' => Ia = I' ∧ Ja = J' ∧ (x = 0 ∨ x = 1)) Ra Sa) := by
  refine ct_in pn_X1 (Nat.le_of_ble_eq_true rfl) (fun X hX hT hIn => ?_)
  have hX : aK l0 X cX1_canLight 3 RX1 (some .boolean) 0 0 0 := hX
  change WW X 0 [some (kR (some 1)), some (kI a), some (kI b)] [] Ia Ja Ra Sa 0 0
  obtain ⟨hn1, hn2⟩ := hI.1
  obtain ⟨hk1, hk2⟩ := hI.2.1
  obtain ⟨hf1, hf2⟩ := hI.fu
  refine ww_iload_n hX (pc := 0) dX1_canLight_0 rfl ?_
  refine ww_iload_n hX (pc := 1) dX1_canLight_1 rfl ?_
  refine ww_ixor hX (pc := 2) dX1_canLight_2 ?_
  refine ww_aload_n hX (pc := 3) dX1_canLight_3 rfl ?_
  refine ww_getI hX (pc := 4) fX1_47 (by decide) (xs_1 hL) dX1_canLight_4 ?_
  refine ww_iand hX (pc := 7) dX1_canLight_7 ?_
  refine ww_if_ne hX (pc := 8) (tgt := 15) dX1_canLight_8 (by decide) (fun h_8 => ?_) (fun h_8 => ?_)
  · simp only [w32_mod] at h_8
    refine ww_iconst hX (pc := 15) (x := 0) dX1_canLight_15 rfl ?_
    refine rZ hX (pc := 16) hT (Nat.le_refl 0) (Nat.le_refl 0) dX1_canLight_16 (by decide) ?_
    exact ⟨rfl, rfl, by omega⟩
  · simp only [w32_mod] at h_8
    refine ww_iconst hX (pc := 11) (x := 1) dX1_canLight_11 rfl ?_
    refine ww_goto hX (pc := 12) (tgt := 16) dX1_canLight_12 (by decide) ?_
    refine rZ hX (pc := 16) hT (Nat.le_refl 0) (Nat.le_refl 0) dX1_canLight_16 (by decide) ?_
    exact ⟨rfl, rfl, by omega⟩
set_option maxHeartbeats 4000000 in
set_option maxRecDepth 20000 in
theorem c_X1_newsBit (l0 : Launch) {Ia Ja : aI1} {Ra : aR1} {Sa : aS1} (hL : LY Ra Sa) (hI : XI Ia) {a : Int} (ha0 : 0 ≤ a) (ha1 : a ≤ 255)  : CT l0 1 0 0 mX1_newsBit [kR (some 1), kI a] Ia Ja Ra Sa (cI (fun x I' J' => Ia = I' ∧ Ja = J' ∧ True) Ra Sa) := by
  refine ct_in pn_X1 (Nat.le_of_ble_eq_true rfl) (fun X hX hT hIn => ?_)
  have hX : aK l0 X cX1_newsBit 2 RX1 (some .int) 1 0 0 := hX
  change WW X 0 [some (kR (some 1)), some (kI a)] [] Ia Ja Ra Sa 0 0
  obtain ⟨hn1, hn2⟩ := hI.1
  obtain ⟨hk1, hk2⟩ := hI.2.1
  obtain ⟨hf1, hf2⟩ := hI.fu
  refine ww_aload_n hX (pc := 0) dX1_newsBit_0 rfl ?_
  refine ww_getR hX (pc := 1) fX1_15 (by decide) (xs_1 hL) (xr_1_1 hL) dX1_newsBit_1 ?_
  refine ww_iload_n hX (pc := 4) dX1_newsBit_4 rfl ?_
  refine ww_iald hX (pc := 5) (xs_3 hL) (by decide) (by omega) (by omega) dX1_newsBit_5 ?_
  refine ww_iconst hX (pc := 6) (x := (-1)) dX1_newsBit_6 rfl ?_
  refine ww_icmp_eq hX (pc := 7) (tgt := 29) dX1_newsBit_7 (by decide) (fun h_7 => ?_) (fun h_7 => ?_)
  · simp only [w32_mod] at h_7
    refine ww_iconst hX (pc := 29) (x := 0) dX1_newsBit_29 rfl ?_
    refine rI hX (pc := 30) hT (Nat.le_refl 0) (Nat.le_refl 0) dX1_newsBit_30 ?_
    exact ⟨rfl, rfl, trivial⟩
  · simp only [w32_mod] at h_7
    refine ww_aload_n hX (pc := 10) dX1_newsBit_10 rfl ?_
    refine ww_iload_n hX (pc := 11) dX1_newsBit_11 rfl ?_
    refine vI1 hX (pc := 12) sX1_50 (xs_1 hL) (c_X1_isReached l0 hL hI (by omega) (by omega)) (by decide) (Nat.le_refl 0) (Nat.le_refl 0) (Nat.le_of_ble_eq_true rfl) dX1_newsBit_12 (fun x_12 I_12 J_12 h_12 => ?_)
    obtain ⟨rfl, rfl, h_12⟩ := h_12
    refine ww_if_eq hX (pc := 15) (tgt := 29) dX1_newsBit_15 (by decide) (fun h_15 => ?_) (fun h_15 => ?_)
    · simp only [w32_mod] at h_15
      refine ww_iconst hX (pc := 29) (x := 0) dX1_newsBit_29 rfl ?_
      refine rI hX (pc := 30) hT (Nat.le_refl 0) (Nat.le_refl 0) dX1_newsBit_30 ?_
      exact ⟨rfl, rfl, trivial⟩
    · simp only [w32_mod] at h_15
      refine ww_iconst hX (pc := 18) (x := 1) dX1_newsBit_18 rfl ?_
      refine ww_aload_n hX (pc := 19) dX1_newsBit_19 rfl ?_
      refine ww_getR hX (pc := 20) fX1_15 (by decide) (xs_1 hL) (xr_1_1 hL) dX1_newsBit_20 ?_
      refine ww_iload_n hX (pc := 23) dX1_newsBit_23 rfl ?_
      refine ww_iald hX (pc := 24) (xs_3 hL) (by decide) (by omega) (by omega) dX1_newsBit_24 ?_
      refine ww_ishl hX (pc := 25) dX1_newsBit_25 ?_
      refine ww_goto hX (pc := 26) (tgt := 30) dX1_newsBit_26 (by decide) ?_
      refine rI hX (pc := 30) hT (Nat.le_refl 0) (Nat.le_refl 0) dX1_newsBit_30 ?_
      exact ⟨rfl, rfl, trivial⟩
set_option maxHeartbeats 4000000 in
set_option maxRecDepth 20000 in
theorem c_X1_readCount (l0 : Launch) {Ia Ja : aI1} {Ra : aR1} {Sa : aS1} (hL : LY Ra Sa) (hI : XI Ia)  : CT l0 1 0 0 mX1_readCount [kR (some 1)] Ia Ja Ra Sa (cI (fun x I' J' => Ia = I' ∧ Ja = J' ∧ True) Ra Sa) := by
  refine ct_in pn_X1 (Nat.le_of_ble_eq_true rfl) (fun X hX hT hIn => ?_)
  have hX : aK l0 X cX1_readCount 4 RX1 (some .int) 1 0 0 := hX
  change WW X 0 [some (kR (some 1)), none, none, none] [] Ia Ja Ra Sa 0 0
  obtain ⟨hn1, hn2⟩ := hI.1
  obtain ⟨hk1, hk2⟩ := hI.2.1
  obtain ⟨hf1, hf2⟩ := hI.fu
  refine ww_iconst hX (pc := 0) (x := 0) dX1_readCount_0 rfl ?_
  refine ww_istore_n hX (pc := 1) (lv' := [some (kR (some 1)), some (kI 0), none, none]) dX1_readCount_1 (by decide) rfl rfl ?_
  refine ww_aload_n hX (pc := 2) dX1_readCount_2 rfl ?_
  refine vI0 hX (pc := 3) sX1_43 (xs_1 hL) (c_X1_full l0 hL hI) (by decide) (Nat.le_refl 0) (Nat.le_refl 0) (Nat.le_of_ble_eq_true rfl) dX1_readCount_3 (fun x_3 I_3 J_3 h_3 => ?_)
  obtain ⟨rfl, rfl, h_3⟩ := h_3
  refine ww_istore_n hX (pc := 6) (lv' := [some (kR (some 1)), some (kI 0), some (kI x_3), none]) dX1_readCount_6 (by decide) rfl rfl ?_
  refine ww_iconst hX (pc := 7) (x := 0) dX1_readCount_7 rfl ?_
  refine ww_istore_n hX (pc := 8) (lv' := [some (kR (some 1)), some (kI 0), some (kI x_3), some (kI 0)]) dX1_readCount_8 (by decide) rfl rfl ?_
  have hl_9 : ∀ (n_9 : Nat) (mn : Int) (q : Int), (x_3 + 1 - q).toNat = n_9 → (0 ≤ q ∧ q ≤ x_3 + 1) → WW X 9 [some (kR (some 1)), some (kI mn), some (kI x_3), some (kI q)] [] Ia Ja Ra Sa 0 0 := by
    intro n_9
    induction n_9 using Nat.strongRecOn with
    | ind n_9 ih_9 =>
      intro mn q hm_9 hv_9
      have hq_9 := Sh0_i hm_9
      clear hm_9
      obtain ⟨hq0, hq1⟩ := hv_9
      refine ww_iload_n hX (pc := 9) dX1_readCount_9 rfl ?_
      refine ww_iload_n hX (pc := 10) dX1_readCount_10 rfl ?_
      refine ww_icmp_gt hX (pc := 11) (tgt := 38) dX1_readCount_11 (by decide) (fun h_11 => ?_) (fun h_11 => ?_)
      · simp only [w32_mod] at h_11
        refine ww_iload_n hX (pc := 38) dX1_readCount_38 rfl ?_
        refine rI hX (pc := 39) hT (Nat.le_refl 0) (Nat.le_refl 0) dX1_readCount_39 ?_
        exact ⟨rfl, rfl, trivial⟩
      · simp only [w32_mod] at h_11
        refine ww_iload_n hX (pc := 14) dX1_readCount_14 rfl ?_
        refine ww_aload_n hX (pc := 15) dX1_readCount_15 rfl ?_
        refine ww_getR hX (pc := 16) fX1_15 (by decide) (xs_1 hL) (xr_1_1 hL) dX1_readCount_16 ?_
        refine ww_iload_n hX (pc := 19) dX1_readCount_19 rfl ?_
        refine ww_iald hX (pc := 20) (xs_3 hL) (by decide) (by omega) (by omega) dX1_readCount_20 ?_
        refine ww_iconst hX (pc := 21) (x := (-1)) dX1_readCount_21 rfl ?_
        refine ww_icmp_ne hX (pc := 22) (tgt := 29) dX1_readCount_22 (by decide) (fun h_22 => ?_) (fun h_22 => ?_)
        · simp only [w32_mod] at h_22
          refine ww_iconst hX (pc := 29) (x := 1) dX1_readCount_29 rfl ?_
          refine ww_iadd hX (pc := 30) dX1_readCount_30 ?_
          refine ww_nmI (fun v_31 hv_31 => ?_)
          refine ww_istore_n hX (pc := 31) (lv' := [some (kR (some 1)), some (kI v_31), some (kI x_3), some (kI q)]) dX1_readCount_31 (by decide) rfl rfl ?_
          refine ww_iinc hX (pc := 32) (lv' := [some (kR (some 1)), some (kI v_31), some (kI x_3), some (kI (q + 1))]) dX1_readCount_32 rfl (by decide) rfl rfl ?_
          refine ww_goto hX (pc := 35) (tgt := 9) dX1_readCount_35 (by decide) ?_
          exact ih_9 _ (by have hm9 := Sh0_e hq_9; omega) v_31 (q + 1) rfl ⟨by omega, by omega⟩
        · simp only [w32_mod] at h_22
          refine ww_iconst hX (pc := 25) (x := 0) dX1_readCount_25 rfl ?_
          refine ww_goto hX (pc := 26) (tgt := 30) dX1_readCount_26 (by decide) ?_
          refine ww_iadd hX (pc := 30) dX1_readCount_30 ?_
          refine ww_nmI (fun v_31 hv_31 => ?_)
          refine ww_istore_n hX (pc := 31) (lv' := [some (kR (some 1)), some (kI v_31), some (kI x_3), some (kI q)]) dX1_readCount_31 (by decide) rfl rfl ?_
          refine ww_iinc hX (pc := 32) (lv' := [some (kR (some 1)), some (kI v_31), some (kI x_3), some (kI (q + 1))]) dX1_readCount_32 rfl (by decide) rfl rfl ?_
          refine ww_goto hX (pc := 35) (tgt := 9) dX1_readCount_35 (by decide) ?_
          exact ih_9 _ (by have hm9 := Sh0_e hq_9; omega) v_31 (q + 1) rfl ⟨by omega, by omega⟩
  exact hl_9 _ 0 0 rfl ⟨by omega, by omega⟩
set_option maxHeartbeats 4000000 in
set_option maxRecDepth 20000 in
theorem c_X1_countReached (l0 : Launch) {Ia Ja : aI1} {Ra : aR1} {Sa : aS1} (hL : LY Ra Sa) (hI : XI Ia)  : CT l0 1 0 0 mX1_countReached [kR (some 1)] Ia Ja Ra Sa (cI (fun x I' J' => Ia = I' ∧ Ja = J' ∧ True) Ra Sa) := by
  refine ct_in pn_X1 (Nat.le_of_ble_eq_true rfl) (fun X hX hT hIn => ?_)
  have hX : aK l0 X cX1_countReached 4 RX1 (some .int) 1 0 0 := hX
  change WW X 0 [some (kR (some 1)), none, none, none] [] Ia Ja Ra Sa 0 0
  obtain ⟨hn1, hn2⟩ := hI.1
  obtain ⟨hk1, hk2⟩ := hI.2.1
  obtain ⟨hf1, hf2⟩ := hI.fu
  refine ww_iconst hX (pc := 0) (x := 0) dX1_countReached_0 rfl ?_
  refine ww_istore_n hX (pc := 1) (lv' := [some (kR (some 1)), some (kI 0), none, none]) dX1_countReached_1 (by decide) rfl rfl ?_
  refine ww_aload_n hX (pc := 2) dX1_countReached_2 rfl ?_
  refine vI0 hX (pc := 3) sX1_43 (xs_1 hL) (c_X1_full l0 hL hI) (by decide) (Nat.le_refl 0) (Nat.le_refl 0) (Nat.le_of_ble_eq_true rfl) dX1_countReached_3 (fun x_3 I_3 J_3 h_3 => ?_)
  obtain ⟨rfl, rfl, h_3⟩ := h_3
  refine ww_istore_n hX (pc := 6) (lv' := [some (kR (some 1)), some (kI 0), some (kI x_3), none]) dX1_countReached_6 (by decide) rfl rfl ?_
  refine ww_iconst hX (pc := 7) (x := 0) dX1_countReached_7 rfl ?_
  refine ww_istore_n hX (pc := 8) (lv' := [some (kR (some 1)), some (kI 0), some (kI x_3), some (kI 0)]) dX1_countReached_8 (by decide) rfl rfl ?_
  have hl_9 : ∀ (n_9 : Nat) (mn : Int) (q : Int), (x_3 + 1 - q).toNat = n_9 → (0 ≤ q ∧ q ≤ x_3 + 1) → WW X 9 [some (kR (some 1)), some (kI mn), some (kI x_3), some (kI q)] [] Ia Ja Ra Sa 0 0 := by
    intro n_9
    induction n_9 using Nat.strongRecOn with
    | ind n_9 ih_9 =>
      intro mn q hm_9 hv_9
      have hq_9 := Sh0_i hm_9
      clear hm_9
      obtain ⟨hq0, hq1⟩ := hv_9
      refine ww_iload_n hX (pc := 9) dX1_countReached_9 rfl ?_
      refine ww_iload_n hX (pc := 10) dX1_countReached_10 rfl ?_
      refine ww_icmp_gt hX (pc := 11) (tgt := 36) dX1_countReached_11 (by decide) (fun h_11 => ?_) (fun h_11 => ?_)
      · simp only [w32_mod] at h_11
        refine ww_iload_n hX (pc := 36) dX1_countReached_36 rfl ?_
        refine rI hX (pc := 37) hT (Nat.le_refl 0) (Nat.le_refl 0) dX1_countReached_37 ?_
        exact ⟨rfl, rfl, trivial⟩
      · simp only [w32_mod] at h_11
        refine ww_iload_n hX (pc := 14) dX1_countReached_14 rfl ?_
        refine ww_aload_n hX (pc := 15) dX1_countReached_15 rfl ?_
        refine ww_iload_n hX (pc := 16) dX1_countReached_16 rfl ?_
        refine vI1 hX (pc := 17) sX1_50 (xs_1 hL) (c_X1_isReached l0 hL hI (by omega) (by omega)) (by decide) (Nat.le_refl 0) (Nat.le_refl 0) (Nat.le_of_ble_eq_true rfl) dX1_countReached_17 (fun x_17 I_17 J_17 h_17 => ?_)
        obtain ⟨rfl, rfl, h_17⟩ := h_17
        refine ww_if_eq hX (pc := 20) (tgt := 27) dX1_countReached_20 (by decide) (fun h_20 => ?_) (fun h_20 => ?_)
        · simp only [w32_mod] at h_20
          refine ww_iconst hX (pc := 27) (x := 0) dX1_countReached_27 rfl ?_
          refine ww_iadd hX (pc := 28) dX1_countReached_28 ?_
          refine ww_nmI (fun v_29 hv_29 => ?_)
          refine ww_istore_n hX (pc := 29) (lv' := [some (kR (some 1)), some (kI v_29), some (kI x_3), some (kI q)]) dX1_countReached_29 (by decide) rfl rfl ?_
          refine ww_iinc hX (pc := 30) (lv' := [some (kR (some 1)), some (kI v_29), some (kI x_3), some (kI (q + 1))]) dX1_countReached_30 rfl (by decide) rfl rfl ?_
          refine ww_goto hX (pc := 33) (tgt := 9) dX1_countReached_33 (by decide) ?_
          exact ih_9 _ (by have hm9 := Sh0_e hq_9; omega) v_29 (q + 1) rfl ⟨by omega, by omega⟩
        · simp only [w32_mod] at h_20
          refine ww_iconst hX (pc := 23) (x := 1) dX1_countReached_23 rfl ?_
          refine ww_goto hX (pc := 24) (tgt := 28) dX1_countReached_24 (by decide) ?_
          refine ww_iadd hX (pc := 28) dX1_countReached_28 ?_
          refine ww_nmI (fun v_29 hv_29 => ?_)
          refine ww_istore_n hX (pc := 29) (lv' := [some (kR (some 1)), some (kI v_29), some (kI x_3), some (kI q)]) dX1_countReached_29 (by decide) rfl rfl ?_
          refine ww_iinc hX (pc := 30) (lv' := [some (kR (some 1)), some (kI v_29), some (kI x_3), some (kI (q + 1))]) dX1_countReached_30 rfl (by decide) rfl rfl ?_
          refine ww_goto hX (pc := 33) (tgt := 9) dX1_countReached_33 (by decide) ?_
          exact ih_9 _ (by have hm9 := Sh0_e hq_9; omega) v_29 (q + 1) rfl ⟨by omega, by omega⟩
  exact hl_9 _ 0 0 rfl ⟨by omega, by omega⟩
set_option maxHeartbeats 4000000 in
set_option maxRecDepth 20000 in
theorem c_X1_countWays (l0 : Launch) {Ia Ja : aI1} {Ra : aR1} {Sa : aS1} (hL : LY Ra Sa) (hI : XI Ia) {a b : Int} (ha0 : 0 ≤ a) (ha1 : a ≤ FU (Ia 1 5))  : CT l0 1 0 0 mX1_countWays [kR (some 1), kI a, kI b] Ia Ja Ra Sa (cI (fun x I' J' => Ia = I' ∧ Ja = J' ∧ True) Ra Sa) := by
  refine ct_in pn_X1 (Nat.le_of_ble_eq_true rfl) (fun X hX hT hIn => ?_)
  have hX : aK l0 X cX1_countWays 6 RX1 (some .int) 1 0 0 := hX
  change WW X 0 [some (kR (some 1)), some (kI a), some (kI b), none, none, none] [] Ia Ja Ra Sa 0 0
  obtain ⟨hn1, hn2⟩ := hI.1
  obtain ⟨hk1, hk2⟩ := hI.2.1
  obtain ⟨hf1, hf2⟩ := hI.fu
  refine ww_iconst hX (pc := 0) (x := 0) dX1_countWays_0 rfl ?_
  refine ww_istore_n hX (pc := 1) (lv' := [some (kR (some 1)), some (kI a), some (kI b), some (kI 0), none, none]) dX1_countWays_1 (by decide) rfl rfl ?_
  refine ww_aload_n hX (pc := 2) dX1_countWays_2 rfl ?_
  refine vI0 hX (pc := 3) sX1_43 (xs_1 hL) (c_X1_full l0 hL hI) (by decide) (Nat.le_refl 0) (Nat.le_refl 0) (Nat.le_of_ble_eq_true rfl) dX1_countWays_3 (fun x_3 I_3 J_3 h_3 => ?_)
  obtain ⟨rfl, rfl, h_3⟩ := h_3
  refine ww_istore hX (pc := 6) (lv' := [some (kR (some 1)), some (kI a), some (kI b), some (kI 0), some (kI x_3), none]) dX1_countWays_6 (by decide) rfl rfl ?_
  refine ww_iload_n hX (pc := 8) dX1_countWays_8 rfl ?_
  refine ww_istore hX (pc := 9) (lv' := [some (kR (some 1)), some (kI a), some (kI b), some (kI 0), some (kI x_3), some (kI a)]) dX1_countWays_9 (by decide) rfl rfl ?_
  have hl_11 : ∀ (n_11 : Nat) (mn : Int) (to : Int), (x_3 + 1 - to).toNat = n_11 → (0 ≤ to ∧ to < 2147483648) → WW X 11 [some (kR (some 1)), some (kI a), some (kI b), some (kI mn), some (kI x_3), some (kI to)] [] Ia Ja Ra Sa 0 0 := by
    intro n_11
    induction n_11 using Nat.strongRecOn with
    | ind n_11 ih_11 =>
      intro mn to hm_11 hv_11
      have hq_11 := Sh0_i hm_11
      clear hm_11
      refine ww_iload hX (pc := 11) dX1_countWays_11 rfl ?_
      refine ww_iload hX (pc := 13) dX1_countWays_13 rfl ?_
      refine ww_icmp_gt hX (pc := 15) (tgt := 58) dX1_countWays_15 (by decide) (fun h_15 => ?_) (fun h_15 => ?_)
      · simp only [w32_mod] at h_15
        refine ww_iload_n hX (pc := 58) dX1_countWays_58 rfl ?_
        refine rI hX (pc := 59) hT (Nat.le_refl 0) (Nat.le_refl 0) dX1_countWays_59 ?_
        exact ⟨rfl, rfl, trivial⟩
      · simp only [w32_mod] at h_15
        refine ww_iload_n hX (pc := 18) dX1_countWays_18 rfl ?_
        refine ww_aload_n hX (pc := 19) dX1_countWays_19 rfl ?_
        refine ww_getR hX (pc := 20) fX1_15 (by decide) (xs_1 hL) (xr_1_1 hL) dX1_countWays_20 ?_
        refine ww_iload hX (pc := 23) dX1_countWays_23 rfl ?_
        refine ww_iald hX (pc := 25) (xs_3 hL) (by decide) (by omega) (by omega) dX1_countWays_25 ?_
        refine ww_iload_n hX (pc := 26) dX1_countWays_26 rfl ?_
        refine ww_icmp_ne hX (pc := 27) (tgt := 44) dX1_countWays_27 (by decide) (fun h_27 => ?_) (fun h_27 => ?_)
        · simp only [w32_mod] at h_27
          refine ww_iconst hX (pc := 44) (x := 0) dX1_countWays_44 rfl ?_
          refine ww_iadd hX (pc := 45) dX1_countWays_45 ?_
          refine ww_nmI (fun v_46 hv_46 => ?_)
          refine ww_istore_n hX (pc := 46) (lv' := [some (kR (some 1)), some (kI a), some (kI b), some (kI v_46), some (kI x_3), some (kI to)]) dX1_countWays_46 (by decide) rfl rfl ?_
          refine ww_iload hX (pc := 47) dX1_countWays_47 rfl ?_
          refine ww_iconst hX (pc := 49) (x := 1) dX1_countWays_49 rfl ?_
          refine ww_iadd hX (pc := 50) dX1_countWays_50 ?_
          refine ww_iload_n hX (pc := 51) dX1_countWays_51 rfl ?_
          refine ww_ior hX (pc := 52) dX1_countWays_52 ?_
          refine ww_nmI (fun v_53 hv_53 => ?_)
          refine ww_istore hX (pc := 53) (lv' := [some (kR (some 1)), some (kI a), some (kI b), some (kI v_46), some (kI x_3), some (kI v_53)]) dX1_countWays_53 (by decide) rfl rfl ?_
          refine ww_goto hX (pc := 55) (tgt := 11) dX1_countWays_55 (by decide) ?_
          have hor := i_or_ge (a := to + 1) (b := a) (by omega) (by omega) (by omega) (by omega)
          exact ih_11 _ (by have hm9 := Sh0_e hq_11; omega) v_46 v_53 rfl ⟨by omega, by omega⟩
        · simp only [w32_mod] at h_27
          refine ww_aload_n hX (pc := 30) dX1_countWays_30 rfl ?_
          refine ww_iload_n hX (pc := 31) dX1_countWays_31 rfl ?_
          refine ww_iload hX (pc := 32) dX1_countWays_32 rfl ?_
          refine vI2 hX (pc := 34) sX1_54 (xs_1 hL) (c_X1_canLight l0 hL hI) (by decide) (Nat.le_refl 0) (Nat.le_refl 0) (Nat.le_of_ble_eq_true rfl) dX1_countWays_34 (fun x_34 I_34 J_34 h_34 => ?_)
          obtain ⟨rfl, rfl, h_34⟩ := h_34
          refine ww_if_eq hX (pc := 37) (tgt := 44) dX1_countWays_37 (by decide) (fun h_37 => ?_) (fun h_37 => ?_)
          · simp only [w32_mod] at h_37
            refine ww_iconst hX (pc := 44) (x := 0) dX1_countWays_44 rfl ?_
            refine ww_iadd hX (pc := 45) dX1_countWays_45 ?_
            refine ww_nmI (fun v_46 hv_46 => ?_)
            refine ww_istore_n hX (pc := 46) (lv' := [some (kR (some 1)), some (kI a), some (kI b), some (kI v_46), some (kI x_3), some (kI to)]) dX1_countWays_46 (by decide) rfl rfl ?_
            refine ww_iload hX (pc := 47) dX1_countWays_47 rfl ?_
            refine ww_iconst hX (pc := 49) (x := 1) dX1_countWays_49 rfl ?_
            refine ww_iadd hX (pc := 50) dX1_countWays_50 ?_
            refine ww_iload_n hX (pc := 51) dX1_countWays_51 rfl ?_
            refine ww_ior hX (pc := 52) dX1_countWays_52 ?_
            refine ww_nmI (fun v_53 hv_53 => ?_)
            refine ww_istore hX (pc := 53) (lv' := [some (kR (some 1)), some (kI a), some (kI b), some (kI v_46), some (kI x_3), some (kI v_53)]) dX1_countWays_53 (by decide) rfl rfl ?_
            refine ww_goto hX (pc := 55) (tgt := 11) dX1_countWays_55 (by decide) ?_
            have hor := i_or_ge (a := to + 1) (b := a) (by omega) (by omega) (by omega) (by omega)
            exact ih_11 _ (by have hm9 := Sh0_e hq_11; omega) v_46 v_53 rfl ⟨by omega, by omega⟩
          · simp only [w32_mod] at h_37
            refine ww_iconst hX (pc := 40) (x := 1) dX1_countWays_40 rfl ?_
            refine ww_goto hX (pc := 41) (tgt := 45) dX1_countWays_41 (by decide) ?_
            refine ww_iadd hX (pc := 45) dX1_countWays_45 ?_
            refine ww_nmI (fun v_46 hv_46 => ?_)
            refine ww_istore_n hX (pc := 46) (lv' := [some (kR (some 1)), some (kI a), some (kI b), some (kI v_46), some (kI x_3), some (kI to)]) dX1_countWays_46 (by decide) rfl rfl ?_
            refine ww_iload hX (pc := 47) dX1_countWays_47 rfl ?_
            refine ww_iconst hX (pc := 49) (x := 1) dX1_countWays_49 rfl ?_
            refine ww_iadd hX (pc := 50) dX1_countWays_50 ?_
            refine ww_iload_n hX (pc := 51) dX1_countWays_51 rfl ?_
            refine ww_ior hX (pc := 52) dX1_countWays_52 ?_
            refine ww_nmI (fun v_53 hv_53 => ?_)
            refine ww_istore hX (pc := 53) (lv' := [some (kR (some 1)), some (kI a), some (kI b), some (kI v_46), some (kI x_3), some (kI v_53)]) dX1_countWays_53 (by decide) rfl rfl ?_
            refine ww_goto hX (pc := 55) (tgt := 11) dX1_countWays_55 (by decide) ?_
            have hor := i_or_ge (a := to + 1) (b := a) (by omega) (by omega) (by omega) (by omega)
            exact ih_11 _ (by have hm9 := Sh0_e hq_11; omega) v_46 v_53 rfl ⟨by omega, by omega⟩
  exact hl_11 _ 0 a rfl ⟨by omega, by omega⟩
set_option maxHeartbeats 4000000 in
set_option maxRecDepth 20000 in
theorem c_X1_forget (l0 : Launch) {Ia Ja : aI1} {Ra : aR1} {Sa : aS1} (hL : LY Ra Sa)  : CT l0 1 0 0 mX1_forget [kR (some 1)] Ia Ja Ra Sa (cV (fun I' J' => Ja = J' ∧ I' = up2 (up2 (up2 (upR Ia 3 (fun j => if j < 256 then -1 else Ia 3 j)) 1 8 0) 1 10 0) 1 11 0) Ra Sa) := by
  refine ct_in pn_X1 (Nat.le_of_ble_eq_true rfl) (fun X hX hT hIn => ?_)
  have hX : aK l0 X cX1_forget 1 RX1 none 1 0 0 := hX
  change WW X 0 [some (kR (some 1))] [] Ia Ja Ra Sa 0 0
  refine ww_aload_n hX (pc := 0) dX1_forget_0 rfl ?_
  refine ww_getR hX (pc := 1) fX1_15 (by decide) (xs_1 hL) (xr_1_1 hL) dX1_forget_1 ?_
  refine ww_iconst hX (pc := 4) (x := (-1)) dX1_forget_4 rfl ?_
  refine sV2 hX (pc := 5) sX1_37 (c_J7_fill_53178 l0 (xs_3 hL) (by decide)) (by decide) (Nat.le_refl 0) (Nat.le_refl 0) (Nat.le_of_ble_eq_true rfl) dX1_forget_5 (fun I_5 J_5 h_5 => ?_)
  obtain ⟨rfl, eI_5⟩ := h_5
  refine ww_aload_n hX (pc := 8) dX1_forget_8 rfl ?_
  refine ww_iconst hX (pc := 9) (x := 0) dX1_forget_9 rfl ?_
  refine ww_putI hX (pc := 10) (fun h9 => absurd h9 (by decide)) gX1_58 rfl (xs_1 hL) dX1_forget_10 ?_
  refine ww_nmH (fun I_10 eI_10 => ?_)
  refine ww_aload_n hX (pc := 13) dX1_forget_13 rfl ?_
  refine ww_iconst hX (pc := 14) (x := 0) dX1_forget_14 rfl ?_
  refine ww_putI hX (pc := 15) (fun h9 => absurd h9 (by decide)) gX1_61 rfl (xs_1 hL) dX1_forget_15 ?_
  refine ww_nmH (fun I_15 eI_15 => ?_)
  refine ww_aload_n hX (pc := 18) dX1_forget_18 rfl ?_
  refine ww_iconst hX (pc := 19) (x := 0) dX1_forget_19 rfl ?_
  refine ww_putI hX (pc := 20) (fun h9 => absurd h9 (by decide)) gX1_64 rfl (xs_1 hL) dX1_forget_20 ?_
  refine ww_nmH (fun I_20 eI_20 => ?_)
  refine rV hX (pc := 23) hT (Nat.le_refl 0) (Nat.le_refl 0) dX1_forget_23 ?_
  exact ⟨rfl, by subst_vars; rfl⟩
end
section
def Kq (o b : Nat) (I I' : aI1) : Prop := ∀ k, k ≠ o → k ≠ b → I' k = I k
theorem Kq_rf {o b : Nat} {I : aI1} : Kq o b I I := fun _ _ _ => rfl
theorem Kq_tr {o b : Nat} {I I1 I2 : aI1} (h : Kq o b I I1) (h2 : Kq o b I1 I2) : Kq o b I I2 := fun k h3 h4 => (h2 k h3 h4).trans (h k h3 h4)
theorem Kq_up {o b : Nat} {I I1 : aI1} (h : Kq o b I I1) {k : Nat} (j : Nat) (v : Int) (hk : k = o ∨ k = b) : Kq o b I (up2 I1 k j v) := fun q h1 h2 => by
  rw [up2_off _ _ _ (by omega)]
  exact h q h1 h2
theorem Kq_upR {o b : Nat} {I I1 : aI1} (h : Kq o b I I1) {k : Nat} (f : Nat → Int) (hk : k = o ∨ k = b) : Kq o b I (upR I1 k f) := fun q h1 h2 => by
  rw [upR_n _ _ (by omega)]
  exact h q h1 h2
theorem Kq_kp {o b x y : Nat} {I I1 : aI1} (h : Kq o b I I1) (h1 : x ≤ o ∧ o < y) (h2 : x ≤ b ∧ b < y) : Kp x y I I1 := fun q hq => h q (by omega) (by omega)
theorem i_min_r {a b : Int} (h1 : -2147483648 ≤ a) (h2 : a < 2147483648) (h3 : -2147483648 ≤ b) (h4 : b < 2147483648) : i_min a b = min a b := by
  unfold i_min
  rw [w32_id h1 h2, w32_id h3 h4]
  split <;> omega
theorem i_max_r {a b : Int} (h1 : -2147483648 ≤ a) (h2 : a < 2147483648) (h3 : -2147483648 ≤ b) (h4 : b < 2147483648) : i_max a b = max a b := by
  unfold i_max
  rw [w32_id h1 h2, w32_id h3 h4]
  split <;> omega
theorem l_cmp_ne {a b : Int} (h : ¬ (l_cmp a b + 2147483648) % 4294967296 - 2147483648 = 0) : ¬ w64 a = w64 b := fun e => h (by
  unfold l_cmp
  rw [if_neg (by omega), if_pos e]
  rfl)
theorem l_max_1 (x : Int) : ¬ w64 (l_max 1 x) = 0 := by
  unfold l_max
  have h1 : w64 1 = 1 := rfl
  split
  · rw [h1]; decide
  · omega
theorem i_or_256 {a b : Int} (h0 : 0 ≤ a) (h1 : a < 256) (h2 : 0 ≤ b) (h3 : b < 256) : 0 ≤ i_or a b ∧ i_or a b < 256 := by
  have := i_or_lt 8 (a := a) (b := b) (by decide) h0 (by simpa using h1) h2 (by simpa using h3)
  have h := i_or_ge (a := a) (b := b) h0 (by omega) h2 (by omega)
  exact ⟨by omega, by simpa using this⟩
theorem i_xor_256 {a b : Int} (h0 : 0 ≤ a) (h1 : a < 256) (h2 : 0 ≤ b) (h3 : b < 256) : 0 ≤ i_xor a b ∧ i_xor a b < 256 := by
  have := i_xor_lt 8 (a := a) (b := b) (by decide) h0 (by simpa using h1) h2 (by simpa using h3)
  exact ⟨this.1, by simpa using this.2⟩
theorem i_shl_128 {n : Int} (h0 : 0 ≤ n) (h1 : n ≤ 7) : 1 ≤ i_shl 1 n ∧ i_shl 1 n ≤ 128 := by
  rcases (show n = 0 ∨ n = 1 ∨ n = 2 ∨ n = 3 ∨ n = 4 ∨ n = 5 ∨ n = 6 ∨ n = 7 by omega) with rfl | rfl | rfl | rfl | rfl | rfl | rfl | rfl <;> decide +kernel
set_option maxHeartbeats 4000000 in
set_option maxRecDepth 20000 in
theorem c_X5_fillBest (l0 : Launch) {Ia Ja : aI1} {Ra : aR1} {Sa : aS1} {t o b c no nc : Nat} (hst : Sa[t]? = some (11, 0)) (hr0 : Ra t 0 = some o) (hr1 : Ra t 1 = some b) (hso : Sa[o]? = some (0, no)) (hsb : Sa[b]? = some (0, 8)) (hsc : Sa[c]? = some (0, nc)) (hno : no ≤ 65536) (hnc : nc ≤ 65536) (hco : c ≠ o) (hcb : c ≠ b) (hcr : ∀ j, j < nc → -2147483648 ≤ Ia c j ∧ Ia c j < 2147483648) {a g e : Int} (ha0 : -1 ≤ a) (ha : a < no) (ha2 : a < nc) (he : 0 ≤ e) (he2 : e ≤ 65536)  : CT l0 1 0 0 mX5_fillBest [kR (some t), kR (some c), kI a, kI g, kI e] Ia Ja Ra Sa (cV (fun I' J' => Ja = J' ∧ Kq o b Ia I') Ra Sa) := by
  refine ct_in pn_X5 (Nat.le_of_ble_eq_true rfl) (fun X hX hT hIn => ?_)
  have hX : aK l0 X cX5_fillBest 7 RX5 none 1 0 0 := hX
  change WW X 0 [some (kR (some t)), some (kR (some c)), some (kI a), some (kI g), some (kI e), none, none] [] Ia Ja Ra Sa 0 0
  refine ww_aload_n hX (pc := 0) dX5_fillBest_0 rfl ?_
  refine ww_getR hX (pc := 1) fX5_9 (by decide) hst hr1 dX5_fillBest_1 ?_
  refine ww_iconst hX (pc := 4) (x := (-1)) dX5_fillBest_4 rfl ?_
  refine sV2 hX (pc := 5) sX5_28 (c_J7_fill_53178 l0 hsb (by decide)) (by decide) (Nat.le_refl 0) (Nat.le_refl 0) (Nat.le_of_ble_eq_true rfl) dX5_fillBest_5 (fun I_5 J_5 h_5 => ?_)
  obtain ⟨rfl, eI_5⟩ := h_5
  have kI_5 : Kq o b Ia I_5 := by rw [eI_5]; exact Kq_upR Kq_rf _ (by simp)
  refine ww_iload hX (pc := 8) dX5_fillBest_8 rfl ?_
  refine ww_iconst hX (pc := 10) (x := 1) dX5_fillBest_10 rfl ?_
  refine ww_iadd hX (pc := 11) dX5_fillBest_11 ?_
  refine ww_iload hX (pc := 12) dX5_fillBest_12 rfl ?_
  refine ww_ior hX (pc := 14) dX5_fillBest_14 ?_
  refine ww_nmI (fun v_15 hv_15 => ?_)
  refine ww_istore hX (pc := 15) (lv' := [some (kR (some t)), some (kR (some c)), some (kI a), some (kI g), some (kI e), some (kI v_15), none]) dX5_fillBest_15 (by decide) rfl rfl ?_
  have hor0 := i_or_ge (a := e + 1) (b := e) (by omega) (by omega) (by omega) (by omega)
  have hl_17 : ∀ (n_17 : Nat) (to : Int) (I2 : aI1), (a + 1 - to).toNat = n_17 → (Kq o b Ia I2 ∧ 0 ≤ to ∧ to < 2147483648) → WW X 17 [some (kR (some t)), some (kR (some c)), some (kI a), some (kI g), some (kI e), some (kI to), none] [] I2 Ja Ra Sa 0 0 := by
    intro n_17
    induction n_17 using Nat.strongRecOn with
    | ind n_17 ih_17 =>
      intro to I2 hm_17 hv_17
      have hq_17 := Sh0_i hm_17
      clear hm_17
      obtain ⟨kI2, hto0, hto1⟩ := hv_17
      refine ww_iload hX (pc := 17) dX5_fillBest_17 rfl ?_
      refine ww_iload_n hX (pc := 19) dX5_fillBest_19 rfl ?_
      refine ww_icmp_gt hX (pc := 20) (tgt := 87) dX5_fillBest_20 (by decide) (fun h_20 => ?_) (fun h_20 => ?_)
      · simp only [w32_mod] at h_20
        refine rV hX (pc := 87) hT (Nat.le_refl 0) (Nat.le_refl 0) dX5_fillBest_87 ?_
        exact ⟨rfl, kI2⟩
      · simp only [w32_mod] at h_20
        have hcr2 := hcr to.toNat (by omega)
        rw [← kI2 c hco hcb] at hcr2
        refine ww_aload_n hX (pc := 23) dX5_fillBest_23 rfl ?_
        refine ww_iload hX (pc := 24) dX5_fillBest_24 rfl ?_
        refine ww_iald hX (pc := 26) hsc (by omega) (by omega) (by omega) dX5_fillBest_26 ?_
        refine ww_nmI (fun v_27 hv_27 => ?_)
        refine ww_istore hX (pc := 27) (lv' := [some (kR (some t)), some (kR (some c)), some (kI a), some (kI g), some (kI e), some (kI to), some (kI v_27)]) dX5_fillBest_27 (by decide) rfl rfl ?_
        refine ww_iload hX (pc := 29) dX5_fillBest_29 rfl ?_
        refine ww_if_lt hX (pc := 31) (tgt := 75) dX5_fillBest_31 (by decide) (fun h_31 => ?_) (fun h_31 => ?_)
        · simp only [w32_mod] at h_31
          refine ww_iload hX (pc := 75) dX5_fillBest_75 rfl ?_
          refine ww_iconst hX (pc := 77) (x := 1) dX5_fillBest_77 rfl ?_
          refine ww_iadd hX (pc := 78) dX5_fillBest_78 ?_
          refine ww_iload hX (pc := 79) dX5_fillBest_79 rfl ?_
          refine ww_ior hX (pc := 81) dX5_fillBest_81 ?_
          refine ww_nmI (fun v_82 hv_82 => ?_)
          refine ww_istore hX (pc := 82) (lv' := [some (kR (some t)), some (kR (some c)), some (kI a), some (kI g), some (kI e), some (kI v_82), some (kI v_27)]) dX5_fillBest_82 (by decide) rfl rfl ?_
          refine ww_goto hX (pc := 84) (tgt := 17) dX5_fillBest_84 (by decide) ?_
          refine ww_sub [some (kR (some t)), some (kR (some c)), some (kI a), some (kI g), some (kI e), some (kI v_82), none] (aLe_s (aLe_s (aLe_s (aLe_s (aLe_s (aLe_s (aLe_n aLe_0))))))) ?_
          have hor := i_or_ge (a := to + 1) (b := e) (by omega) (by omega) (by omega) (by omega)
          exact ih_17 _ (by have hm9 := Sh0_e hq_17; omega) v_82 I2 rfl ⟨kI2, by omega, by omega⟩
        · simp only [w32_mod] at h_31
          refine ww_iload hX (pc := 34) dX5_fillBest_34 rfl ?_
          refine ww_bipush hX (pc := 36) (x := 8) dX5_fillBest_36 (by decide) ?_
          refine ww_icmp_ge hX (pc := 38) (tgt := 75) dX5_fillBest_38 (by decide) (fun h_38 => ?_) (fun h_38 => ?_)
          · simp only [w32_mod] at h_38
            refine ww_iload hX (pc := 75) dX5_fillBest_75 rfl ?_
            refine ww_iconst hX (pc := 77) (x := 1) dX5_fillBest_77 rfl ?_
            refine ww_iadd hX (pc := 78) dX5_fillBest_78 ?_
            refine ww_iload hX (pc := 79) dX5_fillBest_79 rfl ?_
            refine ww_ior hX (pc := 81) dX5_fillBest_81 ?_
            refine ww_nmI (fun v_82 hv_82 => ?_)
            refine ww_istore hX (pc := 82) (lv' := [some (kR (some t)), some (kR (some c)), some (kI a), some (kI g), some (kI e), some (kI v_82), some (kI v_27)]) dX5_fillBest_82 (by decide) rfl rfl ?_
            refine ww_goto hX (pc := 84) (tgt := 17) dX5_fillBest_84 (by decide) ?_
            refine ww_sub [some (kR (some t)), some (kR (some c)), some (kI a), some (kI g), some (kI e), some (kI v_82), none] (aLe_s (aLe_s (aLe_s (aLe_s (aLe_s (aLe_s (aLe_n aLe_0))))))) ?_
            have hor := i_or_ge (a := to + 1) (b := e) (by omega) (by omega) (by omega) (by omega)
            exact ih_17 _ (by have hm9 := Sh0_e hq_17; omega) v_82 I2 rfl ⟨kI2, by omega, by omega⟩
          · simp only [w32_mod] at h_38
            refine ww_iload hX (pc := 41) dX5_fillBest_41 rfl ?_
            refine ww_iload hX (pc := 43) dX5_fillBest_43 rfl ?_
            refine ww_ixor hX (pc := 45) dX5_fillBest_45 ?_
            refine ww_iload_n hX (pc := 46) dX5_fillBest_46 rfl ?_
            refine ww_iand hX (pc := 47) dX5_fillBest_47 ?_
            refine ww_if_ne hX (pc := 48) (tgt := 75) dX5_fillBest_48 (by decide) (fun h_48 => ?_) (fun h_48 => ?_)
            · simp only [w32_mod] at h_48
              refine ww_iload hX (pc := 75) dX5_fillBest_75 rfl ?_
              refine ww_iconst hX (pc := 77) (x := 1) dX5_fillBest_77 rfl ?_
              refine ww_iadd hX (pc := 78) dX5_fillBest_78 ?_
              refine ww_iload hX (pc := 79) dX5_fillBest_79 rfl ?_
              refine ww_ior hX (pc := 81) dX5_fillBest_81 ?_
              refine ww_nmI (fun v_82 hv_82 => ?_)
              refine ww_istore hX (pc := 82) (lv' := [some (kR (some t)), some (kR (some c)), some (kI a), some (kI g), some (kI e), some (kI v_82), some (kI v_27)]) dX5_fillBest_82 (by decide) rfl rfl ?_
              refine ww_goto hX (pc := 84) (tgt := 17) dX5_fillBest_84 (by decide) ?_
              refine ww_sub [some (kR (some t)), some (kR (some c)), some (kI a), some (kI g), some (kI e), some (kI v_82), none] (aLe_s (aLe_s (aLe_s (aLe_s (aLe_s (aLe_s (aLe_n aLe_0))))))) ?_
              have hor := i_or_ge (a := to + 1) (b := e) (by omega) (by omega) (by omega) (by omega)
              exact ih_17 _ (by have hm9 := Sh0_e hq_17; omega) v_82 I2 rfl ⟨kI2, by omega, by omega⟩
            · simp only [w32_mod] at h_48
              refine ww_aload_n hX (pc := 51) dX5_fillBest_51 rfl ?_
              refine ww_getR hX (pc := 52) fX5_9 (by decide) hst hr1 dX5_fillBest_52 ?_
              refine ww_iload hX (pc := 55) dX5_fillBest_55 rfl ?_
              refine ww_aload_n hX (pc := 57) dX5_fillBest_57 rfl ?_
              refine ww_getR hX (pc := 58) fX5_9 (by decide) hst hr1 dX5_fillBest_58 ?_
              refine ww_iload hX (pc := 61) dX5_fillBest_61 rfl ?_
              refine ww_iald hX (pc := 63) hsb (by decide) (by omega) (by omega) dX5_fillBest_63 ?_
              refine ww_aload_n hX (pc := 64) dX5_fillBest_64 rfl ?_
              refine ww_getR hX (pc := 65) fX5_15 (by decide) hst hr0 dX5_fillBest_65 ?_
              refine ww_iload hX (pc := 68) dX5_fillBest_68 rfl ?_
              refine ww_iald hX (pc := 70) hso (by omega) (by omega) (by omega) dX5_fillBest_70 ?_
              refine ww_mmax hX (pc := 71) tb_750 tb_460 tb_13 tb_461 (by decide) (Nat.le_refl 0) (Nat.le_refl 0) (Nat.le_of_ble_eq_true rfl) dX5_fillBest_71 ?_
              refine ww_iast hX (pc := 74) hsb (by decide) (by omega) (by omega) dX5_fillBest_74 ?_
              refine ww_nmH (fun I_74 eI_74 => ?_)
              have kI_74 : Kq o b Ia I_74 := by rw [eI_74]; exact Kq_up kI2 _ _ (by simp)
              refine ww_iload hX (pc := 75) dX5_fillBest_75 rfl ?_
              refine ww_iconst hX (pc := 77) (x := 1) dX5_fillBest_77 rfl ?_
              refine ww_iadd hX (pc := 78) dX5_fillBest_78 ?_
              refine ww_iload hX (pc := 79) dX5_fillBest_79 rfl ?_
              refine ww_ior hX (pc := 81) dX5_fillBest_81 ?_
              refine ww_nmI (fun v_82 hv_82 => ?_)
              refine ww_istore hX (pc := 82) (lv' := [some (kR (some t)), some (kR (some c)), some (kI a), some (kI g), some (kI e), some (kI v_82), some (kI v_27)]) dX5_fillBest_82 (by decide) rfl rfl ?_
              refine ww_goto hX (pc := 84) (tgt := 17) dX5_fillBest_84 (by decide) ?_
              refine ww_sub [some (kR (some t)), some (kR (some c)), some (kI a), some (kI g), some (kI e), some (kI v_82), none] (aLe_s (aLe_s (aLe_s (aLe_s (aLe_s (aLe_s (aLe_n aLe_0))))))) ?_
              have hor := i_or_ge (a := to + 1) (b := e) (by omega) (by omega) (by omega) (by omega)
              exact ih_17 _ (by have hm9 := Sh0_e hq_17; omega) v_82 I_74 rfl ⟨kI_74, by omega, by omega⟩
  exact hl_17 _ v_15 I_5 rfl ⟨kI_5, by omega, by omega⟩
set_option maxHeartbeats 4000000 in
set_option maxRecDepth 20000 in
theorem c_X5_fill (l0 : Launch) {Ia Ja : aI1} {Ra : aR1} {Sa : aS1} {t o b c no nc : Nat} (hst : Sa[t]? = some (11, 0)) (hr0 : Ra t 0 = some o) (hr1 : Ra t 1 = some b) (hso : Sa[o]? = some (0, no)) (hsb : Sa[b]? = some (0, 8)) (hsc : Sa[c]? = some (0, nc)) (hno : no ≤ 65536) (hnc : nc ≤ 65536) (hco : c ≠ o) (hcb : c ≠ b) (hcr : ∀ j, j < nc → -2147483648 ≤ Ia c j ∧ Ia c j < 2147483648) {a g q : Int} (ha0 : 0 ≤ a) (ha : a ≤ 65536) (hon : 1 ≤ no) (hcn : no ≤ nc)  : CT l0 2 0 0 mX5_fill [kR (some t), kR (some c), kI a, kI g, kI q] Ia Ja Ra Sa (cV (fun I' J' => Ja = J' ∧ Kq o b Ia I') Ra Sa) := by
  refine ct_in pn_X5 (Nat.le_of_ble_eq_true rfl) (fun X hX hT hIn => ?_)
  have hX : aK l0 X cX5_fill 9 RX5 none 2 0 0 := hX
  change WW X 0 [some (kR (some t)), some (kR (some c)), some (kI a), some (kI g), some (kI q), none, none, none, none] [] Ia Ja Ra Sa 0 0
  refine ww_iload_n hX (pc := 0) dX5_fill_0 rfl ?_
  refine ww_aload_n hX (pc := 1) dX5_fill_1 rfl ?_
  refine ww_getR hX (pc := 2) fX5_15 (by decide) hst hr0 dX5_fill_2 ?_
  refine ww_alen hX (pc := 5) (by decide) hso dX5_fill_5 ?_
  refine ww_iconst hX (pc := 6) (x := 1) dX5_fill_6 rfl ?_
  refine ww_isub hX (pc := 7) dX5_fill_7 ?_
  refine ww_mmin hX (pc := 8) tb_744 tb_579 tb_13 tb_580 (by decide) (Nat.le_refl 0) (Nat.le_refl 0) (Nat.le_of_ble_eq_true rfl) dX5_fill_8 ?_
  refine ww_nmI (fun v_11 hv_11 => ?_)
  refine ww_istore hX (pc := 11) (lv' := [some (kR (some t)), some (kR (some c)), some (kI a), some (kI g), some (kI q), some (kI v_11), none, none, none]) dX5_fill_11 (by decide) rfl rfl ?_
  rw [i_min_r (by omega) (by omega) (by omega) (by omega)] at hv_11
  refine ww_iload hX (pc := 13) dX5_fill_13 rfl ?_
  refine ww_istore hX (pc := 15) (lv' := [some (kR (some t)), some (kR (some c)), some (kI a), some (kI g), some (kI q), some (kI v_11), some (kI v_11), none, none]) dX5_fill_15 (by decide) rfl rfl ?_
  have hl_17 : ∀ (n_17 : Nat) (e : Int) (I2 : aI1), (e + 1).toNat = n_17 → (Kq o b Ia I2 ∧ -1 ≤ e ∧ e ≤ v_11) → WW X 17 [some (kR (some t)), some (kR (some c)), some (kI a), some (kI g), some (kI q), some (kI v_11), some (kI e), none, none] [] I2 Ja Ra Sa 0 0 := by
    intro n_17
    induction n_17 using Nat.strongRecOn with
    | ind n_17 ih_17 =>
      intro e I2 hm_17 hv_17
      have hq_17 := Sh0_i hm_17
      clear hm_17
      obtain ⟨kI2, he0, he1⟩ := hv_17
      refine ww_iload hX (pc := 17) dX5_fill_17 rfl ?_
      refine ww_if_lt hX (pc := 19) (tgt := 99) dX5_fill_19 (by decide) (fun h_19 => ?_) (fun h_19 => ?_)
      · simp only [w32_mod] at h_19
        refine rV hX (pc := 99) hT (Nat.le_refl 0) (Nat.le_refl 0) dX5_fill_99 ?_
        exact ⟨rfl, kI2⟩
      · simp only [w32_mod] at h_19
        refine ww_aload_n hX (pc := 22) dX5_fill_22 rfl ?_
        refine ww_aload_n hX (pc := 23) dX5_fill_23 rfl ?_
        refine ww_iload hX (pc := 24) dX5_fill_24 rfl ?_
        refine ww_iload_n hX (pc := 26) dX5_fill_26 rfl ?_
        refine ww_iload hX (pc := 27) dX5_fill_27 rfl ?_
        refine vV4 hX (pc := 29) sX5_24 hst (c_X5_fillBest l0 (Ia := I2) hst hr0 hr1 hso hsb hsc hno hnc hco hcb (by rw [kI2 c hco hcb]; exact hcr) (by omega) (by omega) (by omega) (by omega) (by omega)) (by decide) (Nat.le_refl 0) (Nat.le_refl 0) (Nat.le_of_ble_eq_true rfl) dX5_fill_29 (fun I_29 J_29 h_29 => ?_)
        obtain ⟨rfl, h_29⟩ := h_29
        have kI_29 : Kq o b Ia I_29 := Kq_tr kI2 h_29
        refine ww_bipush hX (pc := 32) (x := 8) dX5_fill_32 (by decide) ?_
        refine ww_istore hX (pc := 34) (lv' := [some (kR (some t)), some (kR (some c)), some (kI a), some (kI g), some (kI q), some (kI v_11), some (kI e), some (kI 8), none]) dX5_fill_34 (by decide) rfl rfl ?_
        refine ww_iconst hX (pc := 36) (x := 0) dX5_fill_36 rfl ?_
        refine ww_istore hX (pc := 37) (lv' := [some (kR (some t)), some (kR (some c)), some (kI a), some (kI g), some (kI q), some (kI v_11), some (kI e), some (kI 8), some (kI 0)]) dX5_fill_37 (by decide) rfl rfl ?_
        have hl_39 : ∀ (n_39 : Nat) (lst : Int) (w : Int), (8 - w).toNat = n_39 → (0 ≤ w ∧ w ≤ 8) → WW X 39 [some (kR (some t)), some (kR (some c)), some (kI a), some (kI g), some (kI q), some (kI v_11), some (kI e), some (kI lst), some (kI w)] [] I_29 Ja Ra Sa 0 0 := by
          intro n_39
          induction n_39 using Nat.strongRecOn with
          | ind n_39 ih_39 =>
            intro lst w hm_39 hv_39
            have hq_39 := Sh0_i hm_39
            clear hm_39
            obtain ⟨hw0, hw1⟩ := hv_39
            refine ww_iload hX (pc := 39) dX5_fill_39 rfl ?_
            refine ww_iload hX (pc := 41) dX5_fill_41 rfl ?_
            refine ww_icmp_ge hX (pc := 43) (tgt := 84) dX5_fill_43 (by decide) (fun h_43 => ?_) (fun h_43 => ?_)
            · simp only [w32_mod] at h_43
              refine ww_aload_n hX (pc := 84) dX5_fill_84 rfl ?_
              refine ww_getR hX (pc := 85) fX5_15 (by decide) hst hr0 dX5_fill_85 ?_
              refine ww_iload hX (pc := 88) dX5_fill_88 rfl ?_
              refine ww_iload hX (pc := 90) dX5_fill_90 rfl ?_
              refine ww_iast hX (pc := 92) hso (by omega) (by omega) (by omega) dX5_fill_92 ?_
              refine ww_nmH (fun I_92 eI_92 => ?_)
              have kI_92 : Kq o b Ia I_92 := by rw [eI_92]; exact Kq_up kI_29 _ _ (by simp)
              refine ww_iinc hX (pc := 93) (lv' := [some (kR (some t)), some (kR (some c)), some (kI a), some (kI g), some (kI q), some (kI v_11), some (kI (e + (-1))), some (kI lst), some (kI w)]) dX5_fill_93 rfl (by decide) rfl rfl ?_
              refine ww_goto hX (pc := 96) (tgt := 17) dX5_fill_96 (by decide) ?_
              refine ww_sub [some (kR (some t)), some (kR (some c)), some (kI a), some (kI g), some (kI q), some (kI v_11), some (kI (e + (-1))), none, none] (aLe_s (aLe_s (aLe_s (aLe_s (aLe_s (aLe_s (aLe_s (aLe_n (aLe_n aLe_0))))))))) ?_
              exact ih_17 _ (by have hm9 := Sh0_e hq_17; omega) (e + (-1)) I_92 rfl ⟨kI_92, by omega, by omega⟩
            · simp only [w32_mod] at h_43
              refine ww_iload hX (pc := 46) dX5_fill_46 rfl ?_
              refine ww_bipush hX (pc := 48) (x := 8) dX5_fill_48 (by decide) ?_
              refine ww_icmp_ge hX (pc := 50) (tgt := 84) dX5_fill_50 (by decide) (fun h_50 => ?_) (fun h_50 => ?_)
              · simp only [w32_mod] at h_50
                refine ww_aload_n hX (pc := 84) dX5_fill_84 rfl ?_
                refine ww_getR hX (pc := 85) fX5_15 (by decide) hst hr0 dX5_fill_85 ?_
                refine ww_iload hX (pc := 88) dX5_fill_88 rfl ?_
                refine ww_iload hX (pc := 90) dX5_fill_90 rfl ?_
                refine ww_iast hX (pc := 92) hso (by omega) (by omega) (by omega) dX5_fill_92 ?_
                refine ww_nmH (fun I_92 eI_92 => ?_)
                have kI_92 : Kq o b Ia I_92 := by rw [eI_92]; exact Kq_up kI_29 _ _ (by simp)
                refine ww_iinc hX (pc := 93) (lv' := [some (kR (some t)), some (kR (some c)), some (kI a), some (kI g), some (kI q), some (kI v_11), some (kI (e + (-1))), some (kI lst), some (kI w)]) dX5_fill_93 rfl (by decide) rfl rfl ?_
                refine ww_goto hX (pc := 96) (tgt := 17) dX5_fill_96 (by decide) ?_
                refine ww_sub [some (kR (some t)), some (kR (some c)), some (kI a), some (kI g), some (kI q), some (kI v_11), some (kI (e + (-1))), none, none] (aLe_s (aLe_s (aLe_s (aLe_s (aLe_s (aLe_s (aLe_s (aLe_n (aLe_n aLe_0))))))))) ?_
                exact ih_17 _ (by have hm9 := Sh0_e hq_17; omega) (e + (-1)) I_92 rfl ⟨kI_92, by omega, by omega⟩
              · simp only [w32_mod] at h_50
                refine ww_iload hX (pc := 53) dX5_fill_53 rfl ?_
                refine ww_aload_n hX (pc := 55) dX5_fill_55 rfl ?_
                refine ww_iload hX (pc := 56) dX5_fill_56 rfl ?_
                refine ww_iald hX (pc := 58) hsc (by omega) (by omega) (by omega) dX5_fill_58 ?_
                refine ww_icmp_eq hX (pc := 59) (tgt := 78) dX5_fill_59 (by decide) (fun h_59 => ?_) (fun h_59 => ?_)
                · simp only [w32_mod] at h_59
                  refine ww_iinc hX (pc := 78) (lv' := [some (kR (some t)), some (kR (some c)), some (kI a), some (kI g), some (kI q), some (kI v_11), some (kI e), some (kI lst), some (kI (w + 1))]) dX5_fill_78 rfl (by decide) rfl rfl ?_
                  refine ww_goto hX (pc := 81) (tgt := 39) dX5_fill_81 (by decide) ?_
                  exact ih_39 _ (by have hm9 := Sh0_e hq_39; omega) lst (w + 1) rfl ⟨by omega, by omega⟩
                · simp only [w32_mod] at h_59
                  refine ww_iload hX (pc := 62) dX5_fill_62 rfl ?_
                  refine ww_aload_n hX (pc := 64) dX5_fill_64 rfl ?_
                  refine ww_getR hX (pc := 65) fX5_9 (by decide) hst hr1 dX5_fill_65 ?_
                  refine ww_iload hX (pc := 68) dX5_fill_68 rfl ?_
                  refine ww_iald hX (pc := 70) hsb (by decide) (by omega) (by omega) dX5_fill_70 ?_
                  refine ww_iconst hX (pc := 71) (x := 1) dX5_fill_71 rfl ?_
                  refine ww_iadd hX (pc := 72) dX5_fill_72 ?_
                  refine ww_mmin hX (pc := 73) tb_744 tb_579 tb_13 tb_580 (by decide) (Nat.le_refl 0) (Nat.le_refl 0) (Nat.le_of_ble_eq_true rfl) dX5_fill_73 ?_
                  refine ww_nmI (fun v_76 hv_76 => ?_)
                  refine ww_istore hX (pc := 76) (lv' := [some (kR (some t)), some (kR (some c)), some (kI a), some (kI g), some (kI q), some (kI v_11), some (kI e), some (kI v_76), some (kI w)]) dX5_fill_76 (by decide) rfl rfl ?_
                  refine ww_iinc hX (pc := 78) (lv' := [some (kR (some t)), some (kR (some c)), some (kI a), some (kI g), some (kI q), some (kI v_11), some (kI e), some (kI v_76), some (kI (w + 1))]) dX5_fill_78 rfl (by decide) rfl rfl ?_
                  refine ww_goto hX (pc := 81) (tgt := 39) dX5_fill_81 (by decide) ?_
                  exact ih_39 _ (by have hm9 := Sh0_e hq_39; omega) v_76 (w + 1) rfl ⟨by omega, by omega⟩
        exact hl_39 _ 8 0 rfl ⟨by omega, by omega⟩
  exact hl_17 _ v_11 Ia rfl ⟨Kq_rf, by omega, by omega⟩
end
