/-! the reference's evaluator: what it gives is what the parser tells -/
def zRv (la B B' x : Int) (r : Option Int) : Prop := (la = 1 → B = 0 → (∀ w, r = some w → x = w ∧ B' = 0 ∧ -1000000000 ≤ w ∧ w ≤ 1000000000) ∧ (r = none → B' = 1)) ∧ (¬ (la = 1 ∧ B = 0) → B' = B)
def zBnd (la B v x B' : Int) : Prop := (la = 0 → B' = B) ∧ (la = 1 → B = 1 → B' = 1) ∧ (la = 1 → B = 0 → -2000000000000000000 ≤ v → v ≤ 2000000000000000000 → ((-1000000000 ≤ v ∧ v ≤ 1000000000) → x = v ∧ B' = 0) ∧ (¬ (-1000000000 ≤ v ∧ v ≤ 1000000000) → B' = 1))
def zG (P : zP) (a b : Nat) (D : zD) : Prop := ∃ l l', P a l = .inr (b, l', D)
def zJ2 (op : Int) (r1 r2 : Option Int) : Option Int := match r1 with
  | none => none
  | some a => match r2 with
    | none => none
    | some b => zJn op a b
theorem zJD_2 {op : Int} {D F : zD} {en : zE} : zJD op D F en = zJ2 op (D en) (F en) := rfl
theorem zRv_cg {la B B' B2 B2' x : Int} {r : Option Int} (h : zRv la B B' x r) (e1 : B2 = B) (e2 : B2' = B') : zRv la B2 B2' x r := by rw [e1, e2]; exact h
theorem zRv_off {la B B' x : Int} {r : Option Int} (h : ¬ (la = 1 ∧ B = 0)) (e : B' = B) : zRv la B B' x r := ⟨fun h1 h2 => absurd ⟨h1, h2⟩ h, fun _ => e⟩
theorem zRv_on {la B B' x w : Int} {r : Option Int} (hr : r = some w) (hx : x = w) (e : B' = B) (h1 : -1000000000 ≤ w) (h2 : w ≤ 1000000000) : zRv la B B' x r := by
  rw [hr]
  exact ⟨fun _ hB => ⟨fun u hu => (by cases hu; exact ⟨hx, by omega, h1, h2⟩), fun hn => (by cases hn)⟩, fun _ => e⟩
theorem zRv_op {la B0 B6 B7 B8 v w y x op : Int} {r r' : Option Int} (hla : 0 ≤ la ∧ la ≤ 1) (hB : B0 = 0 ∨ B0 = 1) (h1 : zRv la B0 B6 v r) (h2 : zRv la B6 B7 w r') (hb : zBnd la B7 y x B8) (hy : -1000000000 ≤ v → v ≤ 1000000000 → -1000000000 ≤ w → w ≤ 1000000000 → y = zJv op v w ∧ -2000000000000000000 ≤ y ∧ y ≤ 2000000000000000000 ∧ ¬ ((op = 147 ∨ op = 137) ∧ w = 0)) : zRv la B0 B8 x (zJ2 op r r') := by
  by_cases hc : la = 1 ∧ B0 = 0
  · obtain ⟨rfl, rfl⟩ := hc
    refine ⟨fun _ _ => ?_, fun h => absurd ⟨rfl, rfl⟩ h⟩
    obtain ⟨g1, g2⟩ := h1.1 rfl rfl
    cases r with
    | none =>
      have e6 := g2 rfl
      have e7 := h2.2 (by omega)
      have e8 := hb.2.1 rfl (by omega)
      exact ⟨fun u hu => (by cases hu), fun _ => e8⟩
    | some a =>
      obtain ⟨rfl, e6, a1, a2⟩ := g1 a rfl
      obtain ⟨k1, k2⟩ := h2.1 rfl e6
      cases r' with
      | none =>
        have e7 := k2 rfl
        exact ⟨fun u hu => (by cases hu), fun _ => hb.2.1 rfl e7⟩
      | some b =>
        obtain ⟨rfl, e7, b1, b2⟩ := k1 b rfl
        obtain ⟨y1, y2, y3, y4⟩ := hy a1 a2 b1 b2
        obtain ⟨m1, m2⟩ := hb.2.2 rfl e7 y2 y3
        have e : zJ2 op (some v) (some w) = (if zJv op v w ≤ 1000000000 ∧ -1000000000 ≤ zJv op v w then some (zJv op v w) else none) := if_neg y4
        rw [e]
        by_cases hr : -1000000000 ≤ y ∧ y ≤ 1000000000
        · rw [if_pos (by omega)]
          obtain ⟨n1, n2⟩ := m1 hr
          exact ⟨fun u hu => (by cases hu; exact ⟨by omega, n2, by omega, by omega⟩), fun hn => (by cases hn)⟩
        · rw [if_neg (by omega)]
          exact ⟨fun u hu => (by cases hu), fun _ => m2 hr⟩
  · refine ⟨fun g1 g2 => absurd ⟨g1, g2⟩ hc, fun _ => ?_⟩
    have e6 := h1.2 hc
    have e7 := h2.2 (by omega)
    rcases (show la = 0 ∨ la = 1 by omega) with rfl | rfl
    · have := hb.1 rfl
      omega
    · have := hb.2.1 rfl (by omega)
      omega
theorem zRv_z {la B0 B6 B7 B2 B8 v w y x op : Int} {r r' : Option Int} (hla : 0 ≤ la ∧ la ≤ 1) (hB : B0 = 0 ∨ B0 = 1) (h1 : zRv la B0 B6 v r) (h2 : zRv la B6 B7 w r') (hw : -1000000000 ≤ w → w ≤ 1000000000 → w = 0) (ho : op = 147 ∨ op = 137) (h20 : la = 0 → B2 = B7) (h21 : la = 1 → B2 = 1) (hb : zBnd la B2 y x B8) : zRv la B0 B8 x (zJ2 op r r') := by
  by_cases hc : la = 1 ∧ B0 = 0
  · obtain ⟨rfl, rfl⟩ := hc
    have e8 := hb.2.1 rfl (h21 rfl)
    refine ⟨fun _ _ => ⟨fun u hu => ?_, fun _ => e8⟩, fun h => absurd ⟨rfl, rfl⟩ h⟩
    exfalso
    obtain ⟨g1, g2⟩ := h1.1 rfl rfl
    cases r with
    | none => cases hu
    | some a =>
      obtain ⟨rfl, e6, a1, a2⟩ := g1 a rfl
      obtain ⟨k1, k2⟩ := h2.1 rfl e6
      cases r' with
      | none => cases hu
      | some b =>
        obtain ⟨rfl, e7, b1, b2⟩ := k1 b rfl
        have e : zJ2 op (some v) (some w) = none := if_pos ⟨ho, hw b1 b2⟩
        rw [e] at hu
        cases hu
  · refine ⟨fun g1 g2 => absurd ⟨g1, g2⟩ hc, fun _ => ?_⟩
    have e6 := h1.2 hc
    have e7 := h2.2 (by omega)
    rcases (show la = 0 ∨ la = 1 by omega) with rfl | rfl
    · have := hb.1 rfl
      have := h20 rfl
      omega
    · have := hb.2.1 rfl (h21 rfl)
      omega
theorem tdiv_le {a b : Int} (h1 : -1000000000 ≤ a) (h2 : a ≤ 1000000000) : -1000000000 ≤ a.tdiv b ∧ a.tdiv b ≤ 1000000000 := by
  have h3 : (a.tdiv b).natAbs = a.natAbs / b.natAbs := Int.natAbs_tdiv a b
  have h4 := Nat.div_le_self a.natAbs b.natAbs
  omega
theorem tmod_le {a b : Int} (h1 : -1000000000 ≤ a) (h2 : a ≤ 1000000000) : -1000000000 ≤ a.tmod b ∧ a.tmod b ≤ 1000000000 := by
  have h3 : (a.tmod b).natAbs = a.natAbs % b.natAbs := Int.natAbs_tmod a b
  have h4 := Nat.mod_le a.natAbs b.natAbs
  omega
