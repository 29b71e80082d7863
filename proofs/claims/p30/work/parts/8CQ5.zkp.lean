theorem zVa_ge {f : Nat → Int} {N j : Nat} {q : Nat × Nat} (h : (zTk f N 0)[j]? = some q) : 0 ≤ zVa f q.1 q.2 := by
  by_cases h2 : zKl (f q.1) = 2
  · rw [zVa_2 h2]
    have h3 : q.2 = zSt f N q.1 := zTs_st _ 0 j q h
    refine (zNu_r _ (fun i hi => ?_)).1
    have h4 := zSt_all (f := f) (n := N) (k := q.1) (q := q.1 + i) (by omega) (by omega)
    rw [h2] at h4
    exact zKl_2.mp h4
  · rw [zVa_0 h2]
    exact Int.le_refl 0
/-! a told law in class and reference: what both tell by it -/
theorem LC6_kp {I : aI1} {S : aS1} {w : Nat} {k : Nat → Int} {t : Nat} (h : LC6 I S w k t) : ∃ qs, zLR I S w qs ∧ zKp k t qs := by
  obtain ⟨f, N, qs, hN, hx, hl, h1, h2⟩ := h
  have hn := zTk_len (f := f) (n := N)
  refine ⟨qs, hl, zCd f (zTk f N 0), zVl f (zTk f N 0), (zTk f N 0).length, 12, 0, ?_, h1, by omega, fun j hj => ⟨(h2 j hj).2, ?_⟩, hx⟩
  · funext i
    unfold cvw
    by_cases g : (i : Int) < k (311 + t)
    · rw [if_pos g]
      exact (h2 i (by omega)).1
    · rw [if_neg g]
      exact (zCd_n (List.getElem?_eq_none (by omega))).symm
  · have hg : (zTk f N 0)[j]? = some ((zTk f N 0)[j]'hj) := List.getElem?_eq_getElem hj
    rw [zVl_s hg]
    exact zVa_ge hg
theorem LS6_kp {I : aI1} {S : aS1} {row : Nat → Option Nat} {k : Nat → Int} {n : Int} (h : LS6 I S row k n) : ∃ qsf : Nat → List zQ, (∀ t : Nat, (t : Int) < n → ∃ w, row t = some w ∧ zLR I S w (qsf t)) ∧ (∀ t : Nat, (t : Int) < n → zKp k t (qsf t)) := by
  have h1 : ∀ t : Nat, ∃ qs : List zQ, (t : Int) < n → (∃ w, row t = some w ∧ zLR I S w qs) ∧ zKp k t qs := fun t => by
    by_cases g : (t : Int) < n
    · obtain ⟨w, w1, w2⟩ := h t g
      obtain ⟨qs, q1, q2⟩ := LC6_kp w2
      exact ⟨qs, fun _ => ⟨⟨w, w1, q1⟩, q2⟩⟩
    · exact ⟨[], fun g2 => absurd g2 g⟩
  obtain ⟨qsf, hq⟩ := Classical.axiomOfChoice h1
  exact ⟨qsf, fun t ht => (hq t ht).1, fun t ht => (hq t ht).2⟩
