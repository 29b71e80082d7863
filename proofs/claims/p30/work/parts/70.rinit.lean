section NMR
variable {X : aX} {pc : Nat} {lv : List (Option aV)} {st : List aV} {I J : aI1} {R : aR1} {S : aS1} {uc us : Nat}
theorem ww_nmR (k : ∀ R' : aR1, R' = R → WW X pc lv st I J R' S uc us) : WW X pc lv st I J R S uc us := k R rfl
theorem ww_nmS (k : ∀ S' : aS1, S' = S → WW X pc lv st I J R S' uc us) : WW X pc lv st I J R S uc us := k S rfl
theorem ww_nmU (k : ∀ uc' us' : Nat, uc' = uc → us' = us → WW X pc lv st I J R S uc' us') : WW X pc lv st I J R S uc us := k uc us rfl rfl
end NMR
theorem KR_0 {k : Nat → Int} (h4 : k 304 = 3) (h5 : k 305 = 4) (h0 : ∀ j, j ≠ 304 → j ≠ 305 → k j = 0) : KR k := by
  unfold KR
  rw [h4, h5, h0 307 (by decide) (by decide), h0 308 (by decide) (by decide), h0 309 (by decide) (by decide), h0 310 (by decide) (by decide)]
  exact ⟨by omega, by omega, by omega, by omega, by omega, by omega, fun j h1 h2 => by rw [h0 j (by omega) (by omega)]; omega, fun t ht => absurd ht (by omega)⟩
theorem RX_0 {I : aI1} (z51 : I 51 = up1 (up1 (fun _ => 0) (304 : Int).toNat 3) (305 : Int).toNat 4) (z53 : I 53 = fun _ => 0) (z61 : I 61 = fun _ => 0) (z10 : I 49 10 = 0) (z33 : I 49 33 = 0) (z39 : I 49 39 = -1) (z54 : I 54 59 = 32) : RX I := by
  unfold RX
  rw [z51, z53, z61, z10, z33, z39, z54]
  refine ⟨KR_0 rfl rfl (fun j h1 h2 => ?_), fun i hi => Or.inl rfl, fun j hj => (by show (0 : Int) ≤ 0 ∧ (0 : Int) ≤ 256 - j; omega), by omega, by omega, by omega, rfl⟩
  show up1 (up1 (fun _ => 0) 304 3) 305 4 j = 0
  rw [up1_n _ _ h2, up1_n _ _ h1]
def layR2 : List (Nat × Nat × Nat) := layR.filter (fun q => 49 ≤ q.1)
theorem layR_2 {q : Nat × Nat × Nat} (h : q ∈ layR) (h2 : ¬ q.1 < 49) : q ∈ layR2 := List.mem_filter.mpr ⟨h, by simpa using h2⟩
