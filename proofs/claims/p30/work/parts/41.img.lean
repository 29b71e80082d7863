theorem CX_lo {I I' : aI1} (h : CX I) (e : ∀ k, k < 49 → I' k = I k) : CX I' := ⟨XI_of h.1 (e _ (by decide)) (e _ (by decide)) (e _ (by decide)) (e _ (by decide)) (e _ (by decide)), LR_of h.2.1 (e _ (by decide)) (e _ (by decide)) (e _ (by decide)) (e _ (by decide)), FI_of h.2.2 (e _ (by decide))⟩
theorem CI_img {I I' : aI1} {R R' : aR1} {S : aS1} {c : Nat} (hL : LY R S) (hC : CX I) (hW : LawsOK I R S 4) (hM : ∀ i, i < 2 → ∀ c', R 7 i = some c' → c' = c ∨ CoastOK I R S c') (hc : 73 ≤ c) (hcs : CoSh R S c) (e : ∀ k, k ≠ c → k ≠ c + 1 → k ≠ c + 2 → k ≠ c + 4 → k ≠ c + 5 → I' k = I k) (eR : ∀ k, k ≠ c + 3 → R' k = R k) (he : CoEq I I' R R' c 1) : CI I' R' S := by
  have hlaw : ∀ w, LawOK I R S w → LawOK I' R' S w := fun w hw => by
    have := law_off hw hcs
    exact LawOK_ext hw (e w (by omega) (by omega) (by omega) (by omega) (by omega)) (e (w + 1) (by omega) (by omega) (by omega) (by omega) (by omega)) (e (w + 2) (by omega) (by omega) (by omega) (by omega) (by omega)) (eR w (by omega)) SX_rf
  have g := he.2.2.2.2.2
  have hx := hC.1
  have hr : CoR I' c := by
    unfold CoR
    unfold XI at hx
    rw [g 5 (by decide) (by decide), g 6 (by decide) (by decide), g 8 (by decide) (by decide), g 9 (by decide) (by decide), g 10 (by decide) (by decide), g 11 (by decide) (by decide)]
    exact ⟨hx.1, hx.2.1, hx.2.2.1, hx.2.2.2.1, hx.2.2.2.2.1, hx.2.2.2.2.2.1, fun s hs => by rw [he.2.1 s hs]; exact hx.2.2.2.2.2.2.2.2.2.1 s hs⟩
  refine ⟨LY_ext hL (fun a h1 _ _ => eR a (by omega)) SX_rf, CX_lo hC (fun k hk => e k (by omega) (by omega) (by omega) (by omega) (by omega)), fun i hi w hw => hlaw w (hW i hi w (by rw [← eR 4 (by omega)]; exact hw)), fun i hi c' hc' => ?_⟩
  rw [eR 7 (by omega)] at hc'
  by_cases hcc : c' = c
  · rw [hcc]
    exact ⟨hc, CoSh_ext hcs (eR _ (by omega)) SX_rf, hr, fun i hi w hw => hlaw w (hW i hi w (by rw [he.2.2.1 i hi] at hw; exact hw))⟩
  · have hk := (hM i hi c' hc').resolve_left hcc
    have := coast_off hk.2.1 hcs hcc
    obtain ⟨k0, k1, k2, k3⟩ := hk
    exact ⟨k0, CoSh_ext k1 (eR _ (by omega)) SX_rf, CoR_ext k2 (e c' (by omega) (by omega) (by omega) (by omega) (by omega)) (e (c' + 2) (by omega) (by omega) (by omega) (by omega) (by omega)), fun i hi w hw => hlaw w (k3 i hi w (by rw [← eR (c' + 3) (by omega)]; exact hw))⟩
theorem nI1_off {F : aI1} {o z k : Nat} (h1 : k ≠ o) (h2 : k < z) : nI_X1 F o z k = F k := by
  unfold nI_X1 fillR
  rw [upR_n _ _ (by omega), upR_n _ _ (by omega), up2_off _ _ _ h1, up2_off _ _ _ h1, upR_n _ _ (by omega), upR_n _ _ (by omega), upR_n _ _ (by omega), upR_n _ _ (by omega)]
theorem nR1_off {F : aR1} {o z k : Nat} (h1 : k ≠ o) (h2 : k < z) : nR_X1 F o z k = F k := by
  unfold nR_X1
  rw [up2_off _ _ _ h1, up2_off _ _ _ h1, up2_off _ _ _ h1, upR_n _ _ (by omega), up2_off _ _ _ h1, up2_off _ _ _ h1]
