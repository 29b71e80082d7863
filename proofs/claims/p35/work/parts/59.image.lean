section
theorem KR_ext {k k' : Nat → Int} (h : KR k) (e : ∀ j, j < 5117 → k' j = k j) : KR k' := by
  unfold KR at h ⊢
  rw [e 304 (by decide), e 305 (by decide), e 307 (by decide), e 308 (by decide), e 309 (by decide), e 310 (by decide)]
  obtain ⟨a4, a5, a7, a8, a9, a10, b1, b2⟩ := h
  refine ⟨a4, a5, a7, a8, a9, a10, fun j g1 g2 => by rw [e j (by omega)]; exact b1 j g1 g2, fun t ht => ?_⟩
  have h2 := b2 t ht
  have hv : cvw k' t = cvw k t := by
    funext i
    unfold cvw
    rw [e _ (by omega)]
    by_cases g : (i : Int) < k (311 + t)
    · rw [if_pos g, if_pos g, e _ (by omega)]
    · rw [if_neg g, if_neg g]
  rw [hv, e _ (by omega)]
  exact h2
def imgR (I : aI1) (a i : Int) : aI1 := upR I 52 (fun b => if 5117 * a ≤ (b : Int) ∧ (b : Int) < 5117 * a + i then I 51 ((b : Int) - 5117 * a).toNat else I 52 b)
theorem imgR_0 (I : aI1) (a : Int) : I = imgR I a 0 := by
  funext x b
  unfold imgR
  by_cases h : x = 52
  · subst h; rw [upR_s, if_neg (by omega)]
  · rw [upR_n _ _ h]
theorem imgR_s (I : aI1) {a i : Int} (ha : 0 ≤ a) (hi : 0 ≤ i) : up2 (imgR I a i) 52 (5117 * a + i).toNat (imgR I a i 51 i.toNat) = imgR I a (i + 1) := by
  have e1 : imgR I a i 51 i.toNat = I 51 i.toNat := by unfold imgR; rw [upR_n _ _ (by decide)]
  rw [e1]
  funext x b
  by_cases h : x = 52
  · subst h
    by_cases hb : b = (5117 * a + i).toNat
    · rw [hb, up2_s]
      unfold imgR
      rw [upR_s, if_pos (by omega)]
      exact congrArg _ (by omega)
    · rw [up2_n _ _ (Or.inr hb)]
      unfold imgR
      rw [upR_s, upR_s]
      by_cases hc : 5117 * a ≤ (b : Int) ∧ (b : Int) < 5117 * a + i
      · rw [if_pos hc, if_pos (by omega)]
      · rw [if_neg hc, if_neg (by omega)]
  · rw [up2_n _ _ (Or.inl h)]
    unfold imgR
    rw [upR_n _ _ h, upR_n _ _ h]
theorem RX_img {I : aI1} {a : Int} (h : RX I) (ha0 : 0 ≤ a) (ha1 : a ≤ 1) : RX (up2 (imgR I a 5117) 53 a.toNat 1) := by
  have e : ∀ x, x ≠ 52 → x ≠ 53 → up2 (imgR I a 5117) 53 a.toNat 1 x = I x := fun x h1 h2 => by rw [up2_off _ _ _ h2]; unfold imgR; rw [upR_n _ _ h1]
  have e2 : up2 (imgR I a 5117) 53 a.toNat 1 52 = fun (b : Nat) => if 5117 * a ≤ (b : Int) ∧ (b : Int) < 5117 * a + 5117 then I 51 ((b : Int) - 5117 * a).toNat else I 52 b := by rw [up2_off _ _ _ (by decide)]; unfold imgR; rw [upR_s]
  unfold RX at h ⊢
  rw [e 51 (by decide) (by decide), e 61 (by decide) (by decide), e 49 (by decide) (by decide), e 54 (by decide) (by decide), e2]
  refine ⟨h.1, fun i hi => ?_, h.2.2⟩
  by_cases q : i = a.toNat
  · refine Or.inr ⟨by rw [q, up2_s], KR_ext h.1 (fun j hj => ?_)⟩
    show (if 5117 * a ≤ ((5117 * i + j : Nat) : Int) ∧ ((5117 * i + j : Nat) : Int) < 5117 * a + 5117 then I 51 (((5117 * i + j : Nat) : Int) - 5117 * a).toNat else I 52 (5117 * i + j)) = I 51 j
    rw [if_pos (by omega)]
    exact congrArg _ (by omega)
  · have e3 : up2 (imgR I a 5117) 53 a.toNat 1 53 i = I 53 i := by rw [up2_n _ _ (Or.inr q)]; unfold imgR; rw [upR_n _ _ (by decide)]
    rw [e3]
    rcases h.2.1 i hi with g | ⟨g1, g2⟩
    · exact Or.inl g
    · refine Or.inr ⟨g1, KR_ext g2 (fun j hj => ?_)⟩
      show (if 5117 * a ≤ ((5117 * i + j : Nat) : Int) ∧ ((5117 * i + j : Nat) : Int) < 5117 * a + 5117 then I 51 (((5117 * i + j : Nat) : Int) - 5117 * a).toNat else I 52 (5117 * i + j)) = I 52 (5117 * i + j)
      rw [if_neg (by omega)]
def backR (I : aI1) (a i : Int) : aI1 := upR I 51 (fun b => if (b : Int) < i then I 52 (5117 * a + b).toNat else I 51 b)
theorem backR_0 (I : aI1) (a : Int) : I = backR I a 0 := by
  funext x b
  unfold backR
  by_cases h : x = 51
  · subst h; rw [upR_s, if_neg (by omega)]
  · rw [upR_n _ _ h]
theorem backR_s (I : aI1) {a i : Int} (hi : 0 ≤ i) : up2 (backR I a i) 51 i.toNat (backR I a i 52 (5117 * a + i).toNat) = backR I a (i + 1) := by
  have e1 : backR I a i 52 (5117 * a + i).toNat = I 52 (5117 * a + i).toNat := by unfold backR; rw [upR_n _ _ (by decide)]
  rw [e1]
  funext x b
  by_cases h : x = 51
  · subst h
    by_cases hb : b = i.toNat
    · rw [hb, up2_s]
      unfold backR
      rw [upR_s, if_pos (by omega)]
      exact congrArg _ (by omega)
    · rw [up2_n _ _ (Or.inr hb)]
      unfold backR
      rw [upR_s, upR_s]
      by_cases hc : (b : Int) < i
      · rw [if_pos hc, if_pos (by omega)]
      · rw [if_neg hc, if_neg (by omega)]
  · rw [up2_n _ _ (Or.inl h)]
    unfold backR
    rw [upR_n _ _ h, upR_n _ _ h]
theorem RX_back {I : aI1} {a : Int} (h : RX I) (ha0 : 0 ≤ a) (ha1 : a ≤ 1) (hi : ¬ I 53 a.toNat = 0) : RX (backR I a 5117) := by
  refine RX_k h (fun x hx => by unfold backR; rw [upR_n _ _ hx]) ?_
  rcases h.2.1 a.toNat (by omega) with g | ⟨-, g⟩
  · exact absurd g hi
  · refine KR_ext g (fun j hj => ?_)
    unfold backR
    rw [upR_s]
    show (if (j : Int) < 5117 then I 52 (5117 * a + j).toNat else I 51 j) = I 52 (5117 * a.toNat + j)
    rw [if_pos (by omega)]
    exact congrArg _ (by omega)
end
section
theorem RX_p {I : aI1} (h : RX I) : (1 ≤ I 51 304 ∧ I 51 304 ≤ 8) ∧ (0 ≤ I 51 309 ∧ I 51 309 ≤ 16) ∧ (1 ≤ FU (I 51 304) ∧ FU (I 51 304) ≤ 255) := by
  have hf := FU_r h.1.1.1 h.1.1.2
  exact ⟨h.1.1, h.1.2.2.2.2.1, hf.1, hf.2.1⟩
/-- a STATE t by which the i-th NEWS may be sent from s -/
def Cand (k L : Nat → Int) (i s t : Int) : Prop := w32 (k t.toNat) = w32 (k (288 + i).toNat) ∧ canC s t (k 306) ∧ ¬ w32 (L (256 * (i + 1) + t).toNat) = w32 1000000000
def vPl (k L : Nat → Int) (i s t : Int) : Int := oilF k (i_and t (i_xor s (-1))) (k 304).toNat + L (256 * (i + 1) + t).toNat
def PLs (k L : Nat → Int) (i s : Int) : Prop := L (256 * i + s).toNat = 1000000000 ∨ ∃ t, s ≤ t ∧ t ≤ FU (k 304) ∧ Cand k L i s t ∧ vPl k L i s t = L (256 * i + s).toNat
theorem PL_keep {k L : Nat → Int} {i s i' s' v : Int} (hi : 0 ≤ i) (hs : 0 ≤ s) (hs1 : s ≤ 255) (hs' : 0 ≤ s') (hs'1 : s' ≤ 255) (hii : i < i' ∨ (i = i' ∧ s' < s)) (h : PLs k L i' s') : PLs k (up1 L (256 * i + s).toNat v) i' s' := by
  have e : ∀ q : Int, 256 * i + s < q ∨ (0 ≤ q ∧ q < 256 * i + s) → up1 L (256 * i + s).toNat v q.toNat = L q.toNat := fun q hq => up1_n _ _ (by omega)
  have e1 := e (256 * i' + s') (by omega)
  unfold PLs at h ⊢
  rw [e1]
  rcases h with h | ⟨t, h1, h2, ⟨c1, c2, c3⟩, h4⟩
  · exact Or.inl h
  · refine Or.inr ⟨t, h1, h2, ⟨c1, c2, ?_⟩, ?_⟩
    · rw [e (256 * (i' + 1) + t) (by omega)]; exact c3
    · unfold vPl at h4 ⊢
      rw [e (256 * (i' + 1) + t) (by omega)]; exact h4
/-- the best so far -/
def Bst (k L : Nat → Int) (i s t v : Int) : Prop := v = 1000000000 ∨ ∃ t9, s ≤ t9 ∧ t9 < t ∧ t9 ≤ FU (k 304) ∧ Cand k L i s t9 ∧ v = vPl k L i s t9
theorem Bst_0 {k L : Nat → Int} {i s t : Int} : Bst k L i s t 1000000000 := Or.inl rfl
theorem Bst_k {k L : Nat → Int} {i s t v : Int} (h : Bst k L i s t v) : Bst k L i s (t + 1) v := by
  rcases h with h | ⟨t9, h1, h2, h3⟩
  · exact Or.inl h
  · exact Or.inr ⟨t9, h1, by omega, h3⟩
theorem Bst_n {k L : Nat → Int} {i s t v : Int} (h1 : s ≤ t) (h2 : t ≤ FU (k 304)) (h3 : Cand k L i s t) (h4 : v = vPl k L i s t) : Bst k L i s (t + 1) v := Or.inr ⟨t, h1, by omega, h2, h3, h4⟩
theorem PL_new {k L : Nat → Int} {i s v t8 : Int} (hi : 0 ≤ i) (hs : 0 ≤ s) (hs1 : s ≤ 255) (h : Bst k L i s t8 v) : PLs k (up1 L (256 * i + s).toNat v) i s := by
  have e : ∀ q : Int, 256 * i + s < q → up1 L (256 * i + s).toNat v q.toNat = L q.toNat := fun q hq => up1_n _ _ (by omega)
  unfold PLs
  rw [up1_s]
  rcases h with h | ⟨t, h1, -, h2, ⟨c1, c2, c3⟩, h4⟩
  · exact Or.inl h
  · refine Or.inr ⟨t, h1, h2, ⟨c1, c2, ?_⟩, ?_⟩
    · rw [e (256 * (i + 1) + t) (by omega)]; exact c3
    · have e1 := e (256 * (i + 1) + t) (by omega)
      unfold vPl
      rw [e1]
      exact h4.symm
theorem PL_st {k L L' : Nat → Int} {i s i9 s9 v t8 : Int} (e : L' = up1 L (256 * i + s).toNat v) (hi : 0 ≤ i) (hs : 0 ≤ s) (hs1 : s ≤ 255) (h : Bst k L i s t8 v) (g1 : i < i9 ∨ (i9 = i ∧ s9 < s + 1)) (g3 : 0 ≤ s9) (g4 : s9 ≤ 255) (hp : i < i9 ∨ (i9 = i ∧ s9 < s) → PLs k L i9 s9) : PLs k L' i9 s9 := by
  rw [e]
  by_cases hh : i9 = i ∧ s9 = s
  · rw [hh.1, hh.2]
    exact PL_new hi hs hs1 h
  · exact PL_keep hi hs hs1 g3 g4 (by omega) (hp (by omega))
set_option maxHeartbeats 4000000 in
set_option maxRecDepth 20000 in
theorem c_X11_plans (l0 : Launch) {Ia Ja : aI1} {Ra : aR1} {Sa : aS1} (hL : LY Ra Sa) (hQ : RX Ia)  : CT l0 2 0 0 mX11_plans [kR (some 49)] Ia Ja Ra Sa (cV (fun I' J' => Ch [70, 71] [] Ia I' ∧ Kp 49 73 Ja J' ∧ RX I' ∧ ∀ i9 s9 : Int, 0 ≤ i9 → i9 < Ia 51 309 → 0 ≤ s9 → s9 ≤ FU (Ia 51 304) → PLs (Ia 51) (I' 70) i9 s9) Ra Sa) := by
  refine ct_in pn_X11 (Nat.le_of_ble_eq_true rfl) (fun X hX hT hIn => ?_)
  have hX : aK l0 X cX11_plans 9 RX11 none 2 0 0 := hX
  change WW X 0 [some (kR (some 49)), none, none, none, none, none, none, none, none] [] Ia Ja Ra Sa 0 0
  have qIa := RX_p hQ
  refine ww_aload_n hX (pc := 0) dX11_plans_0 rfl ?_
  refine ww_getR hX (pc := 1) fX11_20 (by decide) (xs_49 hL) (xr_49_3 hL) dX11_plans_1 ?_
  refine ww_sipush hX (pc := 4) (x := 309) dX11_plans_4 (by decide) ?_
  refine ww_iald hX (pc := 7) (xs_51 hL) (by decide) (by omega) (by omega) dX11_plans_7 ?_
  refine ww_toI (b := Ia 51 309) rfl ?_
  refine ww_nmI (fun v_8 hv_8 => ?_)
  refine ww_istore_n hX (pc := 8) (lv' := [some (kR (some 49)), some (kI v_8), none, none, none, none, none, none, none]) dX11_plans_8 (by decide) rfl rfl ?_
  refine ww_iconst hX (pc := 9) (x := 0) dX11_plans_9 rfl ?_
  refine ww_istore_n hX (pc := 10) (lv' := [some (kR (some 49)), some (kI v_8), some (kI 0), none, none, none, none, none, none]) dX11_plans_10 (by decide) rfl rfl ?_
  have hl_11 : ∀ (n_11 : Nat) (q : Int) (I11 : aI1) (J11 : aI1), (256 - q).toNat = n_11 → (Ch [70, 71] [] Ia I11 ∧ RX I11 ∧ Kp 49 73 Ja J11 ∧ I11 51 304 = Ia 51 304 ∧ I11 51 305 = Ia 51 305 ∧ (0 ≤ q ∧ q ≤ 256)) → WW X 11 [some (kR (some 49)), some (kI v_8), some (kI q), none, none, none, none, none, none] [] I11 J11 Ra Sa 0 0 := by
    intro n_11
    induction n_11 using Nat.strongRecOn with
    | ind n_11 ih_11 =>
      intro q I11 J11 hm_11 hv_11
      have hq_11 := Sh0_i hm_11
      clear hm_11
      obtain ⟨kI11, cI11, kJ11, r304_I11, r305_I11, hq⟩ := hv_11
      have qI11 := RX_p cI11
      have rf_I11 : FU (I11 51 304) = FU (Ia 51 304) := by rw [r304_I11]
      refine ww_iload_n hX (pc := 11) dX11_plans_11 rfl ?_
      refine ww_aload_n hX (pc := 12) dX11_plans_12 rfl ?_
      refine vI0 hX (pc := 13) sX11_112 (xs_49 hL) (c_X11_states l0 hL cI11 ) (by decide) (Nat.le_refl 0) (Nat.le_refl 0) (Nat.le_of_ble_eq_true rfl) dX11_plans_13 (fun x_13 I_13 J_13 h_13 => ?_)
      obtain ⟨rfl, rfl, h_13⟩ := h_13
      refine ww_icmp_ge hX (pc := 16) (tgt := 51) dX11_plans_16 (by decide) (fun h_16 => ?_) (fun h_16 => ?_)
      · simp only [w32_mod] at h_16
        refine ww_iload_n hX (pc := 51) dX11_plans_51 rfl ?_
        refine ww_iconst hX (pc := 52) (x := 1) dX11_plans_52 rfl ?_
        refine ww_isub hX (pc := 53) dX11_plans_53 ?_
        refine ww_nmI (fun v_54 hv_54 => ?_)
        refine ww_istore_n hX (pc := 54) (lv' := [some (kR (some 49)), some (kI v_8), some (kI v_54), none, none, none, none, none, none]) dX11_plans_54 (by decide) rfl rfl ?_
        have hl_55 : ∀ (n_55 : Nat) (i : Int) (I55 : aI1) (J55 : aI1), (i + 1).toNat = n_55 → (Ch [70, 71] [] Ia I55 ∧ RX I55 ∧ Kp 49 73 Ja J55 ∧ I55 51 304 = I11 51 304 ∧ I55 51 305 = I11 51 305 ∧ (-1 ≤ i ∧ i ≤ 15) ∧ (∀ i9 s9 : Int, i < i9 → i9 < Ia 51 309 → 0 ≤ s9 → s9 ≤ FU (Ia 51 304) → PLs (Ia 51) (I55 70) i9 s9)) → WW X 55 [some (kR (some 49)), some (kI v_8), some (kI i), none, none, none, none, none, none] [] I55 J55 Ra Sa 0 0 := by
          intro n_55
          induction n_55 using Nat.strongRecOn with
          | ind n_55 ih_55 =>
            intro i I55 J55 hm_55 hv_55
            have hq_55 := Sh0_i hm_55
            clear hm_55
            obtain ⟨kI55, cI55, kJ55, r304_I55, r305_I55, hv, hpl⟩ := hv_55
            have qI55 := RX_p cI55
            have rf_I55 : FU (I55 51 304) = FU (I11 51 304) := by rw [r304_I55]
            refine ww_iload_n hX (pc := 55) dX11_plans_55 rfl ?_
            refine ww_if_lt hX (pc := 56) (tgt := 288) dX11_plans_56 (by decide) (fun h_56 => ?_) (fun h_56 => ?_)
            · simp only [w32_mod] at h_56
              refine rV hX (pc := 288) hT (Nat.le_refl 0) (Nat.le_refl 0) dX11_plans_288 ?_
              exact ⟨kI55, kJ55, cI55, fun i9 s9 g1 g2 g3 g4 => hpl i9 s9 (by omega) g2 g3 g4⟩
            · simp only [w32_mod] at h_56
              refine ww_iconst hX (pc := 59) (x := 0) dX11_plans_59 rfl ?_
              refine ww_istore_n hX (pc := 60) (lv' := [some (kR (some 49)), some (kI v_8), some (kI i), some (kI 0), none, none, none, none, none]) dX11_plans_60 (by decide) rfl rfl ?_
              have hl_61 : ∀ (n_61 : Nat) (sa : Int) (I61 : aI1) (J61 : aI1), (256 - sa).toNat = n_61 → (Ch [70, 71] [] Ia I61 ∧ RX I61 ∧ Kp 49 73 Ja J61 ∧ I61 51 304 = I55 51 304 ∧ I61 51 305 = I55 51 305 ∧ (0 ≤ sa ∧ sa ≤ 256) ∧ (∀ i9 s9 : Int, (i < i9 ∨ (i9 = i ∧ s9 < sa)) → i9 < Ia 51 309 → 0 ≤ s9 → s9 ≤ FU (Ia 51 304) → PLs (Ia 51) (I61 70) i9 s9)) → WW X 61 [some (kR (some 49)), some (kI v_8), some (kI i), some (kI sa), none, none, none, none, none] [] I61 J61 Ra Sa 0 0 := by
                intro n_61
                induction n_61 using Nat.strongRecOn with
                | ind n_61 ih_61 =>
                  intro sa I61 J61 hm_61 hv_61
                  have hq_61 := Sh0_i hm_61
                  clear hm_61
                  obtain ⟨kI61, cI61, kJ61, r304_I61, r305_I61, hu, hpm⟩ := hv_61
                  have qI61 := RX_p cI61
                  have rf_I61 : FU (I61 51 304) = FU (I55 51 304) := by rw [r304_I61]
                  have hk61 : I61 51 = Ia 51 := kI61.1 51 (by decide) (by decide)
                  refine ww_iload_n hX (pc := 61) dX11_plans_61 rfl ?_
                  refine ww_aload_n hX (pc := 62) dX11_plans_62 rfl ?_
                  refine vI0 hX (pc := 63) sX11_112 (xs_49 hL) (c_X11_states l0 hL cI61 ) (by decide) (Nat.le_refl 0) (Nat.le_refl 0) (Nat.le_of_ble_eq_true rfl) dX11_plans_63 (fun x_63 I_63 J_63 h_63 => ?_)
                  obtain ⟨rfl, rfl, h_63⟩ := h_63
                  refine ww_icmp_ge hX (pc := 66) (tgt := 282) dX11_plans_66 (by decide) (fun h_66 => ?_) (fun h_66 => ?_)
                  · simp only [w32_mod] at h_66
                    refine ww_iinc hX (pc := 282) (lv' := [some (kR (some 49)), some (kI v_8), some (kI (i + (-1))), some (kI sa), none, none, none, none, none]) dX11_plans_282 rfl (by decide) rfl rfl ?_
                    refine ww_goto hX (pc := 285) (tgt := 55) dX11_plans_285 (by decide) ?_
                    refine ww_sub [some (kR (some 49)), some (kI v_8), some (kI (i + (-1))), none, none, none, none, none, none] (aLe_s (aLe_s (aLe_s (aLe_n (aLe_n (aLe_n (aLe_n (aLe_n (aLe_n aLe_0))))))))) ?_
                    exact ih_55 _ (by have hm9 := Sh0_e hq_55; omega) (i + (-1)) I61 J61 rfl ⟨kI61, cI61, kJ61, by omega, by omega, ⟨by omega, by omega⟩, fun i9 s9 g1 g2 g3 g4 => hpm i9 s9 (by omega) g2 g3 g4⟩
                  · simp only [w32_mod] at h_66
                    refine ww_ldcw hX (pc := 69) (x := 1000000000) dX11_plans_69 tb_1457 ?_
                    refine ww_istore hX (pc := 72) (lv' := [some (kR (some 49)), some (kI v_8), some (kI i), some (kI sa), some (kI 1000000000), none, none, none, none]) dX11_plans_72 (by decide) rfl rfl ?_
                    refine ww_iconst hX (pc := 74) (x := 0) dX11_plans_74 rfl ?_
                    refine ww_istore hX (pc := 75) (lv' := [some (kR (some 49)), some (kI v_8), some (kI i), some (kI sa), some (kI 1000000000), some (kI 0), none, none, none]) dX11_plans_75 (by decide) rfl rfl ?_
                    refine ww_iload_n hX (pc := 77) dX11_plans_77 rfl ?_
                    refine ww_istore hX (pc := 78) (lv' := [some (kR (some 49)), some (kI v_8), some (kI i), some (kI sa), some (kI 1000000000), some (kI 0), some (kI sa), none, none]) dX11_plans_78 (by decide) rfl rfl ?_
                    have hl_80 : ∀ (n_80 : Nat) (bs : Int) (wy : Int) (t : Int), (256 - t).toNat = n_80 → ((sa ≤ t ∧ t ≤ 256) ∧ Bst (Ia 51) (I61 70) i sa t bs) → WW X 80 [some (kR (some 49)), some (kI v_8), some (kI i), some (kI sa), some (kI bs), some (kI wy), some (kI t), none, none] [] I61 J61 Ra Sa 0 0 := by
                      intro n_80
                      induction n_80 using Nat.strongRecOn with
                      | ind n_80 ih_80 =>
                        intro bs wy t hm_80 hv_80
                        have hq_80 := Sh0_i hm_80
                        clear hm_80
                        obtain ⟨hw, hb⟩ := hv_80
                        refine ww_iload hX (pc := 80) dX11_plans_80 rfl ?_
                        refine ww_aload_n hX (pc := 82) dX11_plans_82 rfl ?_
                        refine vI0 hX (pc := 83) sX11_112 (xs_49 hL) (c_X11_states l0 hL cI61 ) (by decide) (Nat.le_refl 0) (Nat.le_refl 0) (Nat.le_of_ble_eq_true rfl) dX11_plans_83 (fun x_83 I_83 J_83 h_83 => ?_)
                        obtain ⟨rfl, rfl, h_83⟩ := h_83
                        refine ww_icmp_ge hX (pc := 86) (tgt := 248) dX11_plans_86 (by decide) (fun h_86 => ?_) (fun h_86 => ?_)
                        · simp only [w32_mod] at h_86
                          refine ww_aload_n hX (pc := 248) dX11_plans_248 rfl ?_
                          refine ww_getR hX (pc := 249) fX11_86 (by decide) (xs_49 hL) (xr_49_36 hL) dX11_plans_249 ?_
                          refine ww_sipush hX (pc := 252) (x := 256) dX11_plans_252 (by decide) ?_
                          refine ww_iload_n hX (pc := 255) dX11_plans_255 rfl ?_
                          refine ww_imul hX (pc := 256) dX11_plans_256 ?_
                          refine ww_iload_n hX (pc := 257) dX11_plans_257 rfl ?_
                          refine ww_iadd hX (pc := 258) dX11_plans_258 ?_
                          refine ww_iload hX (pc := 259) dX11_plans_259 rfl ?_
                          refine ww_iast hX (pc := 261) (xs_70 hL) (by decide) (by omega) (by omega) dX11_plans_261 ?_
                          refine ww_nmH (fun I_261 eI_261 => ?_)
                          have kI_261 : Ch [70, 71] [] Ia I_261 := by rw [eI_261]; exact Ch_r kI61 (by decide) (by decide)
                          have cI_261 : RX I_261 := by rw [eI_261]; exact RX_r cI61 (by decide)
                          have qI_261 := RX_p cI_261
                          have r304_I_261 : I_261 51 304 = I61 51 304 := by rw [eI_261, up2_off _ _ _ (by decide)]
                          have r305_I_261 : I_261 51 305 = I61 51 305 := by rw [eI_261, up2_off _ _ _ (by decide)]
                          have rf_I_261 : FU (I_261 51 304) = FU (I61 51 304) := by rw [r304_I_261]
                          refine ww_aload_n hX (pc := 262) dX11_plans_262 rfl ?_
                          refine ww_getR hX (pc := 263) fX11_89 (by decide) (xs_49 hL) (xr_49_37 hL) dX11_plans_263 ?_
                          refine ww_sipush hX (pc := 266) (x := 256) dX11_plans_266 (by decide) ?_
                          refine ww_iload_n hX (pc := 269) dX11_plans_269 rfl ?_
                          refine ww_imul hX (pc := 270) dX11_plans_270 ?_
                          refine ww_iload_n hX (pc := 271) dX11_plans_271 rfl ?_
                          refine ww_iadd hX (pc := 272) dX11_plans_272 ?_
                          refine ww_iload hX (pc := 273) dX11_plans_273 rfl ?_
                          refine ww_iast hX (pc := 275) (xs_71 hL) (by decide) (by omega) (by omega) dX11_plans_275 ?_
                          refine ww_nmH (fun I_275 eI_275 => ?_)
                          have kI_275 : Ch [70, 71] [] Ia I_275 := by rw [eI_275]; exact Ch_r kI_261 (by decide) (by decide)
                          have cI_275 : RX I_275 := by rw [eI_275]; exact RX_r cI_261 (by decide)
                          have qI_275 := RX_p cI_275
                          have r304_I_275 : I_275 51 304 = I_261 51 304 := by rw [eI_275, up2_off _ _ _ (by decide)]
                          have r305_I_275 : I_275 51 305 = I_261 51 305 := by rw [eI_275, up2_off _ _ _ (by decide)]
                          have rf_I_275 : FU (I_275 51 304) = FU (I_261 51 304) := by rw [r304_I_275]
                          refine ww_iinc hX (pc := 276) (lv' := [some (kR (some 49)), some (kI v_8), some (kI i), some (kI (sa + 1)), some (kI bs), some (kI wy), some (kI t), none, none]) dX11_plans_276 rfl (by decide) rfl rfl ?_
                          refine ww_goto hX (pc := 279) (tgt := 61) dX11_plans_279 (by decide) ?_
                          refine ww_sub [some (kR (some 49)), some (kI v_8), some (kI i), some (kI (sa + 1)), none, none, none, none, none] (aLe_s (aLe_s (aLe_s (aLe_s (aLe_n (aLe_n (aLe_n (aLe_n (aLe_n aLe_0))))))))) ?_
                          exact ih_61 _ (by have hm9 := Sh0_e hq_61; omega) (sa + 1) I_275 J61 rfl ⟨kI_275, cI_275, kJ61, by omega, by omega, ⟨by omega, by omega⟩, fun i9 s9 g1 g2 g3 g4 => PL_st (by rw [eI_275, up2_off _ _ _ (by decide), eI_261, up2_row]) (by omega) (by omega) (by omega) hb g1 g3 (by omega) (fun g5 => hpm i9 s9 g5 g2 g3 g4)⟩
                        · simp only [w32_mod] at h_86
                          refine ww_sipush hX (pc := 89) (x := 256) dX11_plans_89 (by decide) ?_
                          refine ww_iload_n hX (pc := 92) dX11_plans_92 rfl ?_
                          refine ww_iconst hX (pc := 93) (x := 1) dX11_plans_93 rfl ?_
                          refine ww_iadd hX (pc := 94) dX11_plans_94 ?_
                          refine ww_imul hX (pc := 95) dX11_plans_95 ?_
                          refine ww_iload hX (pc := 96) dX11_plans_96 rfl ?_
                          refine ww_iadd hX (pc := 98) dX11_plans_98 ?_
                          refine ww_nmI (fun v_99 hv_99 => ?_)
                          refine ww_istore hX (pc := 99) (lv' := [some (kR (some 49)), some (kI v_8), some (kI i), some (kI sa), some (kI bs), some (kI wy), some (kI t), some (kI v_99), none]) dX11_plans_99 (by decide) rfl rfl ?_
                          refine ww_aload_n hX (pc := 101) dX11_plans_101 rfl ?_
                          refine ww_iload hX (pc := 102) dX11_plans_102 rfl ?_
                          refine vI1 hX (pc := 104) sX11_126 (xs_49 hL) (c_X11_readOf l0 hL cI61 (by omega) (by omega)) (by decide) (Nat.le_refl 0) (Nat.le_refl 0) (Nat.le_of_ble_eq_true rfl) dX11_plans_104 (fun x_104 I_104 J_104 h_104 => ?_)
                          obtain ⟨rfl, rfl, h_104⟩ := h_104
                          refine ww_aload_n hX (pc := 107) dX11_plans_107 rfl ?_
                          refine ww_getR hX (pc := 108) fX11_20 (by decide) (xs_49 hL) (xr_49_3 hL) dX11_plans_108 ?_
                          refine ww_sipush hX (pc := 111) (x := 288) dX11_plans_111 (by decide) ?_
                          refine ww_iload_n hX (pc := 114) dX11_plans_114 rfl ?_
                          refine ww_iadd hX (pc := 115) dX11_plans_115 ?_
                          refine ww_iald hX (pc := 116) (xs_51 hL) (by decide) (by omega) (by omega) dX11_plans_116 ?_
                          refine ww_icmp_ne hX (pc := 117) (tgt := 242) dX11_plans_117 (by decide) (fun h_117 => ?_) (fun h_117 => ?_)
                          · simp only [w32_mod] at h_117
                            refine ww_iinc hX (pc := 242) (lv' := [some (kR (some 49)), some (kI v_8), some (kI i), some (kI sa), some (kI bs), some (kI wy), some (kI (t + 1)), some (kI v_99), none]) dX11_plans_242 rfl (by decide) rfl rfl ?_
                            refine ww_goto hX (pc := 245) (tgt := 80) dX11_plans_245 (by decide) ?_
                            refine ww_sub [some (kR (some 49)), some (kI v_8), some (kI i), some (kI sa), some (kI bs), some (kI wy), some (kI (t + 1)), none, none] (aLe_s (aLe_s (aLe_s (aLe_s (aLe_s (aLe_s (aLe_s (aLe_n (aLe_n aLe_0))))))))) ?_
                            exact ih_80 _ (by have hm9 := Sh0_e hq_80; omega) bs wy (t + 1) rfl ⟨⟨by omega, by omega⟩, Bst_k hb⟩
                          · simp only [w32_mod] at h_117
                            have hc1 : w32 (Ia 51 t.toNat) = w32 (Ia 51 (288 + i).toNat) := by rw [← hk61]; simp only [w32_mod]; omega
                            refine ww_aload_n hX (pc := 120) dX11_plans_120 rfl ?_
                            refine ww_iload_n hX (pc := 121) dX11_plans_121 rfl ?_
                            refine ww_iload hX (pc := 122) dX11_plans_122 rfl ?_
                            refine ww_aload_n hX (pc := 124) dX11_plans_124 rfl ?_
                            refine ww_getR hX (pc := 125) fX11_20 (by decide) (xs_49 hL) (xr_49_3 hL) dX11_plans_125 ?_
                            refine ww_sipush hX (pc := 128) (x := 306) dX11_plans_128 (by decide) ?_
                            refine ww_iald hX (pc := 131) (xs_51 hL) (by decide) (by omega) (by omega) dX11_plans_131 ?_
                            refine ww_toI (b := I61 51 306) rfl ?_
                            refine vI3 hX (pc := 132) sX11_271 (xs_49 hL) (c_X11_canCome l0 hL cI61 ) (by decide) (Nat.le_refl 0) (Nat.le_refl 0) (Nat.le_of_ble_eq_true rfl) dX11_plans_132 (fun x_132 I_132 J_132 h_132 => ?_)
                            obtain ⟨rfl, rfl, h_132⟩ := h_132
                            refine ww_if_eq hX (pc := 135) (tgt := 242) dX11_plans_135 (by decide) (fun h_135 => ?_) (fun h_135 => ?_)
                            · simp only [w32_mod] at h_135
                              refine ww_iinc hX (pc := 242) (lv' := [some (kR (some 49)), some (kI v_8), some (kI i), some (kI sa), some (kI bs), some (kI wy), some (kI (t + 1)), some (kI v_99), none]) dX11_plans_242 rfl (by decide) rfl rfl ?_
                              refine ww_goto hX (pc := 245) (tgt := 80) dX11_plans_245 (by decide) ?_
                              refine ww_sub [some (kR (some 49)), some (kI v_8), some (kI i), some (kI sa), some (kI bs), some (kI wy), some (kI (t + 1)), none, none] (aLe_s (aLe_s (aLe_s (aLe_s (aLe_s (aLe_s (aLe_s (aLe_n (aLe_n aLe_0))))))))) ?_
                              exact ih_80 _ (by have hm9 := Sh0_e hq_80; omega) bs wy (t + 1) rfl ⟨⟨by omega, by omega⟩, Bst_k hb⟩
                            · simp only [w32_mod] at h_135
                              have hc2 : canC sa t (Ia 51 306) := by rw [← hk61]; exact h_132.2.mp (by omega)
                              refine ww_aload_n hX (pc := 138) dX11_plans_138 rfl ?_
                              refine ww_getR hX (pc := 139) fX11_86 (by decide) (xs_49 hL) (xr_49_36 hL) dX11_plans_139 ?_
                              refine ww_iload hX (pc := 142) dX11_plans_142 rfl ?_
                              refine ww_iald hX (pc := 144) (xs_70 hL) (by decide) (by omega) (by omega) dX11_plans_144 ?_
                              refine ww_ldcw hX (pc := 145) (x := 1000000000) dX11_plans_145 tb_1457 ?_
                              refine ww_icmp_ne hX (pc := 148) (tgt := 154) dX11_plans_148 (by decide) (fun h_148 => ?_) (fun h_148 => ?_)
                              · simp only [w32_mod] at h_148
                                have hcand : Cand (Ia 51) (I61 70) i sa t := ⟨hc1, hc2, by rw [hv_99] at h_148; simp only [w32_mod]; omega⟩
                                refine ww_aload_n hX (pc := 154) dX11_plans_154 rfl ?_
                                refine ww_iload hX (pc := 155) dX11_plans_155 rfl ?_
                                refine ww_iload_n hX (pc := 157) dX11_plans_157 rfl ?_
                                refine ww_iconst hX (pc := 158) (x := (-1)) dX11_plans_158 rfl ?_
                                refine ww_ixor hX (pc := 159) dX11_plans_159 ?_
                                refine ww_iand hX (pc := 160) dX11_plans_160 ?_
                                refine vI1 hX (pc := 161) sX11_301 (xs_49 hL) (c_X11_oilOf l0 hL cI61 ) (by decide) (Nat.le_refl 0) (Nat.le_refl 0) (Nat.le_of_ble_eq_true rfl) dX11_plans_161 (fun x_161 I_161 J_161 h_161 => ?_)
                                obtain ⟨rfl, rfl, h_161⟩ := h_161
                                refine ww_aload_n hX (pc := 164) dX11_plans_164 rfl ?_
                                refine ww_getR hX (pc := 165) fX11_86 (by decide) (xs_49 hL) (xr_49_36 hL) dX11_plans_165 ?_
                                refine ww_iload hX (pc := 168) dX11_plans_168 rfl ?_
                                refine ww_iald hX (pc := 170) (xs_70 hL) (by decide) (by omega) (by omega) dX11_plans_170 ?_
                                refine ww_iadd hX (pc := 171) dX11_plans_171 ?_
                                refine ww_nmI (fun v_172 hv_172 => ?_)
                                refine ww_istore hX (pc := 172) (lv' := [some (kR (some 49)), some (kI v_8), some (kI i), some (kI sa), some (kI bs), some (kI wy), some (kI t), some (kI v_99), some (kI v_172)]) dX11_plans_172 (by decide) rfl rfl ?_
                                refine ww_iload hX (pc := 174) dX11_plans_174 rfl ?_
                                refine ww_iload hX (pc := 176) dX11_plans_176 rfl ?_
                                refine ww_icmp_le hX (pc := 178) (tgt := 184) dX11_plans_178 (by decide) (fun h_178 => ?_) (fun h_178 => ?_)
                                · simp only [w32_mod] at h_178
                                  refine ww_iload hX (pc := 184) dX11_plans_184 rfl ?_
                                  refine ww_iload hX (pc := 186) dX11_plans_186 rfl ?_
                                  refine ww_icmp_ge hX (pc := 188) (tgt := 201) dX11_plans_188 (by decide) (fun h_188 => ?_) (fun h_188 => ?_)
                                  · simp only [w32_mod] at h_188
                                    refine ww_iload hX (pc := 201) dX11_plans_201 rfl ?_
                                    refine ww_i2l hX (pc := 203) dX11_plans_203 ?_
                                    refine ww_aload_n hX (pc := 204) dX11_plans_204 rfl ?_
                                    refine ww_getR hX (pc := 205) fX11_89 (by decide) (xs_49 hL) (xr_49_37 hL) dX11_plans_205 ?_
                                    refine ww_iload hX (pc := 208) dX11_plans_208 rfl ?_
                                    refine ww_iald hX (pc := 210) (xs_71 hL) (by decide) (by omega) (by omega) dX11_plans_210 ?_
                                    refine ww_i2l hX (pc := 211) dX11_plans_211 ?_
                                    refine ww_ladd hX (pc := 212) dX11_plans_212 ?_
                                    refine ww_ldc2 hX (pc := 213) (x := 1000000000) dX11_plans_213 tb_1423 ?_
                                    refine ww_lcmp hX (pc := 216) dX11_plans_216 ?_
                                    refine ww_if_le hX (pc := 217) (tgt := 226) dX11_plans_217 (by decide) (fun h_217 => ?_) (fun h_217 => ?_)
                                    · simp only [w32_mod] at h_217
                                      refine ww_iload hX (pc := 226) dX11_plans_226 rfl ?_
                                      refine ww_aload_n hX (pc := 228) dX11_plans_228 rfl ?_
                                      refine ww_getR hX (pc := 229) fX11_89 (by decide) (xs_49 hL) (xr_49_37 hL) dX11_plans_229 ?_
                                      refine ww_iload hX (pc := 232) dX11_plans_232 rfl ?_
                                      refine ww_iald hX (pc := 234) (xs_71 hL) (by decide) (by omega) (by omega) dX11_plans_234 ?_
                                      refine ww_iadd hX (pc := 235) dX11_plans_235 ?_
                                      refine ww_nmI (fun v_236 hv_236 => ?_)
                                      refine ww_istore hX (pc := 236) (lv' := [some (kR (some 49)), some (kI v_8), some (kI i), some (kI sa), some (kI bs), some (kI v_236), some (kI t), some (kI v_99), some (kI v_172)]) dX11_plans_236 (by decide) rfl rfl ?_
                                      refine ww_iload hX (pc := 238) dX11_plans_238 rfl ?_
                                      refine ww_istore hX (pc := 240) (lv' := [some (kR (some 49)), some (kI v_8), some (kI i), some (kI sa), some (kI v_172), some (kI v_236), some (kI t), some (kI v_99), some (kI v_172)]) dX11_plans_240 (by decide) rfl rfl ?_
                                      refine ww_iinc hX (pc := 242) (lv' := [some (kR (some 49)), some (kI v_8), some (kI i), some (kI sa), some (kI v_172), some (kI v_236), some (kI (t + 1)), some (kI v_99), some (kI v_172)]) dX11_plans_242 rfl (by decide) rfl rfl ?_
                                      refine ww_goto hX (pc := 245) (tgt := 80) dX11_plans_245 (by decide) ?_
                                      refine ww_sub [some (kR (some 49)), some (kI v_8), some (kI i), some (kI sa), some (kI v_172), some (kI v_236), some (kI (t + 1)), none, none] (aLe_s (aLe_s (aLe_s (aLe_s (aLe_s (aLe_s (aLe_s (aLe_n (aLe_n aLe_0))))))))) ?_
                                      exact ih_80 _ (by have hm9 := Sh0_e hq_80; omega) v_172 v_236 (t + 1) rfl ⟨⟨by omega, by omega⟩, Bst_n (by omega) (by omega) hcand (by rw [hv_172, h_161, hv_99, hk61]; rfl)⟩
                                    · simp only [w32_mod] at h_217
                                      refine ww_ldcw hX (pc := 220) (x := 1000000000) dX11_plans_220 tb_1457 ?_
                                      refine ww_goto hX (pc := 223) (tgt := 236) dX11_plans_223 (by decide) ?_
                                      refine ww_istore hX (pc := 236) (lv' := [some (kR (some 49)), some (kI v_8), some (kI i), some (kI sa), some (kI bs), some (kI 1000000000), some (kI t), some (kI v_99), some (kI v_172)]) dX11_plans_236 (by decide) rfl rfl ?_
                                      refine ww_iload hX (pc := 238) dX11_plans_238 rfl ?_
                                      refine ww_istore hX (pc := 240) (lv' := [some (kR (some 49)), some (kI v_8), some (kI i), some (kI sa), some (kI v_172), some (kI 1000000000), some (kI t), some (kI v_99), some (kI v_172)]) dX11_plans_240 (by decide) rfl rfl ?_
                                      refine ww_iinc hX (pc := 242) (lv' := [some (kR (some 49)), some (kI v_8), some (kI i), some (kI sa), some (kI v_172), some (kI 1000000000), some (kI (t + 1)), some (kI v_99), some (kI v_172)]) dX11_plans_242 rfl (by decide) rfl rfl ?_
                                      refine ww_goto hX (pc := 245) (tgt := 80) dX11_plans_245 (by decide) ?_
                                      refine ww_sub [some (kR (some 49)), some (kI v_8), some (kI i), some (kI sa), some (kI v_172), some (kI 1000000000), some (kI (t + 1)), none, none] (aLe_s (aLe_s (aLe_s (aLe_s (aLe_s (aLe_s (aLe_s (aLe_n (aLe_n aLe_0))))))))) ?_
                                      exact ih_80 _ (by have hm9 := Sh0_e hq_80; omega) v_172 1000000000 (t + 1) rfl ⟨⟨by omega, by omega⟩, Bst_n (by omega) (by omega) hcand (by rw [hv_172, h_161, hv_99, hk61]; rfl)⟩
                                  · simp only [w32_mod] at h_188
                                    refine ww_aload_n hX (pc := 191) dX11_plans_191 rfl ?_
                                    refine ww_getR hX (pc := 192) fX11_89 (by decide) (xs_49 hL) (xr_49_37 hL) dX11_plans_192 ?_
                                    refine ww_iload hX (pc := 195) dX11_plans_195 rfl ?_
                                    refine ww_iald hX (pc := 197) (xs_71 hL) (by decide) (by omega) (by omega) dX11_plans_197 ?_
                                    refine ww_goto hX (pc := 198) (tgt := 236) dX11_plans_198 (by decide) ?_
                                    refine ww_nmI (fun v_236 hv_236 => ?_)
                                    refine ww_istore hX (pc := 236) (lv' := [some (kR (some 49)), some (kI v_8), some (kI i), some (kI sa), some (kI bs), some (kI v_236), some (kI t), some (kI v_99), some (kI v_172)]) dX11_plans_236 (by decide) rfl rfl ?_
                                    refine ww_iload hX (pc := 238) dX11_plans_238 rfl ?_
                                    refine ww_istore hX (pc := 240) (lv' := [some (kR (some 49)), some (kI v_8), some (kI i), some (kI sa), some (kI v_172), some (kI v_236), some (kI t), some (kI v_99), some (kI v_172)]) dX11_plans_240 (by decide) rfl rfl ?_
                                    refine ww_iinc hX (pc := 242) (lv' := [some (kR (some 49)), some (kI v_8), some (kI i), some (kI sa), some (kI v_172), some (kI v_236), some (kI (t + 1)), some (kI v_99), some (kI v_172)]) dX11_plans_242 rfl (by decide) rfl rfl ?_
                                    refine ww_goto hX (pc := 245) (tgt := 80) dX11_plans_245 (by decide) ?_
                                    refine ww_sub [some (kR (some 49)), some (kI v_8), some (kI i), some (kI sa), some (kI v_172), some (kI v_236), some (kI (t + 1)), none, none] (aLe_s (aLe_s (aLe_s (aLe_s (aLe_s (aLe_s (aLe_s (aLe_n (aLe_n aLe_0))))))))) ?_
                                    exact ih_80 _ (by have hm9 := Sh0_e hq_80; omega) v_172 v_236 (t + 1) rfl ⟨⟨by omega, by omega⟩, Bst_n (by omega) (by omega) hcand (by rw [hv_172, h_161, hv_99, hk61]; rfl)⟩
                                · simp only [w32_mod] at h_178
                                  refine ww_goto hX (pc := 181) (tgt := 242) dX11_plans_181 (by decide) ?_
                                  refine ww_iinc hX (pc := 242) (lv' := [some (kR (some 49)), some (kI v_8), some (kI i), some (kI sa), some (kI bs), some (kI wy), some (kI (t + 1)), some (kI v_99), some (kI v_172)]) dX11_plans_242 rfl (by decide) rfl rfl ?_
                                  refine ww_goto hX (pc := 245) (tgt := 80) dX11_plans_245 (by decide) ?_
                                  refine ww_sub [some (kR (some 49)), some (kI v_8), some (kI i), some (kI sa), some (kI bs), some (kI wy), some (kI (t + 1)), none, none] (aLe_s (aLe_s (aLe_s (aLe_s (aLe_s (aLe_s (aLe_s (aLe_n (aLe_n aLe_0))))))))) ?_
                                  exact ih_80 _ (by have hm9 := Sh0_e hq_80; omega) bs wy (t + 1) rfl ⟨⟨by omega, by omega⟩, Bst_k hb⟩
                              · simp only [w32_mod] at h_148
                                refine ww_goto hX (pc := 151) (tgt := 242) dX11_plans_151 (by decide) ?_
                                refine ww_iinc hX (pc := 242) (lv' := [some (kR (some 49)), some (kI v_8), some (kI i), some (kI sa), some (kI bs), some (kI wy), some (kI (t + 1)), some (kI v_99), none]) dX11_plans_242 rfl (by decide) rfl rfl ?_
                                refine ww_goto hX (pc := 245) (tgt := 80) dX11_plans_245 (by decide) ?_
                                refine ww_sub [some (kR (some 49)), some (kI v_8), some (kI i), some (kI sa), some (kI bs), some (kI wy), some (kI (t + 1)), none, none] (aLe_s (aLe_s (aLe_s (aLe_s (aLe_s (aLe_s (aLe_s (aLe_n (aLe_n aLe_0))))))))) ?_
                                exact ih_80 _ (by have hm9 := Sh0_e hq_80; omega) bs wy (t + 1) rfl ⟨⟨by omega, by omega⟩, Bst_k hb⟩
                    exact hl_80 _ 1000000000 0 sa rfl ⟨⟨by omega, by omega⟩, Bst_0⟩
              exact hl_61 _ 0 I55 J55 rfl ⟨kI55, cI55, kJ55, rfl, rfl, ⟨by omega, by omega⟩, fun i9 s9 g1 g2 g3 g4 => hpl i9 s9 (by omega) g2 g3 g4⟩
        exact hl_55 _ v_54 I11 J11 rfl ⟨kI11, cI11, kJ11, rfl, rfl, ⟨by omega, by omega⟩, fun i9 s9 g1 g2 => by omega⟩
      · simp only [w32_mod] at h_16
        refine ww_aload_n hX (pc := 19) dX11_plans_19 rfl ?_
        refine ww_getR hX (pc := 20) fX11_86 (by decide) (xs_49 hL) (xr_49_36 hL) dX11_plans_20 ?_
        refine ww_sipush hX (pc := 23) (x := 256) dX11_plans_23 (by decide) ?_
        refine ww_iload_n hX (pc := 26) dX11_plans_26 rfl ?_
        refine ww_imul hX (pc := 27) dX11_plans_27 ?_
        refine ww_iload_n hX (pc := 28) dX11_plans_28 rfl ?_
        refine ww_iadd hX (pc := 29) dX11_plans_29 ?_
        refine ww_iconst hX (pc := 30) (x := 0) dX11_plans_30 rfl ?_
        refine ww_iast hX (pc := 31) (xs_70 hL) (by decide) (by omega) (by omega) dX11_plans_31 ?_
        refine ww_nmH (fun I_31 eI_31 => ?_)
        have kI_31 : Ch [70, 71] [] Ia I_31 := by rw [eI_31]; exact Ch_r kI11 (by decide) (by decide)
        have cI_31 : RX I_31 := by rw [eI_31]; exact RX_r cI11 (by decide)
        have qI_31 := RX_p cI_31
        have r304_I_31 : I_31 51 304 = I11 51 304 := by rw [eI_31, up2_off _ _ _ (by decide)]
        have r305_I_31 : I_31 51 305 = I11 51 305 := by rw [eI_31, up2_off _ _ _ (by decide)]
        have rf_I_31 : FU (I_31 51 304) = FU (I11 51 304) := by rw [r304_I_31]
        refine ww_aload_n hX (pc := 32) dX11_plans_32 rfl ?_
        refine ww_getR hX (pc := 33) fX11_89 (by decide) (xs_49 hL) (xr_49_37 hL) dX11_plans_33 ?_
        refine ww_sipush hX (pc := 36) (x := 256) dX11_plans_36 (by decide) ?_
        refine ww_iload_n hX (pc := 39) dX11_plans_39 rfl ?_
        refine ww_imul hX (pc := 40) dX11_plans_40 ?_
        refine ww_iload_n hX (pc := 41) dX11_plans_41 rfl ?_
        refine ww_iadd hX (pc := 42) dX11_plans_42 ?_
        refine ww_iconst hX (pc := 43) (x := 1) dX11_plans_43 rfl ?_
        refine ww_iast hX (pc := 44) (xs_71 hL) (by decide) (by omega) (by omega) dX11_plans_44 ?_
        refine ww_nmH (fun I_44 eI_44 => ?_)
        have kI_44 : Ch [70, 71] [] Ia I_44 := by rw [eI_44]; exact Ch_r kI_31 (by decide) (by decide)
        have cI_44 : RX I_44 := by rw [eI_44]; exact RX_r cI_31 (by decide)
        have qI_44 := RX_p cI_44
        have r304_I_44 : I_44 51 304 = I_31 51 304 := by rw [eI_44, up2_off _ _ _ (by decide)]
        have r305_I_44 : I_44 51 305 = I_31 51 305 := by rw [eI_44, up2_off _ _ _ (by decide)]
        have rf_I_44 : FU (I_44 51 304) = FU (I_31 51 304) := by rw [r304_I_44]
        refine ww_iinc hX (pc := 45) (lv' := [some (kR (some 49)), some (kI v_8), some (kI (q + 1)), none, none, none, none, none, none]) dX11_plans_45 rfl (by decide) rfl rfl ?_
        refine ww_goto hX (pc := 48) (tgt := 11) dX11_plans_48 (by decide) ?_
        exact ih_11 _ (by have hm9 := Sh0_e hq_11; omega) (q + 1) I_44 J11 rfl ⟨kI_44, cI_44, kJ11, by omega, by omega, by omega⟩
  exact hl_11 _ 0 Ia Ja rfl ⟨Ch_rf, hQ, (Kp_rf (a := 49) (b := 73)), rfl, rfl, by omega⟩
set_option maxHeartbeats 4000000 in
set_option maxRecDepth 20000 in
theorem c_X11_cheap (l0 : Launch) {Ia Ja : aI1} {Ra : aR1} {Sa : aS1} (hL : LY Ra Sa) (hQ : RX Ia) {a : Int} (ha0 : -2147483648 ≤ a) (ha1 : a < 2147483648)  : CT l0 3 0 0 mX11_cheap [kR (some 49), kI a] Ia Ja Ra Sa (cI (fun x I' J' => Ch [70, 71] [] Ia I' ∧ Kp 49 73 Ja J' ∧ RX I' ∧ True) Ra Sa) := by
  refine ct_in pn_X11 (Nat.le_of_ble_eq_true rfl) (fun X hX hT hIn => ?_)
  have hX : aK l0 X cX11_cheap 2 RX11 (some .int) 3 0 0 := hX
  change WW X 0 [some (kR (some 49)), some (kI a)] [] Ia Ja Ra Sa 0 0
  have qIa := RX_o hQ
  refine ww_iload_n hX (pc := 0) dX11_cheap_0 rfl ?_
  refine ww_iconst hX (pc := 1) (x := 0) dX11_cheap_1 rfl ?_
  refine ww_iconst hX (pc := 2) (x := 1) dX11_cheap_2 rfl ?_
  refine sI3 hX (pc := 3) sX11_101 (c_X11_lies l0 (by omega) (by omega) (by omega) (by omega) (by omega) (by omega)) (by decide) (Nat.le_refl 0) (Nat.le_refl 0) (Nat.le_of_ble_eq_true rfl) dX11_cheap_3 (fun x_3 I_3 J_3 h_3 => ?_)
  obtain ⟨rfl, rfl, h_3⟩ := h_3
  refine ww_if_ne hX (pc := 6) (tgt := 11) dX11_cheap_6 (by decide) (fun h_6 => ?_) (fun h_6 => ?_)
  · simp only [w32_mod] at h_6
    have k_3 := h_3.2.mp (by omega)
    clear h_3
    refine ww_aload_n hX (pc := 11) dX11_cheap_11 rfl ?_
    refine vV0 hX (pc := 12) sX11_341 (xs_49 hL) (c_X11_plans l0 hL hQ ) (by decide) (Nat.le_refl 0) (Nat.le_refl 0) (Nat.le_of_ble_eq_true rfl) dX11_cheap_12 (fun I_12 J_12 h_12 => ?_)
    have kJ_12 : Kp 49 73 Ja J_12 := Kp_tr (Kp_rf (a := 49) (b := 73)) h_12.2.1
    have kI_12 : Ch [70, 71] [] Ia I_12 := Ch_tr Ch_rf (Ch_wd h_12.1 (by decide) (by decide))
    have cI_12 : RX I_12 := h_12.2.2.1
    have qI_12 := RX_o cI_12
    have r304_I_12 : I_12 51 304 = Ia 51 304 := by rw [h_12.1.1 51 (by decide) (by decide)]
    have r305_I_12 : I_12 51 305 = Ia 51 305 := by rw [h_12.1.1 51 (by decide) (by decide)]
    have rf_I_12 : FU (I_12 51 304) = FU (Ia 51 304) := by rw [r304_I_12]
    refine ww_iload_n hX (pc := 15) dX11_cheap_15 rfl ?_
    refine ww_iconst hX (pc := 16) (x := 1) dX11_cheap_16 rfl ?_
    refine ww_icmp_ne hX (pc := 17) (tgt := 29) dX11_cheap_17 (by decide) (fun h_17 => ?_) (fun h_17 => ?_)
    · simp only [w32_mod] at h_17
      refine ww_aload_n hX (pc := 29) dX11_cheap_29 rfl ?_
      refine ww_getR hX (pc := 30) fX11_86 (by decide) (xs_49 hL) (xr_49_36 hL) dX11_cheap_30 ?_
      refine ww_iconst hX (pc := 33) (x := 0) dX11_cheap_33 rfl ?_
      refine ww_iald hX (pc := 34) (xs_70 hL) (by decide) (by omega) (by omega) dX11_cheap_34 ?_
      refine ww_toI (b := I_12 70 0) rfl ?_
      refine ww_ldcw hX (pc := 35) (x := 1000000000) dX11_cheap_35 tb_1457 ?_
      refine ww_icmp_ne hX (pc := 38) (tgt := 45) dX11_cheap_38 (by decide) (fun h_38 => ?_) (fun h_38 => ?_)
      · simp only [w32_mod] at h_38
        refine ww_aload_n hX (pc := 45) dX11_cheap_45 rfl ?_
        refine ww_getR hX (pc := 46) fX11_86 (by decide) (xs_49 hL) (xr_49_36 hL) dX11_cheap_46 ?_
        refine ww_iconst hX (pc := 49) (x := 0) dX11_cheap_49 rfl ?_
        refine ww_iald hX (pc := 50) (xs_70 hL) (by decide) (by omega) (by omega) dX11_cheap_50 ?_
        refine ww_toI (b := I_12 70 0) rfl ?_
        refine rI hX (pc := 51) hT (Nat.le_refl 0) (Nat.le_refl 0) dX11_cheap_51 ?_
        exact ⟨kI_12, kJ_12, cI_12, trivial⟩
      · simp only [w32_mod] at h_38
        refine ww_iconst hX (pc := 41) (x := (-1)) dX11_cheap_41 rfl ?_
        refine ww_goto hX (pc := 42) (tgt := 51) dX11_cheap_42 (by decide) ?_
        refine rI hX (pc := 51) hT (Nat.le_refl 0) (Nat.le_refl 0) dX11_cheap_51 ?_
        exact ⟨kI_12, kJ_12, cI_12, trivial⟩
    · simp only [w32_mod] at h_17
      refine ww_aload_n hX (pc := 20) dX11_cheap_20 rfl ?_
      refine ww_getR hX (pc := 21) fX11_89 (by decide) (xs_49 hL) (xr_49_37 hL) dX11_cheap_21 ?_
      refine ww_iconst hX (pc := 24) (x := 0) dX11_cheap_24 rfl ?_
      refine ww_iald hX (pc := 25) (xs_71 hL) (by decide) (by omega) (by omega) dX11_cheap_25 ?_
      refine ww_toI (b := I_12 71 0) rfl ?_
      refine ww_goto hX (pc := 26) (tgt := 51) dX11_cheap_26 (by decide) ?_
      refine rI hX (pc := 51) hT (Nat.le_refl 0) (Nat.le_refl 0) dX11_cheap_51 ?_
      exact ⟨kI_12, kJ_12, cI_12, trivial⟩
  · simp only [w32_mod] at h_6
    refine ww_iconst hX (pc := 9) (x := (-1)) dX11_cheap_9 rfl ?_
    refine rI hX (pc := 10) hT (Nat.le_refl 0) (Nat.le_refl 0) dX11_cheap_10 ?_
    exact ⟨Ch_rf, (Kp_rf (a := 49) (b := 73)), hQ, trivial⟩
end
section
theorem PL_w {k L : Nat → Int} {i s : Int} (h : PLs k L i s) (hn : ¬ w32 (L (256 * i + s).toNat) = w32 1000000000) : ∃ t, s ≤ t ∧ t ≤ FU (k 304) ∧ Cand k L i s t ∧ vPl k L i s t = L (256 * i + s).toNat := by
  rcases h with h | h
  · exact absurd (by rw [h]) hn
  · exact h
set_option maxHeartbeats 4000000 in
set_option maxRecDepth 20000 in
theorem c_X11_plan (l0 : Launch) {Ia Ja : aI1} {Ra : aR1} {Sa : aS1} (hL : LY Ra Sa) (hQ : RX Ia) {a : Int} (ha0 : -2147483648 ≤ a) (ha1 : a < 2147483648)  : CT l0 3 0 0 mX11_plan [kR (some 49), kI a] Ia Ja Ra Sa (cI (fun x I' J' => Ch [70, 71] [] Ia I' ∧ Kp 49 73 Ja J' ∧ RX I' ∧ True) Ra Sa) := by
  refine ct_in pn_X11 (Nat.le_of_ble_eq_true rfl) (fun X hX hT hIn => ?_)
  have hX : aK l0 X cX11_plan 5 RX11 (some .int) 3 0 0 := hX
  change WW X 0 [some (kR (some 49)), some (kI a), none, none, none] [] Ia Ja Ra Sa 0 0
  have qIa := RX_p hQ
  refine ww_iload_n hX (pc := 0) dX11_plan_0 rfl ?_
  refine ww_iconst hX (pc := 1) (x := 0) dX11_plan_1 rfl ?_
  refine ww_aload_n hX (pc := 2) dX11_plan_2 rfl ?_
  refine ww_getR hX (pc := 3) fX11_20 (by decide) (xs_49 hL) (xr_49_3 hL) dX11_plan_3 ?_
  refine ww_sipush hX (pc := 6) (x := 309) dX11_plan_6 (by decide) ?_
  refine ww_iald hX (pc := 9) (xs_51 hL) (by decide) (by omega) (by omega) dX11_plan_9 ?_
  refine ww_toI (b := Ia 51 309) rfl ?_
  refine ww_iconst hX (pc := 10) (x := 1) dX11_plan_10 rfl ?_
  refine ww_isub hX (pc := 11) dX11_plan_11 ?_
  refine sI3 hX (pc := 12) sX11_101 (c_X11_lies l0 (by omega) (by omega) (by omega) (by omega) (by omega) (by omega)) (by decide) (Nat.le_refl 0) (Nat.le_refl 0) (Nat.le_of_ble_eq_true rfl) dX11_plan_12 (fun x_12 I_12 J_12 h_12 => ?_)
  obtain ⟨rfl, rfl, h_12⟩ := h_12
  refine ww_if_ne hX (pc := 15) (tgt := 20) dX11_plan_15 (by decide) (fun h_15 => ?_) (fun h_15 => ?_)
  · simp only [w32_mod] at h_15
    have k_12 := h_12.2.mp (by omega)
    clear h_12
    refine ww_aload_n hX (pc := 20) dX11_plan_20 rfl ?_
    refine vV0 hX (pc := 21) sX11_341 (xs_49 hL) (c_X11_plans l0 hL hQ ) (by decide) (Nat.le_refl 0) (Nat.le_refl 0) (Nat.le_of_ble_eq_true rfl) dX11_plan_21 (fun I_21 J_21 h_21 => ?_)
    have kJ_21 : Kp 49 73 Ja J_21 := Kp_tr (Kp_rf (a := 49) (b := 73)) h_21.2.1
    have kI_21 : Ch [70, 71] [] Ia I_21 := Ch_tr Ch_rf (Ch_wd h_21.1 (by decide) (by decide))
    have cI_21 : RX I_21 := h_21.2.2.1
    have qI_21 := RX_p cI_21
    have r304_I_21 : I_21 51 304 = Ia 51 304 := by rw [h_21.1.1 51 (by decide) (by decide)]
    have r305_I_21 : I_21 51 305 = Ia 51 305 := by rw [h_21.1.1 51 (by decide) (by decide)]
    have r309_I_21 : I_21 51 309 = Ia 51 309 := by rw [h_21.1.1 51 (by decide) (by decide)]
    have rf_I_21 : FU (I_21 51 304) = FU (Ia 51 304) := by rw [r304_I_21]
    have hk21 : I_21 51 = Ia 51 := h_21.1.1 51 (by decide) (by decide)
    have hpl : ∀ i9 s9 : Int, 0 ≤ i9 → i9 < I_21 51 309 → 0 ≤ s9 → s9 ≤ FU (I_21 51 304) → PLs (I_21 51) (I_21 70) i9 s9 := by rw [hk21]; exact h_21.2.2.2
    refine ww_aload_n hX (pc := 24) dX11_plan_24 rfl ?_
    refine ww_getR hX (pc := 25) fX11_86 (by decide) (xs_49 hL) (xr_49_36 hL) dX11_plan_25 ?_
    refine ww_iconst hX (pc := 28) (x := 0) dX11_plan_28 rfl ?_
    refine ww_iald hX (pc := 29) (xs_70 hL) (by decide) (by omega) (by omega) dX11_plan_29 ?_
    refine ww_toI (b := I_21 70 0) rfl ?_
    refine ww_ldcw hX (pc := 30) (x := 1000000000) dX11_plan_30 tb_1457 ?_
    refine ww_icmp_ne hX (pc := 33) (tgt := 38) dX11_plan_33 (by decide) (fun h_33 => ?_) (fun h_33 => ?_)
    · simp only [w32_mod] at h_33
      refine ww_iconst hX (pc := 38) (x := 0) dX11_plan_38 rfl ?_
      refine ww_istore_n hX (pc := 39) (lv' := [some (kR (some 49)), some (kI a), some (kI 0), none, none]) dX11_plan_39 (by decide) rfl rfl ?_
      refine ww_iconst hX (pc := 40) (x := 0) dX11_plan_40 rfl ?_
      refine ww_istore_n hX (pc := 41) (lv' := [some (kR (some 49)), some (kI a), some (kI 0), some (kI 0), none]) dX11_plan_41 (by decide) rfl rfl ?_
      have hl_42 : ∀ (n_42 : Nat) (sa : Int) (k : Int), (a + 1 - k).toNat = n_42 → ((0 ≤ k ∧ k ≤ a + 1) ∧ (0 ≤ sa ∧ sa ≤ FU (I_21 51 304)) ∧ (¬ w32 (I_21 70 (256 * k + sa).toNat) = w32 1000000000)) → WW X 42 [some (kR (some 49)), some (kI a), some (kI sa), some (kI k), none] [] I_21 J_21 Ra Sa 0 0 := by
        intro n_42
        induction n_42 using Nat.strongRecOn with
        | ind n_42 ih_42 =>
          intro sa k hm_42 hv_42
          have hq_42 := Sh0_i hm_42
          clear hm_42
          obtain ⟨hv, hv1, hnf⟩ := hv_42
          refine ww_iload_n hX (pc := 42) dX11_plan_42 rfl ?_
          refine ww_iload_n hX (pc := 43) dX11_plan_43 rfl ?_
          refine ww_icmp_gt hX (pc := 44) (tgt := 164) dX11_plan_44 (by decide) (fun h_44 => ?_) (fun h_44 => ?_)
          · simp only [w32_mod] at h_44
            refine ww_iload_n hX (pc := 164) dX11_plan_164 rfl ?_
            refine rI hX (pc := 165) hT (Nat.le_refl 0) (Nat.le_refl 0) dX11_plan_165 ?_
            exact ⟨kI_21, kJ_21, cI_21, trivial⟩
          · simp only [w32_mod] at h_44
            refine ww_iload_n hX (pc := 47) dX11_plan_47 rfl ?_
            refine ww_istore hX (pc := 48) (lv' := [some (kR (some 49)), some (kI a), some (kI sa), some (kI k), some (kI sa)]) dX11_plan_48 (by decide) rfl rfl ?_
            obtain ⟨tw, hw1, hw2, ⟨hc1, hc2, hc3⟩, hw4⟩ := PL_w (hpl k sa (by omega) (by omega) (by omega) (by omega)) hnf
            have hl_50 : ∀ (n_50 : Nat) (t : Int), (tw - t).toNat = n_50 → ((sa ≤ t ∧ t ≤ tw)) → WW X 50 [some (kR (some 49)), some (kI a), some (kI sa), some (kI k), some (kI t)] [] I_21 J_21 Ra Sa 0 0 := by
              intro n_50
              induction n_50 using Nat.strongRecOn with
              | ind n_50 ih_50 =>
                intro t hm_50 hv_50
                have hq_50 := Sh0_i hm_50
                clear hm_50
                have hu := hv_50
                refine ww_aload_n hX (pc := 50) dX11_plan_50 rfl ?_
                refine ww_iload hX (pc := 51) dX11_plan_51 rfl ?_
                refine vI1 hX (pc := 53) sX11_126 (xs_49 hL) (c_X11_readOf l0 hL cI_21 (by omega) (by omega)) (by decide) (Nat.le_refl 0) (Nat.le_refl 0) (Nat.le_of_ble_eq_true rfl) dX11_plan_53 (fun x_53 I_53 J_53 h_53 => ?_)
                obtain ⟨rfl, rfl, h_53⟩ := h_53
                refine ww_aload_n hX (pc := 56) dX11_plan_56 rfl ?_
                refine ww_getR hX (pc := 57) fX11_20 (by decide) (xs_49 hL) (xr_49_3 hL) dX11_plan_57 ?_
                refine ww_sipush hX (pc := 60) (x := 288) dX11_plan_60 (by decide) ?_
                refine ww_iload_n hX (pc := 63) dX11_plan_63 rfl ?_
                refine ww_iadd hX (pc := 64) dX11_plan_64 ?_
                refine ww_iald hX (pc := 65) (xs_51 hL) (by decide) (by omega) (by omega) dX11_plan_65 ?_
                refine ww_icmp_ne hX (pc := 66) (tgt := 149) dX11_plan_66 (by decide) (fun h_66 => ?_) (fun h_66 => ?_)
                · simp only [w32_mod] at h_66
                  have hne : ¬ t = tw := fun e9 => by rw [← e9] at hc1; simp only [w32_mod] at hc1; omega
                  refine ww_iinc hX (pc := 149) (lv' := [some (kR (some 49)), some (kI a), some (kI sa), some (kI k), some (kI (t + 1))]) dX11_plan_149 rfl (by decide) rfl rfl ?_
                  refine ww_goto hX (pc := 152) (tgt := 50) dX11_plan_152 (by decide) ?_
                  exact ih_50 _ (by have hm9 := Sh0_e hq_50; omega) (t + 1) rfl (by omega)
                · simp only [w32_mod] at h_66
                  refine ww_aload_n hX (pc := 69) dX11_plan_69 rfl ?_
                  refine ww_iload_n hX (pc := 70) dX11_plan_70 rfl ?_
                  refine ww_iload hX (pc := 71) dX11_plan_71 rfl ?_
                  refine ww_aload_n hX (pc := 73) dX11_plan_73 rfl ?_
                  refine ww_getR hX (pc := 74) fX11_20 (by decide) (xs_49 hL) (xr_49_3 hL) dX11_plan_74 ?_
                  refine ww_sipush hX (pc := 77) (x := 306) dX11_plan_77 (by decide) ?_
                  refine ww_iald hX (pc := 80) (xs_51 hL) (by decide) (by omega) (by omega) dX11_plan_80 ?_
                  refine ww_toI (b := I_21 51 306) rfl ?_
                  refine vI3 hX (pc := 81) sX11_271 (xs_49 hL) (c_X11_canCome l0 hL cI_21 ) (by decide) (Nat.le_refl 0) (Nat.le_refl 0) (Nat.le_of_ble_eq_true rfl) dX11_plan_81 (fun x_81 I_81 J_81 h_81 => ?_)
                  obtain ⟨rfl, rfl, h_81⟩ := h_81
                  refine ww_if_eq hX (pc := 84) (tgt := 149) dX11_plan_84 (by decide) (fun h_84 => ?_) (fun h_84 => ?_)
                  · simp only [w32_mod] at h_84
                    have hne : ¬ t = tw := fun e9 => by rw [← e9] at hc2; have := h_81.2.mpr hc2; omega
                    refine ww_iinc hX (pc := 149) (lv' := [some (kR (some 49)), some (kI a), some (kI sa), some (kI k), some (kI (t + 1))]) dX11_plan_149 rfl (by decide) rfl rfl ?_
                    refine ww_goto hX (pc := 152) (tgt := 50) dX11_plan_152 (by decide) ?_
                    exact ih_50 _ (by have hm9 := Sh0_e hq_50; omega) (t + 1) rfl (by omega)
                  · simp only [w32_mod] at h_84
                    have k_81 := h_81.2.mp (by omega)
                    clear h_81
                    refine ww_aload_n hX (pc := 87) dX11_plan_87 rfl ?_
                    refine ww_getR hX (pc := 88) fX11_86 (by decide) (xs_49 hL) (xr_49_36 hL) dX11_plan_88 ?_
                    refine ww_sipush hX (pc := 91) (x := 256) dX11_plan_91 (by decide) ?_
                    refine ww_iload_n hX (pc := 94) dX11_plan_94 rfl ?_
                    refine ww_iconst hX (pc := 95) (x := 1) dX11_plan_95 rfl ?_
                    refine ww_iadd hX (pc := 96) dX11_plan_96 ?_
                    refine ww_imul hX (pc := 97) dX11_plan_97 ?_
                    refine ww_iload hX (pc := 98) dX11_plan_98 rfl ?_
                    refine ww_iadd hX (pc := 100) dX11_plan_100 ?_
                    refine ww_iald hX (pc := 101) (xs_70 hL) (by decide) (by omega) (by omega) dX11_plan_101 ?_
                    refine ww_ldcw hX (pc := 102) (x := 1000000000) dX11_plan_102 tb_1457 ?_
                    refine ww_icmp_eq hX (pc := 105) (tgt := 149) dX11_plan_105 (by decide) (fun h_105 => ?_) (fun h_105 => ?_)
                    · simp only [w32_mod] at h_105
                      have hne : ¬ t = tw := fun e9 => by rw [← e9] at hc3; simp only [w32_mod] at hc3; omega
                      refine ww_iinc hX (pc := 149) (lv' := [some (kR (some 49)), some (kI a), some (kI sa), some (kI k), some (kI (t + 1))]) dX11_plan_149 rfl (by decide) rfl rfl ?_
                      refine ww_goto hX (pc := 152) (tgt := 50) dX11_plan_152 (by decide) ?_
                      exact ih_50 _ (by have hm9 := Sh0_e hq_50; omega) (t + 1) rfl (by omega)
                    · simp only [w32_mod] at h_105
                      have hnf2 : ¬ w32 (I_21 70 (256 * (k + 1) + t).toNat) = w32 1000000000 := by simp only [w32_mod]; omega
                      refine ww_aload_n hX (pc := 108) dX11_plan_108 rfl ?_
                      refine ww_iload hX (pc := 109) dX11_plan_109 rfl ?_
                      refine ww_iload_n hX (pc := 111) dX11_plan_111 rfl ?_
                      refine ww_iconst hX (pc := 112) (x := (-1)) dX11_plan_112 rfl ?_
                      refine ww_ixor hX (pc := 113) dX11_plan_113 ?_
                      refine ww_iand hX (pc := 114) dX11_plan_114 ?_
                      refine vI1 hX (pc := 115) sX11_301 (xs_49 hL) (c_X11_oilOf l0 hL cI_21 ) (by decide) (Nat.le_refl 0) (Nat.le_refl 0) (Nat.le_of_ble_eq_true rfl) dX11_plan_115 (fun x_115 I_115 J_115 h_115 => ?_)
                      obtain ⟨rfl, rfl, h_115⟩ := h_115
                      refine ww_aload_n hX (pc := 118) dX11_plan_118 rfl ?_
                      refine ww_getR hX (pc := 119) fX11_86 (by decide) (xs_49 hL) (xr_49_36 hL) dX11_plan_119 ?_
                      refine ww_sipush hX (pc := 122) (x := 256) dX11_plan_122 (by decide) ?_
                      refine ww_iload_n hX (pc := 125) dX11_plan_125 rfl ?_
                      refine ww_iconst hX (pc := 126) (x := 1) dX11_plan_126 rfl ?_
                      refine ww_iadd hX (pc := 127) dX11_plan_127 ?_
                      refine ww_imul hX (pc := 128) dX11_plan_128 ?_
                      refine ww_iload hX (pc := 129) dX11_plan_129 rfl ?_
                      refine ww_iadd hX (pc := 131) dX11_plan_131 ?_
                      refine ww_iald hX (pc := 132) (xs_70 hL) (by decide) (by omega) (by omega) dX11_plan_132 ?_
                      refine ww_iadd hX (pc := 133) dX11_plan_133 ?_
                      refine ww_aload_n hX (pc := 134) dX11_plan_134 rfl ?_
                      refine ww_getR hX (pc := 135) fX11_86 (by decide) (xs_49 hL) (xr_49_36 hL) dX11_plan_135 ?_
                      refine ww_sipush hX (pc := 138) (x := 256) dX11_plan_138 (by decide) ?_
                      refine ww_iload_n hX (pc := 141) dX11_plan_141 rfl ?_
                      refine ww_imul hX (pc := 142) dX11_plan_142 ?_
                      refine ww_iload_n hX (pc := 143) dX11_plan_143 rfl ?_
                      refine ww_iadd hX (pc := 144) dX11_plan_144 ?_
                      refine ww_iald hX (pc := 145) (xs_70 hL) (by decide) (by omega) (by omega) dX11_plan_145 ?_
                      refine ww_icmp_eq hX (pc := 146) (tgt := 155) dX11_plan_146 (by decide) (fun h_146 => ?_) (fun h_146 => ?_)
                      · simp only [w32_mod] at h_146
                        refine ww_iload hX (pc := 155) dX11_plan_155 rfl ?_
                        refine ww_istore_n hX (pc := 157) (lv' := [some (kR (some 49)), some (kI a), some (kI t), some (kI k), some (kI t)]) dX11_plan_157 (by decide) rfl rfl ?_
                        refine ww_iinc hX (pc := 158) (lv' := [some (kR (some 49)), some (kI a), some (kI t), some (kI (k + 1)), some (kI t)]) dX11_plan_158 rfl (by decide) rfl rfl ?_
                        refine ww_goto hX (pc := 161) (tgt := 42) dX11_plan_161 (by decide) ?_
                        refine ww_sub [some (kR (some 49)), some (kI a), some (kI t), some (kI (k + 1)), none] (aLe_s (aLe_s (aLe_s (aLe_s (aLe_n aLe_0))))) ?_
                        exact ih_42 _ (by have hm9 := Sh0_e hq_42; omega) t (k + 1) rfl ⟨⟨by omega, by omega⟩, ⟨by omega, by omega⟩, hnf2⟩
                      · simp only [w32_mod] at h_146
                        have hne : ¬ t = tw := fun e9 => by rw [← e9] at hw4; unfold vPl at hw4; rw [← h_115] at hw4; omega
                        refine ww_iinc hX (pc := 149) (lv' := [some (kR (some 49)), some (kI a), some (kI sa), some (kI k), some (kI (t + 1))]) dX11_plan_149 rfl (by decide) rfl rfl ?_
                        refine ww_goto hX (pc := 152) (tgt := 50) dX11_plan_152 (by decide) ?_
                        exact ih_50 _ (by have hm9 := Sh0_e hq_50; omega) (t + 1) rfl (by omega)
            exact hl_50 _ sa rfl (by omega)
      exact hl_42 _ 0 0 rfl ⟨⟨by omega, by omega⟩, ⟨by omega, by omega⟩, by rw [show (256 * 0 + 0 : Int).toNat = 0 from rfl]; simp only [w32_mod]; omega⟩
    · simp only [w32_mod] at h_33
      refine ww_iconst hX (pc := 36) (x := (-1)) dX11_plan_36 rfl ?_
      refine rI hX (pc := 37) hT (Nat.le_refl 0) (Nat.le_refl 0) dX11_plan_37 ?_
      exact ⟨kI_21, kJ_21, cI_21, trivial⟩
  · simp only [w32_mod] at h_15
    refine ww_iconst hX (pc := 18) (x := (-1)) dX11_plan_18 rfl ?_
    refine rI hX (pc := 19) hT (Nat.le_refl 0) (Nat.le_refl 0) dX11_plan_19 ?_
    exact ⟨Ch_rf, (Kp_rf (a := 49) (b := 73)), hQ, trivial⟩
end
