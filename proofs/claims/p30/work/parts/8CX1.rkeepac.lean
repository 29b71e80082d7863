/-- a sum of MEANS, one NEWS more -/
def SMr (I J : aI1) (a i v : Int) : Prop := ∃ rr : Nat → Int, (∀ x : Nat, (x : Int) < i → GM (PB (I 51) (I 51 306) a (FU (I 51 304) + 1) x) (fun t => tI (J 62) (I 51 305) (I 51 304) a.toNat t) (rr x)) ∧ v = mS ((I 51 305 - 1) ^ (I 51 304 - pcn a.toNat).toNat) (I 51 a.toNat) rr (i).toNat
theorem SMr_0 {I J : aI1} {a v : Int} (h : v = if I 51 a.toNat = -1 then 0 else (I 51 305 - 1) ^ (I 51 304 - pcn a.toNat).toNat) : SMr I J a 0 v := ⟨fun _ => 0, fun x hx => absurd hx (by omega), h⟩
theorem SMr_s {I J : aI1} {a i v w b : Int} (h : SMr I J a i v) (hi : 0 ≤ i) (hb : GM (PB (I 51) (I 51 306) a (FU (I 51 304) + 1) i) (fun t => tI (J 62) (I 51 305) (I 51 304) a.toNat t) b) (hw : w = if i = I 51 a.toNat ∨ b = -1 then v else v + ((I 51 305 - 1) ^ (I 51 304 - pcn a.toNat).toNat + b)) : SMr I J a (i + 1) w := by
  obtain ⟨rr, h1, h2⟩ := h
  refine ⟨fun x => if (x : Int) = i then b else rr x, fun x hx => ?_, ?_⟩
  · show GM _ _ (if (x : Int) = i then b else rr x)
    by_cases e : (x : Int) = i
    · rw [if_pos e, e]
      exact hb
    · rw [if_neg e]
      exact h1 x (by omega)
  · rw [show (i + 1).toNat = i.toNat + 1 by omega, mS_s, hw, h2]
    have e1 : (if ((i.toNat : Nat) : Int) = i then b else rr i.toNat) = b := if_pos (by omega)
    rw [e1, show ((i.toNat : Nat) : Int) = i by omega]
    have e2 : mS ((I 51 305 - 1) ^ (I 51 304 - pcn a.toNat).toNat) (I 51 a.toNat) (fun x => if (x : Int) = i then b else rr x) i.toNat = mS ((I 51 305 - 1) ^ (I 51 304 - pcn a.toNat).toNat) (I 51 a.toNat) rr i.toNat := mS_cg _ (fun x hx => if_neg (by omega))
    rw [e2]
/-- the NEWS that is READ counts no more -/
theorem SMr_o {I J : aI1} {a i v : Int} (h : SMr I J a i v) (hi : 0 ≤ i) (ho : i = I 51 a.toNat) (hx : ∃ b, GM (PB (I 51) (I 51 306) a (FU (I 51 304) + 1) i) (fun t => tI (J 62) (I 51 305) (I 51 304) a.toNat t) b) : SMr I J a (i + 1) v := by
  obtain ⟨b, hb⟩ := hx
  exact SMr_s h hi hb (by rw [if_pos (Or.inl ho)])
/-- the greatest is there -/
theorem GM_ex {P : Nat → Prop} {T : Nat → Int} {m : Nat} (hP : ∀ t, P t → t < m) (hT : ∀ t, P t → 0 ≤ T t) : ∃ b, GM P T b := by
  have key : ∀ n, ∃ b, GM (fun t => P t ∧ t < n) T b := by
    intro n
    induction n with
    | zero => exact ⟨-1, GM_0 (fun t ht => absurd ht.2 (Nat.not_lt_zero t))⟩
    | succ n ih =>
      obtain ⟨b, hb⟩ := ih
      by_cases h : P n
      · exact ⟨_, GM_ad hb (fun t => ⟨fun ht => by
          by_cases e : t = n
          · exact Or.inr e
          · exact Or.inl ⟨ht.1, by have := ht.2; omega⟩, fun ht => by
          rcases ht with ht | rfl
          · exact ⟨ht.1, by have := ht.2; omega⟩
          · exact ⟨h, by omega⟩⟩) (hT n h)⟩
      · exact ⟨b, GM_cg hb (fun t => ⟨fun ht => ⟨ht.1, by have := ht.2; omega⟩, fun ht => ⟨ht.1, by
          have h2 := ht.2
          refine Nat.lt_of_le_of_ne (by omega) (fun e => h ?_)
          rw [← e]
          exact ht.1⟩⟩) (fun _ _ => rfl)⟩
  obtain ⟨b, hb⟩ := key m
  exact ⟨b, GM_cg hb (fun t => ⟨fun ht => ht.1, fun ht => ⟨ht, hP t ht⟩⟩) (fun _ _ => rfl)⟩

set_option maxHeartbeats 4000000 in
set_option maxRecDepth 20000 in
theorem c8_X11_meanOf (l0 : Launch) {Ia Ja : aI1} {Ra : aR1} {Sa : aS1} (hL : LY Ra Sa) (hQ : RX Ia) {a : Int} (ha0 : 0 ≤ a) (ha1 : a ≤ FU (Ia 51 304)) (hcr : ∀ t : Nat, (t : Int) ≤ FU (Ia 51 304) → -1 ≤ Ia 51 t ∧ Ia 51 t ≤ 7) (hM : ∀ t : Nat, a < t → (t : Int) ≤ FU (Ia 51 304) → MR8 (Ia 51 304) (Ia 51 305 - 1) (Ia 51 t) (pcn t) (Ja 62 t)) (hcK : Ia 51 a.toNat < Ia 51 305)  : CT l0 3 0 0 mX11_meanOf [kR (some 49), kI a] Ia Ja Ra Sa (cJ (fun x I' J' => Ia = I' ∧ Ja = J' ∧ MRs (Ia 51) (Ia 51 306) (FU (Ia 51 304) + 1) (Ia 51 305) (Ia 51 304) (Ja 62) a.toNat x ∧ MR8 (Ia 51 304) (Ia 51 305 - 1) (Ia 51 a.toNat) (pcn a.toNat) x) Ra Sa) := by
  refine ct_in pn_X11 (Nat.le_of_ble_eq_true rfl) (fun X hX hT hIn => ?_)
  have hX : aK l0 X cX11_meanOf 9 RX11 (some .long) 3 0 0 := hX
  change WW X 0 [some (kR (some 49)), some (kI a), none, none, none, none, none, none, none] [] Ia Ja Ra Sa 0 0
  have qIa := RX_o hQ
  have hpn := pcn_n (n := Ia 51 304) (t := a.toNat) (by omega) (by omega) (by omega)
  have hpr := pcn_r a.toNat
  have hu7 := pow_7 (b := Ia 51 305 - 1) (n := (Ia 51 304 - pcn a.toNat).toNat) (by omega) (by omega) (by omega)
  have hB0 : 0 ≤ (2 * (Ia 51 304 - pcn a.toNat) * (Ia 51 305 - 1) ^ (Ia 51 304 - pcn a.toNat).toNat) := Int.mul_nonneg (by omega) (by omega)
  have hB16 : (2 * (Ia 51 304 - pcn a.toNat) * (Ia 51 305 - 1) ^ (Ia 51 304 - pcn a.toNat).toNat) ≤ 16 * (Ia 51 305 - 1) ^ (Ia 51 304 - pcn a.toNat).toNat := Int.mul_le_mul_of_nonneg_right (by omega) (by omega)
  have hca := hcr a.toNat (by omega)
  have hTI : ∀ (x : Int) (t : Nat), 0 ≤ x → PB (Ia 51) (Ia 51 306) a (FU (Ia 51 304) + 1) x t → 0 ≤ tI (Ja 62) (Ia 51 305) (Ia 51 304) a.toNat t ∧ tI (Ja 62) (Ia 51 305) (Ia 51 304) a.toNat t ≤ (2 * (Ia 51 304 - pcn a.toNat) * (Ia 51 305 - 1) ^ (Ia 51 304 - pcn a.toNat).toNat) := fun x t hx ht => by
    have h1 := ht.1
    have h2 := ht.2.1
    have h3 := pcn_n (n := Ia 51 304) (t := t) (by omega) (by omega) (by omega)
    have h4 := pcn_lt ht.2.2.1 (by omega) (by omega)
    have h5 := ht.2.2.2.2
    exact tI_r (by omega) (by omega) (hM t h1 (by omega)) (by omega) h4
  refine ww_aload_n hX (pc := 0) dX11_meanOf_0 rfl ?_
  refine ww_iload_n hX (pc := 1) dX11_meanOf_1 rfl ?_
  refine vI1 hX (pc := 2) sX11_274 (xs_49 hL) (c8_X11_dark l0 hL hQ (by omega) (by omega)) (by decide) (Nat.le_refl 0) (Nat.le_refl 0) (Nat.le_of_ble_eq_true rfl) dX11_meanOf_2 (fun x_2 I_2 J_2 h_2 => ?_)
  obtain ⟨rfl, rfl, h_2⟩ := h_2
  have hv2 : x_2 = Ia 51 304 - pcn a.toNat := h_2
  refine ww_istore_n hX (pc := 5) (lv' := [some (kR (some 49)), some (kI a), some (kI x_2), none, none, none, none, none, none]) dX11_meanOf_5 (by decide) rfl rfl ?_
  refine ww_aload_n hX (pc := 6) dX11_meanOf_6 rfl ?_
  refine ww_iload_n hX (pc := 7) dX11_meanOf_7 rfl ?_
  refine vI1 hX (pc := 8) sX11_126 (xs_49 hL) (c_X11_readOf l0 hL hQ (by omega) (by omega)) (by decide) (Nat.le_refl 0) (Nat.le_refl 0) (Nat.le_of_ble_eq_true rfl) dX11_meanOf_8 (fun x_8 I_8 J_8 h_8 => ?_)
  obtain ⟨rfl, rfl, h_8⟩ := h_8
  refine ww_iconst hX (pc := 11) (x := (-1)) dX11_meanOf_11 rfl ?_
  refine ww_icmp_ne hX (pc := 12) (tgt := 19) dX11_meanOf_12 (by decide) (fun h_12 => ?_) (fun h_12 => ?_)
  · simp only [w32_mod] at h_12
    skip
    refine ww_aload_n hX (pc := 19) dX11_meanOf_19 rfl ?_
    refine ww_iload_n hX (pc := 20) dX11_meanOf_20 rfl ?_
    refine vJ1 hX (pc := 21) sX11_277 (xs_49 hL) (c_X11_power l0 hL hQ (by omega) (by omega)) (by decide) (Nat.le_refl 0) (Nat.le_refl 0) (Nat.le_of_ble_eq_true rfl) dX11_meanOf_21 (fun x_21 I_21 J_21 h_21 => ?_)
    obtain ⟨rfl, rfl, h_21⟩ := h_21
    refine ww_lstore_n hX (pc := 24) (lv' := [some (kR (some 49)), some (kI a), some (kI x_2), some (kL x_21), none, none, none, none, none]) dX11_meanOf_24 (by decide) rfl rfl ?_
    refine ww_iconst hX (pc := 25) (x := 0) dX11_meanOf_25 rfl ?_
    refine ww_istore hX (pc := 26) (lv' := [some (kR (some 49)), some (kI a), some (kI x_2), some (kL x_21), none, some (kI 0), none, none, none]) dX11_meanOf_26 (by decide) rfl rfl ?_
    have hl_28 : ∀ (n_28 : Nat) (sm : Int) (i : Int), (Ia 51 305 - i).toNat = n_28 → ((0 ≤ i ∧ i ≤ Ia 51 305) ∧ SMr Ia Ja a i sm) → WW X 28 [some (kR (some 49)), some (kI a), some (kI x_2), some (kL sm), none, some (kI i), none, none, none] [] Ia Ja Ra Sa 0 0 := by
      intro n_28
      induction n_28 using Nat.strongRecOn with
      | ind n_28 ih_28 =>
        intro sm i hm_28 hv_28
        have hq_28 := Sh0_i hm_28
        clear hm_28
        obtain ⟨hv, hsm⟩ := hv_28
        refine ww_iload hX (pc := 28) dX11_meanOf_28 rfl ?_
        refine ww_aload_n hX (pc := 30) dX11_meanOf_30 rfl ?_
        refine ww_getR hX (pc := 31) fX11_20 (by decide) (xs_49 hL) (xr_49_3 hL) dX11_meanOf_31 ?_
        refine ww_sipush hX (pc := 34) (x := 305) dX11_meanOf_34 (by decide) ?_
        refine ww_iald hX (pc := 37) (xs_51 hL) (by decide) (by omega) (by omega) dX11_meanOf_37 ?_
        refine ww_toI (b := Ia 51 305) rfl ?_
        refine ww_icmp_ge hX (pc := 38) (tgt := 156) dX11_meanOf_38 (by decide) (fun h_38 => ?_) (fun h_38 => ?_)
        · simp only [w32_mod] at h_38
          refine ww_lload_n hX (pc := 156) dX11_meanOf_156 rfl ?_
          refine rJ hX (pc := 157) hT (Nat.le_refl 0) (Nat.le_refl 0) dX11_meanOf_157 ?_
          exact ⟨rfl, rfl, (by obtain ⟨rr, g1, g2⟩ := hsm; rw [show i = Ia 51 305 by omega] at g1 g2; exact ⟨rr, fun x hx => by rw [show ((a.toNat : Nat) : Int) = a by omega]; exact g1 x hx, g2⟩), (by obtain ⟨rr, g1, g2⟩ := hsm; rw [show i = Ia 51 305 by omega] at g1 g2; exact MR8_of (by omega) (by omega) (by omega) (by omega) (by omega) rfl (fun x hx => GT_r (g1 x (by omega)) (fun t ht => hTI x t (by omega) ht) (by omega)) g2)⟩
        · simp only [w32_mod] at h_38
          skip
          refine ww_iload hX (pc := 41) dX11_meanOf_41 rfl ?_
          refine ww_aload_n hX (pc := 43) dX11_meanOf_43 rfl ?_
          refine ww_iload_n hX (pc := 44) dX11_meanOf_44 rfl ?_
          refine vI1 hX (pc := 45) sX11_126 (xs_49 hL) (c_X11_readOf l0 hL hQ (by omega) (by omega)) (by decide) (Nat.le_refl 0) (Nat.le_refl 0) (Nat.le_of_ble_eq_true rfl) dX11_meanOf_45 (fun x_45 I_45 J_45 h_45 => ?_)
          obtain ⟨rfl, rfl, h_45⟩ := h_45
          refine ww_icmp_ne hX (pc := 48) (tgt := 54) dX11_meanOf_48 (by decide) (fun h_48 => ?_) (fun h_48 => ?_)
          · simp only [w32_mod] at h_48
            refine ww_ldc2 hX (pc := 54) (x := (-1)) dX11_meanOf_54 tb_1398 ?_
            refine ww_lstore hX (pc := 57) (lv' := [some (kR (some 49)), some (kI a), some (kI x_2), some (kL sm), none, some (kI i), some (kL (-1)), none, none]) dX11_meanOf_57 (by decide) rfl rfl ?_
            refine ww_iload_n hX (pc := 59) dX11_meanOf_59 rfl ?_
            refine ww_iconst hX (pc := 60) (x := 1) dX11_meanOf_60 rfl ?_
            refine ww_iadd hX (pc := 61) dX11_meanOf_61 ?_
            refine ww_nmI (fun v_62 hv_62 => ?_)
            refine ww_istore hX (pc := 62) (lv' := [some (kR (some 49)), some (kI a), some (kI x_2), some (kL sm), none, some (kI i), some (kL (-1)), none, some (kI v_62)]) dX11_meanOf_62 (by decide) rfl rfl ?_
            have hl_64 : ∀ (n_64 : Nat) (bs : Int) (t : Int), (256 - t).toNat = n_64 → ((a + 1 ≤ t ∧ t ≤ (FU (Ia 51 304) + 1)) ∧ GM (fun u => PB (Ia 51) (Ia 51 306) a (FU (Ia 51 304) + 1) i u ∧ (u : Int) < t) (fun t => tI (Ja 62) (Ia 51 305) (Ia 51 304) a.toNat t) (bs)) → WW X 64 [some (kR (some 49)), some (kI a), some (kI x_2), some (kL sm), none, some (kI i), some (kL bs), none, some (kI t)] [] Ia Ja Ra Sa 0 0 := by
              intro n_64
              induction n_64 using Nat.strongRecOn with
              | ind n_64 ih_64 =>
                intro bs t hm_64 hv_64
                have hq_64 := Sh0_i hm_64
                clear hm_64
                obtain ⟨hu, hgt⟩ := hv_64
                refine ww_iload hX (pc := 64) dX11_meanOf_64 rfl ?_
                refine ww_aload_n hX (pc := 66) dX11_meanOf_66 rfl ?_
                refine vI0 hX (pc := 67) sX11_112 (xs_49 hL) (c_X11_states l0 hL hQ ) (by decide) (Nat.le_refl 0) (Nat.le_refl 0) (Nat.le_of_ble_eq_true rfl) dX11_meanOf_67 (fun x_67 I_67 J_67 h_67 => ?_)
                obtain ⟨rfl, rfl, h_67⟩ := h_67
                refine ww_icmp_ge hX (pc := 70) (tgt := 130) dX11_meanOf_70 (by decide) (fun h_70 => ?_) (fun h_70 => ?_)
                · simp only [w32_mod] at h_70
                  refine ww_lload hX (pc := 130) dX11_meanOf_130 rfl ?_
                  refine ww_ldc2 hX (pc := 132) (x := (-1)) dX11_meanOf_132 tb_1398 ?_
                  refine ww_lcmp hX (pc := 135) dX11_meanOf_135 ?_
                  refine ww_if_eq hX (pc := 136) (tgt := 150) dX11_meanOf_136 (by decide) (fun h_136 => ?_) (fun h_136 => ?_)
                  · simp only [w32_mod] at h_136
                    have hgr := GT_r hgt (B := (2 * (Ia 51 304 - pcn a.toNat) * (Ia 51 305 - 1) ^ (Ia 51 304 - pcn a.toNat).toNat)) (fun u hu => hTI i u (by omega) hu.1) (by omega)
                    have hlc := l_cmp_v bs (-1)
                    rw [w64_id (x := bs) (by omega) (by omega), show w64 (-1) = -1 from rfl] at hlc
                    have hsm2 : SMr Ia Ja a (i + 1) sm := SMr_s hsm (by omega) (GT_e hgt (by omega)) (by rw [if_pos (Or.inr (by omega))])
                    refine ww_iinc hX (pc := 150) (lv' := [some (kR (some 49)), some (kI a), some (kI x_2), some (kL sm), none, some (kI (i + 1)), some (kL bs), none, some (kI t)]) dX11_meanOf_150 rfl (by decide) rfl rfl ?_
                    refine ww_goto hX (pc := 153) (tgt := 28) dX11_meanOf_153 (by decide) ?_
                    refine ww_sub [some (kR (some 49)), some (kI a), some (kI x_2), some (kL sm), none, some (kI (i + 1)), none, none, none] (aLe_s (aLe_s (aLe_s (aLe_s (aLe_n (aLe_s (aLe_n (aLe_n (aLe_n aLe_0))))))))) ?_
                    exact ih_28 _ (by have hm9 := Sh0_e hq_28; omega) sm (i + 1) rfl ⟨⟨by omega, by omega⟩, hsm2⟩
                  · simp only [w32_mod] at h_136
                    have hgr := GT_r hgt (B := (2 * (Ia 51 304 - pcn a.toNat) * (Ia 51 305 - 1) ^ (Ia 51 304 - pcn a.toNat).toNat)) (fun u hu => hTI i u (by omega) hu.1) (by omega)
                    have hlc := l_cmp_v bs (-1)
                    rw [w64_id (x := bs) (by omega) (by omega), show w64 (-1) = -1 from rfl] at hlc
                    refine ww_lload_n hX (pc := 139) dX11_meanOf_139 rfl ?_
                    refine ww_aload_n hX (pc := 140) dX11_meanOf_140 rfl ?_
                    refine ww_iload_n hX (pc := 141) dX11_meanOf_141 rfl ?_
                    refine vJ1 hX (pc := 142) sX11_277 (xs_49 hL) (c_X11_power l0 hL hQ (by omega) (by omega)) (by decide) (Nat.le_refl 0) (Nat.le_refl 0) (Nat.le_of_ble_eq_true rfl) dX11_meanOf_142 (fun x_142 I_142 J_142 h_142 => ?_)
                    obtain ⟨rfl, rfl, h_142⟩ := h_142
                    refine ww_lload hX (pc := 145) dX11_meanOf_145 rfl ?_
                    refine ww_ladd hX (pc := 147) dX11_meanOf_147 ?_
                    refine ww_ladd hX (pc := 148) dX11_meanOf_148 ?_
                    refine ww_nmL (fun v_149 hv_149 => ?_)
                    refine ww_lstore_n hX (pc := 149) (lv' := [some (kR (some 49)), some (kI a), some (kI x_2), some (kL v_149), none, some (kI i), some (kL bs), none, some (kI t)]) dX11_meanOf_149 (by decide) rfl rfl ?_
                    have hsm2 : SMr Ia Ja a (i + 1) v_149 := SMr_s hsm (by omega) (GT_e hgt (by omega)) (by rw [if_neg (by omega), hv_149, h_142, hv2])
                    refine ww_iinc hX (pc := 150) (lv' := [some (kR (some 49)), some (kI a), some (kI x_2), some (kL v_149), none, some (kI (i + 1)), some (kL bs), none, some (kI t)]) dX11_meanOf_150 rfl (by decide) rfl rfl ?_
                    refine ww_goto hX (pc := 153) (tgt := 28) dX11_meanOf_153 (by decide) ?_
                    refine ww_sub [some (kR (some 49)), some (kI a), some (kI x_2), some (kL v_149), none, some (kI (i + 1)), none, none, none] (aLe_s (aLe_s (aLe_s (aLe_s (aLe_n (aLe_s (aLe_n (aLe_n (aLe_n aLe_0))))))))) ?_
                    exact ih_28 _ (by have hm9 := Sh0_e hq_28; omega) v_149 (i + 1) rfl ⟨⟨by omega, by omega⟩, hsm2⟩
                · simp only [w32_mod] at h_70
                  have hct := hcr t.toNat (by omega)
                  have htt : ((t.toNat : Nat) : Int) = t := by omega
                  refine ww_aload_n hX (pc := 73) dX11_meanOf_73 rfl ?_
                  refine ww_iload hX (pc := 74) dX11_meanOf_74 rfl ?_
                  refine vI1 hX (pc := 76) sX11_126 (xs_49 hL) (c_X11_readOf l0 hL hQ (by omega) (by omega)) (by decide) (Nat.le_refl 0) (Nat.le_refl 0) (Nat.le_of_ble_eq_true rfl) dX11_meanOf_76 (fun x_76 I_76 J_76 h_76 => ?_)
                  obtain ⟨rfl, rfl, h_76⟩ := h_76
                  refine ww_iload hX (pc := 79) dX11_meanOf_79 rfl ?_
                  refine ww_icmp_ne hX (pc := 81) (tgt := 124) dX11_meanOf_81 (by decide) (fun h_81 => ?_) (fun h_81 => ?_)
                  · simp only [w32_mod] at h_81
                    have hgt2 : GM (fun u => PB (Ia 51) (Ia 51 306) a (FU (Ia 51 304) + 1) i u ∧ (u : Int) < (t + 1)) (fun t => tI (Ja 62) (Ia 51 305) (Ia 51 304) a.toNat t) (bs) := GT_no hgt (by omega) (fun h9 => by
                      have h8 := h9.2.2.2.2; omega)
                    refine ww_iinc hX (pc := 124) (lv' := [some (kR (some 49)), some (kI a), some (kI x_2), some (kL sm), none, some (kI i), some (kL bs), none, some (kI (t + 1))]) dX11_meanOf_124 rfl (by decide) rfl rfl ?_
                    refine ww_goto hX (pc := 127) (tgt := 64) dX11_meanOf_127 (by decide) ?_
                    exact ih_64 _ (by have hm9 := Sh0_e hq_64; omega) bs (t + 1) rfl ⟨⟨by omega, by omega⟩, hgt2⟩
                  · simp only [w32_mod] at h_81
                    refine ww_aload_n hX (pc := 84) dX11_meanOf_84 rfl ?_
                    refine ww_iload_n hX (pc := 85) dX11_meanOf_85 rfl ?_
                    refine ww_iload hX (pc := 86) dX11_meanOf_86 rfl ?_
                    refine ww_aload_n hX (pc := 88) dX11_meanOf_88 rfl ?_
                    refine ww_getR hX (pc := 89) fX11_20 (by decide) (xs_49 hL) (xr_49_3 hL) dX11_meanOf_89 ?_
                    refine ww_sipush hX (pc := 92) (x := 306) dX11_meanOf_92 (by decide) ?_
                    refine ww_iald hX (pc := 95) (xs_51 hL) (by decide) (by omega) (by omega) dX11_meanOf_95 ?_
                    refine ww_toI (b := Ia 51 306) rfl ?_
                    refine vI3 hX (pc := 96) sX11_271 (xs_49 hL) (c_X11_canCome l0 hL hQ ) (by decide) (Nat.le_refl 0) (Nat.le_refl 0) (Nat.le_of_ble_eq_true rfl) dX11_meanOf_96 (fun x_96 I_96 J_96 h_96 => ?_)
                    obtain ⟨rfl, rfl, h_96⟩ := h_96
                    refine ww_if_eq hX (pc := 99) (tgt := 124) dX11_meanOf_99 (by decide) (fun h_99 => ?_) (fun h_99 => ?_)
                    · simp only [w32_mod] at h_99
                      have hgt2 : GM (fun u => PB (Ia 51) (Ia 51 306) a (FU (Ia 51 304) + 1) i u ∧ (u : Int) < (t + 1)) (fun t => tI (Ja 62) (Ia 51 305) (Ia 51 304) a.toNat t) (bs) := GT_no hgt (by omega) (fun h9 => by
                        have h8 := h9.2.2.2.1
                        rw [htt] at h8
                        have := h_96.2.mpr ((canC_iff (by omega) (by omega) (by omega) (by omega)).mpr ⟨h9.2.2.1, h8⟩)
                        omega)
                      refine ww_iinc hX (pc := 124) (lv' := [some (kR (some 49)), some (kI a), some (kI x_2), some (kL sm), none, some (kI i), some (kL bs), none, some (kI (t + 1))]) dX11_meanOf_124 rfl (by decide) rfl rfl ?_
                      refine ww_goto hX (pc := 127) (tgt := 64) dX11_meanOf_127 (by decide) ?_
                      exact ih_64 _ (by have hm9 := Sh0_e hq_64; omega) bs (t + 1) rfl ⟨⟨by omega, by omega⟩, hgt2⟩
                    · simp only [w32_mod] at h_99
                      have hcc := (canC_iff (by omega) (by omega) (by omega) (by omega)).mp (h_96.2.mp (by omega))
                      have hpb : PB (Ia 51) (Ia 51 306) a (FU (Ia 51 304) + 1) i t.toNat := ⟨by omega, by omega, hcc.1, by rw [htt]; exact hcc.2, by omega⟩
                      have hti9 := hTI i t.toNat (by omega) hpb
                      have hgr9 := GT_r hgt (B := (2 * (Ia 51 304 - pcn a.toNat) * (Ia 51 305 - 1) ^ (Ia 51 304 - pcn a.toNat).toNat)) (fun u hu => hTI i u (by omega) hu.1) (by omega)
                      refine ww_aload_n hX (pc := 102) dX11_meanOf_102 rfl ?_
                      refine ww_iload hX (pc := 103) dX11_meanOf_103 rfl ?_
                      refine ww_iload_n hX (pc := 105) dX11_meanOf_105 rfl ?_
                      refine vJ2 hX (pc := 106) sX11_281 (xs_49 hL) (c8_X11_meanIn l0 hL hQ (by omega) (by omega) (by omega) (by omega)) (by decide) (Nat.le_refl 0) (Nat.le_refl 0) (Nat.le_of_ble_eq_true rfl) dX11_meanOf_106 (fun x_106 I_106 J_106 h_106 => ?_)
                      obtain ⟨rfl, rfl, h_106⟩ := h_106
                      have hmi : x_106 = tI (Ja 62) (Ia 51 305) (Ia 51 304) a.toNat t.toNat := by
                        rw [h_106, hv2]
                        rfl
                      refine ww_lload hX (pc := 109) dX11_meanOf_109 rfl ?_
                      refine ww_lcmp hX (pc := 111) dX11_meanOf_111 ?_
                      refine ww_if_le hX (pc := 112) (tgt := 124) dX11_meanOf_112 (by decide) (fun h_112 => ?_) (fun h_112 => ?_)
                      · simp only [w32_mod] at h_112
                        have hlc := l_cmp_v x_106 bs
                        rw [w64_id (x := x_106) (by omega) (by omega), w64_id (x := bs) (by omega) (by omega)] at hlc
                        have hgt2 : GM (fun u => PB (Ia 51) (Ia 51 306) a (FU (Ia 51 304) + 1) i u ∧ (u : Int) < (t + 1)) (fun t => tI (Ja 62) (Ia 51 305) (Ia 51 304) a.toNat t) (bs) := GT_ad hgt (by omega) hpb (by show 0 ≤ tI (Ja 62) (Ia 51 305) (Ia 51 304) a.toNat t.toNat; omega) (by show bs = max bs (tI (Ja 62) (Ia 51 305) (Ia 51 304) a.toNat t.toNat); omega)
                        refine ww_iinc hX (pc := 124) (lv' := [some (kR (some 49)), some (kI a), some (kI x_2), some (kL sm), none, some (kI i), some (kL bs), none, some (kI (t + 1))]) dX11_meanOf_124 rfl (by decide) rfl rfl ?_
                        refine ww_goto hX (pc := 127) (tgt := 64) dX11_meanOf_127 (by decide) ?_
                        exact ih_64 _ (by have hm9 := Sh0_e hq_64; omega) bs (t + 1) rfl ⟨⟨by omega, by omega⟩, hgt2⟩
                      · simp only [w32_mod] at h_112
                        have hlc := l_cmp_v x_106 bs
                        rw [w64_id (x := x_106) (by omega) (by omega), w64_id (x := bs) (by omega) (by omega)] at hlc
                        have hgw : max bs (tI (Ja 62) (Ia 51 305) (Ia 51 304) a.toNat t.toNat) = tI (Ja 62) (Ia 51 305) (Ia 51 304) a.toNat t.toNat := by omega
                        have hgt2 : GM (fun u => PB (Ia 51) (Ia 51 306) a (FU (Ia 51 304) + 1) i u ∧ (u : Int) < (t + 1)) (fun t => tI (Ja 62) (Ia 51 305) (Ia 51 304) a.toNat t) (tI (Ja 62) (Ia 51 305) (Ia 51 304) a.toNat t.toNat) := GT_ad hgt (by omega) hpb (by show 0 ≤ tI (Ja 62) (Ia 51 305) (Ia 51 304) a.toNat t.toNat; omega) hgw.symm
                        refine ww_aload_n hX (pc := 115) dX11_meanOf_115 rfl ?_
                        refine ww_iload hX (pc := 116) dX11_meanOf_116 rfl ?_
                        refine ww_iload_n hX (pc := 118) dX11_meanOf_118 rfl ?_
                        refine vJ2 hX (pc := 119) sX11_281 (xs_49 hL) (c8_X11_meanIn l0 hL hQ (by omega) (by omega) (by omega) (by omega)) (by decide) (Nat.le_refl 0) (Nat.le_refl 0) (Nat.le_of_ble_eq_true rfl) dX11_meanOf_119 (fun x_119 I_119 J_119 h_119 => ?_)
                        obtain ⟨rfl, rfl, h_119⟩ := h_119
                        have hmi2 : x_119 = tI (Ja 62) (Ia 51 305) (Ia 51 304) a.toNat t.toNat := by
                          rw [h_119, hv2]
                          rfl
                        rw [← hmi2] at hgt2
                        refine ww_lstore hX (pc := 122) (lv' := [some (kR (some 49)), some (kI a), some (kI x_2), some (kL sm), none, some (kI i), some (kL x_119), none, some (kI t)]) dX11_meanOf_122 (by decide) rfl rfl ?_
                        refine ww_iinc hX (pc := 124) (lv' := [some (kR (some 49)), some (kI a), some (kI x_2), some (kL sm), none, some (kI i), some (kL x_119), none, some (kI (t + 1))]) dX11_meanOf_124 rfl (by decide) rfl rfl ?_
                        refine ww_goto hX (pc := 127) (tgt := 64) dX11_meanOf_127 (by decide) ?_
                        exact ih_64 _ (by have hm9 := Sh0_e hq_64; omega) x_119 (t + 1) rfl ⟨⟨by omega, by omega⟩, hgt2⟩
            exact hl_64 _ (-1) v_62 rfl ⟨⟨by omega, by omega⟩, GT_0 (by omega)⟩
          · simp only [w32_mod] at h_48
            have hsm2 : SMr Ia Ja a (i + 1) sm := SMr_o hsm (by omega) (by omega) (GM_ex (m := 256) (fun t ht => by have := ht.2.1; omega) (fun t ht => (hTI i t (by omega) ht).1))
            refine ww_goto hX (pc := 51) (tgt := 150) dX11_meanOf_51 (by decide) ?_
            refine ww_iinc hX (pc := 150) (lv' := [some (kR (some 49)), some (kI a), some (kI x_2), some (kL sm), none, some (kI (i + 1)), none, none, none]) dX11_meanOf_150 rfl (by decide) rfl rfl ?_
            refine ww_goto hX (pc := 153) (tgt := 28) dX11_meanOf_153 (by decide) ?_
            exact ih_28 _ (by have hm9 := Sh0_e hq_28; omega) sm (i + 1) rfl ⟨⟨by omega, by omega⟩, hsm2⟩
    exact hl_28 _ x_21 0 rfl ⟨⟨by omega, by omega⟩, SMr_0 (by
      first
      | rw [if_pos (by omega)]
      | (rw [if_neg (by omega), h_21, hv2]))⟩
  · simp only [w32_mod] at h_12
    refine ww_lconst hX (pc := 15) (x := 0) dX11_meanOf_15 (by decide) ?_
    refine ww_goto hX (pc := 16) (tgt := 24) dX11_meanOf_16 (by decide) ?_
    refine ww_lstore_n hX (pc := 24) (lv' := [some (kR (some 49)), some (kI a), some (kI x_2), some (kL 0), none, none, none, none, none]) dX11_meanOf_24 (by decide) rfl rfl ?_
    refine ww_iconst hX (pc := 25) (x := 0) dX11_meanOf_25 rfl ?_
    refine ww_istore hX (pc := 26) (lv' := [some (kR (some 49)), some (kI a), some (kI x_2), some (kL 0), none, some (kI 0), none, none, none]) dX11_meanOf_26 (by decide) rfl rfl ?_
    have hl_28 : ∀ (n_28 : Nat) (sm : Int) (i : Int), (Ia 51 305 - i).toNat = n_28 → ((0 ≤ i ∧ i ≤ Ia 51 305) ∧ SMr Ia Ja a i sm) → WW X 28 [some (kR (some 49)), some (kI a), some (kI x_2), some (kL sm), none, some (kI i), none, none, none] [] Ia Ja Ra Sa 0 0 := by
      intro n_28
      induction n_28 using Nat.strongRecOn with
      | ind n_28 ih_28 =>
        intro sm i hm_28 hv_28
        have hq_28 := Sh0_i hm_28
        clear hm_28
        obtain ⟨hv, hsm⟩ := hv_28
        refine ww_iload hX (pc := 28) dX11_meanOf_28 rfl ?_
        refine ww_aload_n hX (pc := 30) dX11_meanOf_30 rfl ?_
        refine ww_getR hX (pc := 31) fX11_20 (by decide) (xs_49 hL) (xr_49_3 hL) dX11_meanOf_31 ?_
        refine ww_sipush hX (pc := 34) (x := 305) dX11_meanOf_34 (by decide) ?_
        refine ww_iald hX (pc := 37) (xs_51 hL) (by decide) (by omega) (by omega) dX11_meanOf_37 ?_
        refine ww_toI (b := Ia 51 305) rfl ?_
        refine ww_icmp_ge hX (pc := 38) (tgt := 156) dX11_meanOf_38 (by decide) (fun h_38 => ?_) (fun h_38 => ?_)
        · simp only [w32_mod] at h_38
          refine ww_lload_n hX (pc := 156) dX11_meanOf_156 rfl ?_
          refine rJ hX (pc := 157) hT (Nat.le_refl 0) (Nat.le_refl 0) dX11_meanOf_157 ?_
          exact ⟨rfl, rfl, (by obtain ⟨rr, g1, g2⟩ := hsm; rw [show i = Ia 51 305 by omega] at g1 g2; exact ⟨rr, fun x hx => by rw [show ((a.toNat : Nat) : Int) = a by omega]; exact g1 x hx, g2⟩), (by obtain ⟨rr, g1, g2⟩ := hsm; rw [show i = Ia 51 305 by omega] at g1 g2; exact MR8_of (by omega) (by omega) (by omega) (by omega) (by omega) rfl (fun x hx => GT_r (g1 x (by omega)) (fun t ht => hTI x t (by omega) ht) (by omega)) g2)⟩
        · simp only [w32_mod] at h_38
          skip
          refine ww_iload hX (pc := 41) dX11_meanOf_41 rfl ?_
          refine ww_aload_n hX (pc := 43) dX11_meanOf_43 rfl ?_
          refine ww_iload_n hX (pc := 44) dX11_meanOf_44 rfl ?_
          refine vI1 hX (pc := 45) sX11_126 (xs_49 hL) (c_X11_readOf l0 hL hQ (by omega) (by omega)) (by decide) (Nat.le_refl 0) (Nat.le_refl 0) (Nat.le_of_ble_eq_true rfl) dX11_meanOf_45 (fun x_45 I_45 J_45 h_45 => ?_)
          obtain ⟨rfl, rfl, h_45⟩ := h_45
          refine ww_icmp_ne hX (pc := 48) (tgt := 54) dX11_meanOf_48 (by decide) (fun h_48 => ?_) (fun h_48 => ?_)
          · simp only [w32_mod] at h_48
            refine ww_ldc2 hX (pc := 54) (x := (-1)) dX11_meanOf_54 tb_1398 ?_
            refine ww_lstore hX (pc := 57) (lv' := [some (kR (some 49)), some (kI a), some (kI x_2), some (kL sm), none, some (kI i), some (kL (-1)), none, none]) dX11_meanOf_57 (by decide) rfl rfl ?_
            refine ww_iload_n hX (pc := 59) dX11_meanOf_59 rfl ?_
            refine ww_iconst hX (pc := 60) (x := 1) dX11_meanOf_60 rfl ?_
            refine ww_iadd hX (pc := 61) dX11_meanOf_61 ?_
            refine ww_nmI (fun v_62 hv_62 => ?_)
            refine ww_istore hX (pc := 62) (lv' := [some (kR (some 49)), some (kI a), some (kI x_2), some (kL sm), none, some (kI i), some (kL (-1)), none, some (kI v_62)]) dX11_meanOf_62 (by decide) rfl rfl ?_
            have hl_64 : ∀ (n_64 : Nat) (bs : Int) (t : Int), (256 - t).toNat = n_64 → ((a + 1 ≤ t ∧ t ≤ (FU (Ia 51 304) + 1)) ∧ GM (fun u => PB (Ia 51) (Ia 51 306) a (FU (Ia 51 304) + 1) i u ∧ (u : Int) < t) (fun t => tI (Ja 62) (Ia 51 305) (Ia 51 304) a.toNat t) (bs)) → WW X 64 [some (kR (some 49)), some (kI a), some (kI x_2), some (kL sm), none, some (kI i), some (kL bs), none, some (kI t)] [] Ia Ja Ra Sa 0 0 := by
              intro n_64
              induction n_64 using Nat.strongRecOn with
              | ind n_64 ih_64 =>
                intro bs t hm_64 hv_64
                have hq_64 := Sh0_i hm_64
                clear hm_64
                obtain ⟨hu, hgt⟩ := hv_64
                refine ww_iload hX (pc := 64) dX11_meanOf_64 rfl ?_
                refine ww_aload_n hX (pc := 66) dX11_meanOf_66 rfl ?_
                refine vI0 hX (pc := 67) sX11_112 (xs_49 hL) (c_X11_states l0 hL hQ ) (by decide) (Nat.le_refl 0) (Nat.le_refl 0) (Nat.le_of_ble_eq_true rfl) dX11_meanOf_67 (fun x_67 I_67 J_67 h_67 => ?_)
                obtain ⟨rfl, rfl, h_67⟩ := h_67
                refine ww_icmp_ge hX (pc := 70) (tgt := 130) dX11_meanOf_70 (by decide) (fun h_70 => ?_) (fun h_70 => ?_)
                · simp only [w32_mod] at h_70
                  refine ww_lload hX (pc := 130) dX11_meanOf_130 rfl ?_
                  refine ww_ldc2 hX (pc := 132) (x := (-1)) dX11_meanOf_132 tb_1398 ?_
                  refine ww_lcmp hX (pc := 135) dX11_meanOf_135 ?_
                  refine ww_if_eq hX (pc := 136) (tgt := 150) dX11_meanOf_136 (by decide) (fun h_136 => ?_) (fun h_136 => ?_)
                  · simp only [w32_mod] at h_136
                    have hgr := GT_r hgt (B := (2 * (Ia 51 304 - pcn a.toNat) * (Ia 51 305 - 1) ^ (Ia 51 304 - pcn a.toNat).toNat)) (fun u hu => hTI i u (by omega) hu.1) (by omega)
                    have hlc := l_cmp_v bs (-1)
                    rw [w64_id (x := bs) (by omega) (by omega), show w64 (-1) = -1 from rfl] at hlc
                    have hsm2 : SMr Ia Ja a (i + 1) sm := SMr_s hsm (by omega) (GT_e hgt (by omega)) (by rw [if_pos (Or.inr (by omega))])
                    refine ww_iinc hX (pc := 150) (lv' := [some (kR (some 49)), some (kI a), some (kI x_2), some (kL sm), none, some (kI (i + 1)), some (kL bs), none, some (kI t)]) dX11_meanOf_150 rfl (by decide) rfl rfl ?_
                    refine ww_goto hX (pc := 153) (tgt := 28) dX11_meanOf_153 (by decide) ?_
                    refine ww_sub [some (kR (some 49)), some (kI a), some (kI x_2), some (kL sm), none, some (kI (i + 1)), none, none, none] (aLe_s (aLe_s (aLe_s (aLe_s (aLe_n (aLe_s (aLe_n (aLe_n (aLe_n aLe_0))))))))) ?_
                    exact ih_28 _ (by have hm9 := Sh0_e hq_28; omega) sm (i + 1) rfl ⟨⟨by omega, by omega⟩, hsm2⟩
                  · simp only [w32_mod] at h_136
                    have hgr := GT_r hgt (B := (2 * (Ia 51 304 - pcn a.toNat) * (Ia 51 305 - 1) ^ (Ia 51 304 - pcn a.toNat).toNat)) (fun u hu => hTI i u (by omega) hu.1) (by omega)
                    have hlc := l_cmp_v bs (-1)
                    rw [w64_id (x := bs) (by omega) (by omega), show w64 (-1) = -1 from rfl] at hlc
                    refine ww_lload_n hX (pc := 139) dX11_meanOf_139 rfl ?_
                    refine ww_aload_n hX (pc := 140) dX11_meanOf_140 rfl ?_
                    refine ww_iload_n hX (pc := 141) dX11_meanOf_141 rfl ?_
                    refine vJ1 hX (pc := 142) sX11_277 (xs_49 hL) (c_X11_power l0 hL hQ (by omega) (by omega)) (by decide) (Nat.le_refl 0) (Nat.le_refl 0) (Nat.le_of_ble_eq_true rfl) dX11_meanOf_142 (fun x_142 I_142 J_142 h_142 => ?_)
                    obtain ⟨rfl, rfl, h_142⟩ := h_142
                    refine ww_lload hX (pc := 145) dX11_meanOf_145 rfl ?_
                    refine ww_ladd hX (pc := 147) dX11_meanOf_147 ?_
                    refine ww_ladd hX (pc := 148) dX11_meanOf_148 ?_
                    refine ww_nmL (fun v_149 hv_149 => ?_)
                    refine ww_lstore_n hX (pc := 149) (lv' := [some (kR (some 49)), some (kI a), some (kI x_2), some (kL v_149), none, some (kI i), some (kL bs), none, some (kI t)]) dX11_meanOf_149 (by decide) rfl rfl ?_
                    have hsm2 : SMr Ia Ja a (i + 1) v_149 := SMr_s hsm (by omega) (GT_e hgt (by omega)) (by rw [if_neg (by omega), hv_149, h_142, hv2])
                    refine ww_iinc hX (pc := 150) (lv' := [some (kR (some 49)), some (kI a), some (kI x_2), some (kL v_149), none, some (kI (i + 1)), some (kL bs), none, some (kI t)]) dX11_meanOf_150 rfl (by decide) rfl rfl ?_
                    refine ww_goto hX (pc := 153) (tgt := 28) dX11_meanOf_153 (by decide) ?_
                    refine ww_sub [some (kR (some 49)), some (kI a), some (kI x_2), some (kL v_149), none, some (kI (i + 1)), none, none, none] (aLe_s (aLe_s (aLe_s (aLe_s (aLe_n (aLe_s (aLe_n (aLe_n (aLe_n aLe_0))))))))) ?_
                    exact ih_28 _ (by have hm9 := Sh0_e hq_28; omega) v_149 (i + 1) rfl ⟨⟨by omega, by omega⟩, hsm2⟩
                · simp only [w32_mod] at h_70
                  have hct := hcr t.toNat (by omega)
                  have htt : ((t.toNat : Nat) : Int) = t := by omega
                  refine ww_aload_n hX (pc := 73) dX11_meanOf_73 rfl ?_
                  refine ww_iload hX (pc := 74) dX11_meanOf_74 rfl ?_
                  refine vI1 hX (pc := 76) sX11_126 (xs_49 hL) (c_X11_readOf l0 hL hQ (by omega) (by omega)) (by decide) (Nat.le_refl 0) (Nat.le_refl 0) (Nat.le_of_ble_eq_true rfl) dX11_meanOf_76 (fun x_76 I_76 J_76 h_76 => ?_)
                  obtain ⟨rfl, rfl, h_76⟩ := h_76
                  refine ww_iload hX (pc := 79) dX11_meanOf_79 rfl ?_
                  refine ww_icmp_ne hX (pc := 81) (tgt := 124) dX11_meanOf_81 (by decide) (fun h_81 => ?_) (fun h_81 => ?_)
                  · simp only [w32_mod] at h_81
                    have hgt2 : GM (fun u => PB (Ia 51) (Ia 51 306) a (FU (Ia 51 304) + 1) i u ∧ (u : Int) < (t + 1)) (fun t => tI (Ja 62) (Ia 51 305) (Ia 51 304) a.toNat t) (bs) := GT_no hgt (by omega) (fun h9 => by
                      have h8 := h9.2.2.2.2; omega)
                    refine ww_iinc hX (pc := 124) (lv' := [some (kR (some 49)), some (kI a), some (kI x_2), some (kL sm), none, some (kI i), some (kL bs), none, some (kI (t + 1))]) dX11_meanOf_124 rfl (by decide) rfl rfl ?_
                    refine ww_goto hX (pc := 127) (tgt := 64) dX11_meanOf_127 (by decide) ?_
                    exact ih_64 _ (by have hm9 := Sh0_e hq_64; omega) bs (t + 1) rfl ⟨⟨by omega, by omega⟩, hgt2⟩
                  · simp only [w32_mod] at h_81
                    refine ww_aload_n hX (pc := 84) dX11_meanOf_84 rfl ?_
                    refine ww_iload_n hX (pc := 85) dX11_meanOf_85 rfl ?_
                    refine ww_iload hX (pc := 86) dX11_meanOf_86 rfl ?_
                    refine ww_aload_n hX (pc := 88) dX11_meanOf_88 rfl ?_
                    refine ww_getR hX (pc := 89) fX11_20 (by decide) (xs_49 hL) (xr_49_3 hL) dX11_meanOf_89 ?_
                    refine ww_sipush hX (pc := 92) (x := 306) dX11_meanOf_92 (by decide) ?_
                    refine ww_iald hX (pc := 95) (xs_51 hL) (by decide) (by omega) (by omega) dX11_meanOf_95 ?_
                    refine ww_toI (b := Ia 51 306) rfl ?_
                    refine vI3 hX (pc := 96) sX11_271 (xs_49 hL) (c_X11_canCome l0 hL hQ ) (by decide) (Nat.le_refl 0) (Nat.le_refl 0) (Nat.le_of_ble_eq_true rfl) dX11_meanOf_96 (fun x_96 I_96 J_96 h_96 => ?_)
                    obtain ⟨rfl, rfl, h_96⟩ := h_96
                    refine ww_if_eq hX (pc := 99) (tgt := 124) dX11_meanOf_99 (by decide) (fun h_99 => ?_) (fun h_99 => ?_)
                    · simp only [w32_mod] at h_99
                      have hgt2 : GM (fun u => PB (Ia 51) (Ia 51 306) a (FU (Ia 51 304) + 1) i u ∧ (u : Int) < (t + 1)) (fun t => tI (Ja 62) (Ia 51 305) (Ia 51 304) a.toNat t) (bs) := GT_no hgt (by omega) (fun h9 => by
                        have h8 := h9.2.2.2.1
                        rw [htt] at h8
                        have := h_96.2.mpr ((canC_iff (by omega) (by omega) (by omega) (by omega)).mpr ⟨h9.2.2.1, h8⟩)
                        omega)
                      refine ww_iinc hX (pc := 124) (lv' := [some (kR (some 49)), some (kI a), some (kI x_2), some (kL sm), none, some (kI i), some (kL bs), none, some (kI (t + 1))]) dX11_meanOf_124 rfl (by decide) rfl rfl ?_
                      refine ww_goto hX (pc := 127) (tgt := 64) dX11_meanOf_127 (by decide) ?_
                      exact ih_64 _ (by have hm9 := Sh0_e hq_64; omega) bs (t + 1) rfl ⟨⟨by omega, by omega⟩, hgt2⟩
                    · simp only [w32_mod] at h_99
                      have hcc := (canC_iff (by omega) (by omega) (by omega) (by omega)).mp (h_96.2.mp (by omega))
                      have hpb : PB (Ia 51) (Ia 51 306) a (FU (Ia 51 304) + 1) i t.toNat := ⟨by omega, by omega, hcc.1, by rw [htt]; exact hcc.2, by omega⟩
                      have hti9 := hTI i t.toNat (by omega) hpb
                      have hgr9 := GT_r hgt (B := (2 * (Ia 51 304 - pcn a.toNat) * (Ia 51 305 - 1) ^ (Ia 51 304 - pcn a.toNat).toNat)) (fun u hu => hTI i u (by omega) hu.1) (by omega)
                      refine ww_aload_n hX (pc := 102) dX11_meanOf_102 rfl ?_
                      refine ww_iload hX (pc := 103) dX11_meanOf_103 rfl ?_
                      refine ww_iload_n hX (pc := 105) dX11_meanOf_105 rfl ?_
                      refine vJ2 hX (pc := 106) sX11_281 (xs_49 hL) (c8_X11_meanIn l0 hL hQ (by omega) (by omega) (by omega) (by omega)) (by decide) (Nat.le_refl 0) (Nat.le_refl 0) (Nat.le_of_ble_eq_true rfl) dX11_meanOf_106 (fun x_106 I_106 J_106 h_106 => ?_)
                      obtain ⟨rfl, rfl, h_106⟩ := h_106
                      have hmi : x_106 = tI (Ja 62) (Ia 51 305) (Ia 51 304) a.toNat t.toNat := by
                        rw [h_106, hv2]
                        rfl
                      refine ww_lload hX (pc := 109) dX11_meanOf_109 rfl ?_
                      refine ww_lcmp hX (pc := 111) dX11_meanOf_111 ?_
                      refine ww_if_le hX (pc := 112) (tgt := 124) dX11_meanOf_112 (by decide) (fun h_112 => ?_) (fun h_112 => ?_)
                      · simp only [w32_mod] at h_112
                        have hlc := l_cmp_v x_106 bs
                        rw [w64_id (x := x_106) (by omega) (by omega), w64_id (x := bs) (by omega) (by omega)] at hlc
                        have hgt2 : GM (fun u => PB (Ia 51) (Ia 51 306) a (FU (Ia 51 304) + 1) i u ∧ (u : Int) < (t + 1)) (fun t => tI (Ja 62) (Ia 51 305) (Ia 51 304) a.toNat t) (bs) := GT_ad hgt (by omega) hpb (by show 0 ≤ tI (Ja 62) (Ia 51 305) (Ia 51 304) a.toNat t.toNat; omega) (by show bs = max bs (tI (Ja 62) (Ia 51 305) (Ia 51 304) a.toNat t.toNat); omega)
                        refine ww_iinc hX (pc := 124) (lv' := [some (kR (some 49)), some (kI a), some (kI x_2), some (kL sm), none, some (kI i), some (kL bs), none, some (kI (t + 1))]) dX11_meanOf_124 rfl (by decide) rfl rfl ?_
                        refine ww_goto hX (pc := 127) (tgt := 64) dX11_meanOf_127 (by decide) ?_
                        exact ih_64 _ (by have hm9 := Sh0_e hq_64; omega) bs (t + 1) rfl ⟨⟨by omega, by omega⟩, hgt2⟩
                      · simp only [w32_mod] at h_112
                        have hlc := l_cmp_v x_106 bs
                        rw [w64_id (x := x_106) (by omega) (by omega), w64_id (x := bs) (by omega) (by omega)] at hlc
                        have hgw : max bs (tI (Ja 62) (Ia 51 305) (Ia 51 304) a.toNat t.toNat) = tI (Ja 62) (Ia 51 305) (Ia 51 304) a.toNat t.toNat := by omega
                        have hgt2 : GM (fun u => PB (Ia 51) (Ia 51 306) a (FU (Ia 51 304) + 1) i u ∧ (u : Int) < (t + 1)) (fun t => tI (Ja 62) (Ia 51 305) (Ia 51 304) a.toNat t) (tI (Ja 62) (Ia 51 305) (Ia 51 304) a.toNat t.toNat) := GT_ad hgt (by omega) hpb (by show 0 ≤ tI (Ja 62) (Ia 51 305) (Ia 51 304) a.toNat t.toNat; omega) hgw.symm
                        refine ww_aload_n hX (pc := 115) dX11_meanOf_115 rfl ?_
                        refine ww_iload hX (pc := 116) dX11_meanOf_116 rfl ?_
                        refine ww_iload_n hX (pc := 118) dX11_meanOf_118 rfl ?_
                        refine vJ2 hX (pc := 119) sX11_281 (xs_49 hL) (c8_X11_meanIn l0 hL hQ (by omega) (by omega) (by omega) (by omega)) (by decide) (Nat.le_refl 0) (Nat.le_refl 0) (Nat.le_of_ble_eq_true rfl) dX11_meanOf_119 (fun x_119 I_119 J_119 h_119 => ?_)
                        obtain ⟨rfl, rfl, h_119⟩ := h_119
                        have hmi2 : x_119 = tI (Ja 62) (Ia 51 305) (Ia 51 304) a.toNat t.toNat := by
                          rw [h_119, hv2]
                          rfl
                        rw [← hmi2] at hgt2
                        refine ww_lstore hX (pc := 122) (lv' := [some (kR (some 49)), some (kI a), some (kI x_2), some (kL sm), none, some (kI i), some (kL x_119), none, some (kI t)]) dX11_meanOf_122 (by decide) rfl rfl ?_
                        refine ww_iinc hX (pc := 124) (lv' := [some (kR (some 49)), some (kI a), some (kI x_2), some (kL sm), none, some (kI i), some (kL x_119), none, some (kI (t + 1))]) dX11_meanOf_124 rfl (by decide) rfl rfl ?_
                        refine ww_goto hX (pc := 127) (tgt := 64) dX11_meanOf_127 (by decide) ?_
                        exact ih_64 _ (by have hm9 := Sh0_e hq_64; omega) x_119 (t + 1) rfl ⟨⟨by omega, by omega⟩, hgt2⟩
            exact hl_64 _ (-1) v_62 rfl ⟨⟨by omega, by omega⟩, GT_0 (by omega)⟩
          · simp only [w32_mod] at h_48
            have hsm2 : SMr Ia Ja a (i + 1) sm := SMr_o hsm (by omega) (by omega) (GM_ex (m := 256) (fun t ht => by have := ht.2.1; omega) (fun t ht => (hTI i t (by omega) ht).1))
            refine ww_goto hX (pc := 51) (tgt := 150) dX11_meanOf_51 (by decide) ?_
            refine ww_iinc hX (pc := 150) (lv' := [some (kR (some 49)), some (kI a), some (kI x_2), some (kL sm), none, some (kI (i + 1)), none, none, none]) dX11_meanOf_150 rfl (by decide) rfl rfl ?_
            refine ww_goto hX (pc := 153) (tgt := 28) dX11_meanOf_153 (by decide) ?_
            exact ih_28 _ (by have hm9 := Sh0_e hq_28; omega) sm (i + 1) rfl ⟨⟨by omega, by omega⟩, hsm2⟩
    exact hl_28 _ 0 0 rfl ⟨⟨by omega, by omega⟩, SMr_0 (by
      first
      | rw [if_pos (by omega)]
      | (rw [if_neg (by omega), h_21, hv2]))⟩
