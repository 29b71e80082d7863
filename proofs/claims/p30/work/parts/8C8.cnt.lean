/-! how many CODES there are, counted STATE by STATE from the last -/
noncomputable def sumX (j : Nat) (f : Nat → Nat) : Nat := Nat.rec (motive := fun _ => Nat) 0 (fun j ih => frc ih (fun a => frc (f j) (fun b => a + b))) j
theorem sumX_s (j : Nat) (f : Nat → Nat) : sumX (j + 1) f = sumX j f + f j := by
  show frc (sumX j f) (fun a => frc (f j) (fun b => a + b)) = _
  rw [frc_e, frc_e]
theorem sumX_cg {f g : Nat → Nat} : ∀ j, (∀ i, i < j → f i = g i) → sumX j f = sumX j g
  | 0, _ => rfl
  | j + 1, h => by rw [sumX_s, sumX_s, sumX_cg j (fun i hi => h i (by omega)), h j (by omega)]
theorem sumX_ad (f g : Nat → Nat) : ∀ j, sumX j (fun i => f i + g i) = sumX j f + sumX j g
  | 0 => rfl
  | j + 1 => by rw [sumX_s, sumX_s, sumX_s, sumX_ad f g j]; omega
theorem sumX_ap (f : Nat → Nat) (a : Nat) : ∀ j, sumX (a + j) f = sumX a f + sumX j (fun i => f (a + i))
  | 0 => rfl
  | j + 1 => by rw [← Nat.add_assoc, sumX_s, sumX_s, sumX_ap f a j]; omega
theorem sumX_2 {k : Nat} (hk : 0 < k) (g : Nat → Nat → Nat) : ∀ m, sumX (m * k) (fun c => g (c % k) (c / k)) = sumX k (fun x => sumX m (fun c => g x c))
  | 0 => by
    rw [Nat.zero_mul]
    show 0 = _
    have h : ∀ j, sumX j (fun x => sumX 0 (fun c => g x c)) = 0 := by
      intro j
      induction j with
      | zero => rfl
      | succ j ih => rw [sumX_s, ih]; rfl
    rw [h]
  | m + 1 => by
    rw [Nat.succ_mul, sumX_ap, sumX_2 hk g m]
    have h1 : sumX k (fun i => g ((m * k + i) % k) ((m * k + i) / k)) = sumX k (fun x => g x m) := sumX_cg k (fun i hi => by
      rw [Nat.mul_comm m k, Nat.mul_add_mod, Nat.mod_eq_of_lt hi, Nat.mul_add_div hk, Nat.div_eq_of_lt hi, Nat.add_zero])
    rw [h1, ← sumX_ad]
    exact sumX_cg k (fun i _ => (sumX_s m (fun c => g i c)).symm)
def pwR (d : Nat) : Nat := pwC d + cond (Nat.ble 4 d) 79228162514264337593543950336 0
theorem pwR_e (d : Nat) : pwR d = (1 + (if 1 ≤ d then 16777216 else 0) + (if 2 ≤ d then 281474976710656 else 0) + (if 3 ≤ d then 4722366482869645213696 else 0)) + (if 4 ≤ d then 79228162514264337593543950336 else 0) := by
  unfold pwR
  rw [pwC_e, ble_if]
noncomputable def cntL (k m : Nat) (cs ls : List Nat) : Nat := Nat.rec (motive := fun _ => List Nat → List Nat → Nat) (fun _ ls => pwR (gd ls 0)) (fun m ih cs ls => frcL (bsV m (Nat.succ m) cs ls k 0 []) (fun bs => sumX k (fun x => frc (mnV x bs) (fun l => ih (x :: cs) (l :: ls))))) m cs ls
theorem cntL_s (k m : Nat) (cs ls : List Nat) : cntL k (m + 1) cs ls = sumX k (fun x => cntL k m (x :: cs) (stL k m x cs ls :: ls)) := by
  show frcL (bsV m (Nat.succ m) cs ls k 0 []) (fun bs => sumX k (fun x => frc (mnV x bs) (fun l => cntL k m (x :: cs) (l :: ls)))) = _
  rw [frcL_e]
  exact sumX_cg k (fun x _ => by rw [frc_e]; rfl)
def dr (k : Nat) : Nat → Nat → List Nat
  | 0, _ => []
  | m + 1, c => (c % k) :: dr k m (c / k)
theorem dr_len (k : Nat) : ∀ m c, (dr k m c).length = m
  | 0, _ => rfl
  | m + 1, c => by show (dr k m (c / k)).length + 1 = m + 1; rw [dr_len k m]
theorem cntL_e {k : Nat} (hk : 0 < k) : ∀ m cs ls, cntL k m cs ls = sumX (k ^ m) (fun c => pwR (gd (lasA k (dr k m c) cs ls) 0))
  | 0, cs, ls => by
    rw [Nat.pow_zero, sumX_s]
    show pwR (gd ls 0) = 0 + pwR (gd ls 0)
    omega
  | m + 1, cs, ls => by
    rw [cntL_s, Nat.pow_succ]
    have h := sumX_2 hk (fun x c => pwR (gd (lasA k (x :: dr k m c) cs ls) 0)) (k ^ m)
    have h2 : sumX (k ^ m * k) (fun c => pwR (gd (lasA k (dr k (m + 1) c) cs ls) 0)) = sumX (k ^ m * k) (fun c => (fun x c => pwR (gd (lasA k (x :: dr k m c) cs ls) 0)) (c % k) (c / k)) := rfl
    rw [h2, h]
    refine sumX_cg k (fun x _ => ?_)
    rw [cntL_e hk m]
    refine sumX_cg _ (fun c _ => ?_)
    show _ = pwR (gd (lasA k (x :: dr k m c) cs ls) 0)
    rw [lasA_c, dr_len]
theorem mkL_ap (f : Nat → Nat) : ∀ m acc, mkL f m acc = mkL f m [] ++ acc
  | 0, acc => rfl
  | m + 1, acc => by
    rw [mkL_s, mkL_s, mkL_ap f m (f m :: acc), mkL_ap f m [f m], List.append_assoc]
    rfl
theorem dgs_rv {k N c : Nat} : ∀ m, m ≤ N → (mkL (dg k N c) m []).reverse = dr k m (dv k c (N - m))
  | 0, _ => rfl
  | m + 1, h => by
    rw [mkL_s, mkL_ap, List.reverse_append]
    show dg k N c m :: (mkL (dg k N c) m []).reverse = (dv k c (N - (m + 1)) % k) :: dr k m (dv k c (N - (m + 1)) / k)
    rw [dgs_rv m (by omega)]
    have e : dv k c (N - (m + 1)) / k = dv k c (N - m) := by
      rw [show N - m = (N - (m + 1)) + 1 by omega]
      rfl
    rw [e]
    unfold dg
    rw [show N - 1 - m = N - (m + 1) by omega]
theorem DL_dr (k N c : Nat) : DL k (dgs k N c) = gd (lasA k (dr k N c) [] []) 0 := by
  unfold DL dgs
  rw [dgs_rv N (Nat.le_refl _), Nat.sub_self]
  rfl
theorem cN_5 {k N : Nat} : ∀ c, sumX c (fun c => pwR (DL k (dgs k N c))) = cN k N 0 c + 16777216 * cN k N 1 c + 281474976710656 * cN k N 2 c + 4722366482869645213696 * cN k N 3 c + 79228162514264337593543950336 * cN k N 4 c
  | 0 => rfl
  | c + 1 => by
    rw [sumX_s, cN_5 c, pwR_e]
    show _ = (cN k N 0 c + _) + 16777216 * (cN k N 1 c + _) + 281474976710656 * (cN k N 2 c + _) + 4722366482869645213696 * (cN k N 3 c + _) + 79228162514264337593543950336 * (cN k N 4 c + _)
    generalize DL k (dgs k N c) = d
    rw [if_pos (show 0 ≤ d by omega)]
    by_cases h1 : 1 ≤ d
    · by_cases h2 : 2 ≤ d
      · by_cases h3 : 3 ≤ d
        · by_cases h4 : 4 ≤ d
          · simp only [if_pos h1, if_pos h2, if_pos h3, if_pos h4]; omega
          · simp only [if_pos h1, if_pos h2, if_pos h3, if_neg h4]; omega
        · simp only [if_pos h1, if_pos h2, if_neg h3, if_neg (show ¬ 4 ≤ d by omega)]; omega
      · simp only [if_pos h1, if_neg h2, if_neg (show ¬ 3 ≤ d by omega), if_neg (show ¬ 4 ≤ d by omega)]; omega
    · simp only [if_neg h1, if_neg (show ¬ 2 ≤ d by omega), if_neg (show ¬ 3 ≤ d by omega), if_neg (show ¬ 4 ≤ d by omega)]; omega
theorem cN_le {k N t : Nat} : ∀ c, cN k N t c ≤ c
  | 0 => Nat.le_refl _
  | c + 1 => by
    have := cN_le (k := k) (N := N) (t := t) c
    show cN k N t c + _ ≤ c + 1
    split <;> omega
theorem cN_mo {k N t u : Nat} (h : t ≤ u) : ∀ c, cN k N u c ≤ cN k N t c
  | 0 => Nat.le_refl _
  | c + 1 => by
    have := cN_mo (k := k) (N := N) h c
    show cN k N u c + _ ≤ cN k N t c + _
    by_cases h1 : u ≤ DL k (dgs k N c)
    · rw [if_pos h1, if_pos (by omega)]; omega
    · rw [if_neg h1]; omega
/-- if the sum is the class's own: the counts are the class's -/
theorem cN_T {k N : Nat} (hk : 0 < k) (hN : k ^ N ≤ 65536) (h : cntL k N [] [] = TOTc k N) (hT : TOTc k N < 79228162514264337593543950336) : (∀ t, t ≤ 3 → cN k N t (k ^ N) = TOTc k N / 16777216 ^ t % 16777216) ∧ ∀ t, 4 ≤ t → cN k N t (k ^ N) = 0 := by
  have h1 := cN_5 (k := k) (N := N) (k ^ N)
  have h2 : sumX (k ^ N) (fun c => pwR (DL k (dgs k N c))) = TOTc k N := by
    rw [← h, cntL_e hk]
    exact sumX_cg _ (fun c _ => by rw [DL_dr])
  rw [h2] at h1
  have b0 := cN_le (k := k) (N := N) (t := 0) (k ^ N)
  have b1 := cN_le (k := k) (N := N) (t := 1) (k ^ N)
  have b2 := cN_le (k := k) (N := N) (t := 2) (k ^ N)
  have b3 := cN_le (k := k) (N := N) (t := 3) (k ^ N)
  have h4 : cN k N 4 (k ^ N) = 0 := by omega
  refine ⟨fun t ht => ?_, fun t ht => ?_⟩
  · rcases (show t = 0 ∨ t = 1 ∨ t = 2 ∨ t = 3 by omega) with rfl | rfl | rfl | rfl
    · rw [Nat.pow_zero, Nat.div_one]; omega
    · rw [show 16777216 ^ 1 = 16777216 from rfl]; omega
    · rw [show 16777216 ^ 2 = 281474976710656 from rfl]; omega
    · rw [show 16777216 ^ 3 = 4722366482869645213696 from rfl]; omega
  · have := cN_mo (k := k) (N := N) ht (k ^ N)
    omega
