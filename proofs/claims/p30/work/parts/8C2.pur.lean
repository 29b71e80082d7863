/-! the search for CODES, on small numbers -/
noncomputable def frc {α : Type} (n : Nat) (k : Nat → α) : α := Nat.rec (motive := fun _ => α) (k 0) (fun m _ => k (Nat.succ m)) n
theorem frc_e {α : Type} (n : Nat) (k : Nat → α) : frc n k = k n := by cases n <;> rfl
noncomputable def frcL {α : Type} (l : List Nat) (k : List Nat → α) : α := List.rec (motive := fun _ => α) (k []) (fun b bs _ => k (b :: bs)) l
theorem frcL_e {α : Type} (l : List Nat) (k : List Nat → α) : frcL l k = k l := by cases l <;> rfl
noncomputable def gd (l : List Nat) (i : Nat) : Nat := List.rec (motive := fun _ => Nat → Nat) (fun _ => 0) (fun a _ ih i => Nat.rec (motive := fun _ => Nat) a (fun j _ => ih j) i) l i
theorem gd_0 (a : Nat) (l : List Nat) : gd (a :: l) 0 = a := rfl
theorem gd_s (a : Nat) (l : List Nat) (i : Nat) : gd (a :: l) (i + 1) = gd l i := rfl
noncomputable def bstL (e x t : Nat) (cs ls : List Nat) (r : Nat) : Nat := List.rec (motive := fun _ => Nat → List Nat → Nat → Nat) (fun _ _ r => r) (fun c _ ih t ls r => List.rec (motive := fun _ => Nat) r (fun l ls _ => cond (Nat.beq c x) (cond (Nat.ble r l) (cond (Nat.beq (Nat.land e t) e) (ih (Nat.succ t) ls (Nat.succ l)) (ih (Nat.succ t) ls r)) (ih (Nat.succ t) ls r)) (ih (Nat.succ t) ls r)) ls) cs t ls r
theorem beq_if {α : Type} (a b : Nat) (x y : α) : cond (Nat.beq a b) x y = if a = b then x else y := by
  by_cases h : a = b
  · rw [if_pos h, Nat.beq_eq.mpr h]; rfl
  · rw [if_neg h]
    cases hq : Nat.beq a b with
    | true => exact absurd (Nat.eq_of_beq_eq_true hq) h
    | false => rfl
theorem ble_if {α : Type} (a b : Nat) (x y : α) : cond (Nat.ble a b) x y = if a ≤ b then x else y := by
  by_cases h : a ≤ b
  · rw [if_pos h, Nat.ble_eq.mpr h]; rfl
  · rw [if_neg h]
    cases hq : Nat.ble a b with
    | true => exact absurd (Nat.le_of_ble_eq_true hq) h
    | false => rfl
theorem bstL_c (e x t c l r : Nat) (cs ls : List Nat) : bstL e x t (c :: cs) (l :: ls) r = if (e &&& t = e ∧ c = x) ∧ r ≤ l then bstL e x (t + 1) cs ls (l + 1) else bstL e x (t + 1) cs ls r := by
  show cond (Nat.beq c x) (cond (Nat.ble r l) (cond (Nat.beq (e &&& t) e) (bstL e x (t + 1) cs ls (l + 1)) (bstL e x (t + 1) cs ls r)) (bstL e x (t + 1) cs ls r)) (bstL e x (t + 1) cs ls r) = _
  rw [beq_if, ble_if, beq_if]
  by_cases h1 : c = x
  · by_cases h2 : r ≤ l
    · by_cases h3 : e &&& t = e
      · rw [if_pos h1, if_pos h2, if_pos h3, if_pos ⟨⟨h3, h1⟩, h2⟩]
      · rw [if_pos h1, if_pos h2, if_neg h3, if_neg (fun h => h3 h.1.1)]
    · rw [if_pos h1, if_neg h2, if_neg (fun h => h2 h.2)]
  · rw [if_neg h1, if_neg (fun h => h1 h.1.2)]
theorem bstL_mx {e x : Nat} {code L : Nat → Int} : ∀ (cs ls : List Nat) (t r : Nat) (P : Nat → Prop), ls.length = cs.length → (∀ i, i < cs.length → code (t + i) = gd cs i ∧ L (t + i) = gd ls i) → Mx P L r → Mx (fun u => P u ∨ (t ≤ u ∧ u < t + cs.length ∧ e &&& u = e ∧ code u = x)) L (bstL e x t cs ls r) := by
  intro cs
  induction cs with
  | nil =>
    intro ls t r P _ _ h
    exact Mx_cg h (fun u => ⟨Or.inl, fun h1 => h1.elim id (fun h2 => absurd h2.2.1 (by simp; omega))⟩) (fun _ _ => rfl)
  | cons c cs ih =>
    intro ls t r P hl hc h
    cases ls with
    | nil => simp at hl
    | cons l ls =>
      have hl2 : ls.length = cs.length := by simpa using hl
      have h0 := hc 0 (by simp)
      rw [Nat.add_zero, gd_0, gd_0] at h0
      have hc2 : ∀ i, i < cs.length → code (t + 1 + i) = gd cs i ∧ L (t + 1 + i) = gd ls i := fun i hi => by
        have := hc (i + 1) (by simp; omega)
        rw [gd_s, gd_s, show t + (i + 1) = t + 1 + i by omega] at this
        exact this
      have hlen : t + (c :: cs).length = t + 1 + cs.length := by simp; omega
      rw [bstL_c]
      by_cases hm : e &&& t = e ∧ c = x
      · have ha := Mx_ad h (u := t) (Q := fun u => P u ∨ u = t) (fun _ => Iff.rfl) (by omega)
        have hw : ∀ w : Nat, (w : Int) = max (r : Int) (1 + L t) → Mx (fun u => P u ∨ (t ≤ u ∧ u < t + (c :: cs).length ∧ e &&& u = e ∧ code u = x)) L (bstL e x (t + 1) cs ls w) := fun w hw => by
          rw [← hw] at ha
          refine Mx_cg (ih ls (t + 1) w _ hl2 hc2 ha) (fun u => ?_) (fun _ _ => rfl)
          rw [hlen]
          constructor
          · rintro ((h1 | h1) | h1)
            · exact Or.inl h1
            · subst h1
              exact Or.inr ⟨by omega, by omega, hm.1, by rw [h0.1, hm.2]⟩
            · exact Or.inr ⟨by omega, h1.2⟩
          · rintro (h1 | h1)
            · exact Or.inl (Or.inl h1)
            · by_cases h2 : u = t
              · exact Or.inl (Or.inr h2)
              · exact Or.inr ⟨by omega, h1.2⟩
        by_cases hr : r ≤ l
        · rw [if_pos ⟨hm, hr⟩]
          exact hw (l + 1) (by omega)
        · rw [if_neg (fun h1 => hr h1.2)]
          exact hw r (by omega)
      · rw [if_neg (fun h1 => hm h1.1)]
        refine Mx_cg (ih ls (t + 1) r P hl2 hc2 h) (fun u => ?_) (fun _ _ => rfl)
        rw [hlen]
        constructor
        · rintro (h1 | h1)
          · exact Or.inl h1
          · exact Or.inr ⟨by omega, h1.2⟩
        · rintro (h1 | h1)
          · exact Or.inl h1
          · by_cases h2 : u = t
            · subst h2
              have h3 := h1.2.2.2
              rw [h0.1] at h3
              exact absurd ⟨h1.2.2.1, by omega⟩ hm
            · exact Or.inr ⟨by omega, h1.2⟩
noncomputable def bsV (e t : Nat) (cs ls : List Nat) (m x : Nat) (acc : List Nat) : List Nat := Nat.rec (motive := fun _ => Nat → List Nat → List Nat) (fun _ acc => acc) (fun _ ih x acc => frc (bstL e x t cs ls 0) (fun b => ih (Nat.succ x) (b :: acc))) m x acc
def lstF (F : Nat → Nat) : Nat → List Nat
  | 0 => []
  | m + 1 => F m :: lstF F m
theorem lstF_len (F : Nat → Nat) : ∀ m, (lstF F m).length = m
  | 0 => rfl
  | m + 1 => by show (lstF F m).length + 1 = m + 1; rw [lstF_len F m]
theorem bsV_e (e t : Nat) (cs ls : List Nat) : ∀ m x, bsV e t cs ls m x (lstF (fun y => bstL e y t cs ls 0) x) = lstF (fun y => bstL e y t cs ls 0) (x + m) := by
  intro m
  induction m with
  | zero => intro x; rfl
  | succ m ih =>
    intro x
    have h := ih (x + 1)
    rw [show x + 1 + m = x + (m + 1) by omega] at h
    rw [← h]
    show frc (bstL e x t cs ls 0) (fun b => bsV e t cs ls m (Nat.succ x) (b :: lstF (fun y => bstL e y t cs ls 0) x)) = _
    rw [frc_e]
    rfl
noncomputable def mnV (c : Nat) (l : List Nat) : Nat := List.rec (motive := fun _ => Nat) 8 (fun b bs ih => cond (Nat.beq bs.length c) ih (frc ih (fun a => cond (Nat.ble a b) a b))) l
theorem mnV_c (c b : Nat) (bs : List Nat) : mnV c (b :: bs) = if bs.length = c then mnV c bs else min (mnV c bs) b := by
  show cond (Nat.beq bs.length c) (mnV c bs) (frc (mnV c bs) (fun a => cond (Nat.ble a b) a b)) = _
  rw [frc_e]
  by_cases h : bs.length = c
  · rw [if_pos h, Nat.beq_eq.mpr h]
    rfl
  · rw [if_neg h]
    cases hq : Nat.beq bs.length c with
    | true => exact absurd (Nat.eq_of_beq_eq_true hq) h
    | false =>
      show cond (Nat.ble (mnV c bs) b) (mnV c bs) b = _
      cases hr : Nat.ble (mnV c bs) b with
      | true =>
        have := Nat.le_of_ble_eq_true hr
        show mnV c bs = _
        omega
      | false =>
        have : ¬ mnV c bs ≤ b := fun h1 => by rw [Nat.ble_eq.mpr h1] at hr; cases hr
        show b = _
        omega
theorem mnV_LI (F : Nat → Nat) (c : Nat) : ∀ m : Nat, LI c (fun x => (F x : Int) - 1) m (mnV c (lstF F m))
  | 0 => LI_0 _ _
  | m + 1 => by
    have ih := mnV_LI F c m
    show LI c (fun x => (F x : Int) - 1) ((m + 1 : Nat) : Int) (mnV c (F m :: lstF F m))
    rw [mnV_c, lstF_len]
    by_cases h : m = c
    · rw [if_pos h]
      exact LI_no ih (by omega)
    · rw [if_neg h]
      have h1 := LI_ad ih (by omega) (by omega)
      rw [show ((mnV c (lstF F m) : Nat) : Int) = ((mnV c (lstF F m) : Nat) : Int) from rfl] at h1
      have e : min ((mnV c (lstF F m) : Nat) : Int) ((fun x => (F x : Int) - 1) ((m : Nat) : Int).toNat + 1) = ((min (mnV c (lstF F m)) (F m) : Nat) : Int) := by
        show min ((mnV c (lstF F m) : Nat) : Int) ((F ((m : Nat) : Int).toNat : Int) - 1 + 1) = _
        rw [Int.toNat_natCast]
        omega
      rw [e] at h1
      exact h1
theorem iand0 (a : Int) : i_and a 0 = 0 := by
  rw [i_and_comm]
  have := i_and_le (a := 0) (by decide) (by decide) a
  omega
theorem zLS_cg2 {code code' L M : Nat → Int} {g N q e v : Int} (h : zLS code L g N q e v) (h0 : 0 ≤ e) (hN : e < N) (hc : ∀ t : Nat, e ≤ t → (t : Int) < N → code t = code' t) (h1 : ∀ t : Nat, e < t → (t : Int) < N → L t = M t) : zLS code' M g N q e v := by
  have k := zLS_cg h h1
  have ep : ∀ x : Int, ∀ t : Nat, PB code g e N x t ↔ PB code' g e N x t := fun x t => by
    unfold PB
    constructor
    · intro ⟨p1, p2, p3, p4, p5⟩
      exact ⟨p1, p2, p3, p4, by rw [← hc t (by omega) p2]; exact p5⟩
    · intro ⟨p1, p2, p3, p4, p5⟩
      exact ⟨p1, p2, p3, p4, by rw [hc t (by omega) p2]; exact p5⟩
  have es : code e.toNat = code' e.toNat := hc _ (by omega) (by omega)
  refine ⟨fun x hx hn => ?_, ?_⟩
  · obtain ⟨w, w1, w2⟩ := k.1 x hx (by rw [es]; exact hn)
    exact ⟨w, Mx_cg w1 (ep x) (fun _ _ => rfl), w2⟩
  · obtain ⟨x, x1, x2, x3⟩ := k.2
    exact ⟨x, x1, by rw [← es]; exact x2, Mx_cg x3 (ep x) (fun _ _ => rfl)⟩
/-- LASTING of STATES from m on, by lists -/
def WL (N q m : Nat) (cs ls : List Nat) : Prop := cs.length = N - m ∧ ls.length = N - m ∧ zLV (fun s => (gd cs (s - m) : Int)) 0 N q ((m : Int) - 1) (fun s => (gd ls (s - m) : Int))
noncomputable def stL (q e c : Nat) (cs ls : List Nat) : Nat := mnV c (bsV e (Nat.succ e) cs ls q 0 [])
theorem WL_step {N q m c : Nat} {cs ls : List Nat} (h : WL N q (m + 1) cs ls) (hm : m + 1 ≤ N) (hN : N ≤ 256) (hq : 2 ≤ q) (hq2 : q ≤ 8) : WL N q m (c :: cs) (stL q m c cs ls :: ls) := by
  obtain ⟨h1, h2, h3⟩ := h
  refine ⟨by simp; omega, by simp; omega, ?_⟩
  have gs : ∀ (a : Nat) (l : List Nat) (s : Nat), m + 1 ≤ s → gd (a :: l) (s - m) = gd l (s - (m + 1)) := fun a l s hs => by
    rw [show s - m = (s - (m + 1)) + 1 by omega, gd_s]
  have hup : ∀ s : Nat, (m : Int) < s → (s : Int) < N → zLS (fun s => (gd (c :: cs) (s - m) : Int)) (fun s => (gd (stL q m c cs ls :: ls) (s - m) : Int)) 0 N q s (gd (stL q m c cs ls :: ls) (s - m) : Int) ∧ 0 ≤ (gd (stL q m c cs ls :: ls) (s - m) : Int) ∧ (gd (stL q m c cs ls :: ls) (s - m) : Int) ≤ 8 - pcn s := fun s hs hsN => by
    have h4 := h3 s (by omega) hsN
    rw [gs _ _ s (by omega)]
    refine ⟨zLS_cg2 h4.1 (by omega) hsN (fun t ht _ => ?_) (fun t ht _ => ?_), h4.2⟩
    · show ((gd cs (t - (m + 1)) : Nat) : Int) = ((gd (c :: cs) (t - m) : Nat) : Int)
      rw [gs _ _ t (by omega)]
    · show ((gd ls (t - (m + 1)) : Nat) : Int) = ((gd (stL q m c cs ls :: ls) (t - m) : Nat) : Int)
      rw [gs _ _ t (by omega)]
  intro s hs hsN
  by_cases e : s = m
  · subst e
    show zLS (fun s_1 => ((gd (c :: cs) (s_1 - s) : Nat) : Int)) (fun s_1 => ((gd (stL q s c cs ls :: ls) (s_1 - s) : Nat) : Int)) 0 N q s ((gd (stL q s c cs ls :: ls) (s - s) : Nat) : Int) ∧ 0 ≤ ((gd (stL q s c cs ls :: ls) (s - s) : Nat) : Int) ∧ ((gd (stL q s c cs ls :: ls) (s - s) : Nat) : Int) ≤ 8 - pcn s
    rw [Nat.sub_self, gd_0]
    have hmb : MB (fun u => (gd (c :: cs) (u - s) : Int)) (fun u => (gd (stL q s c cs ls :: ls) (u - s) : Int)) 0 s N N (fun x => (bstL s x (s + 1) cs ls 0 : Int) - 1) := fun x hx => by
      have h5 := bstL_mx (e := s) (x := x) (code := fun u => (gd (c :: cs) (u - s) : Int)) (L := fun u => (gd (stL q s c cs ls :: ls) (u - s) : Int)) cs ls (s + 1) 0 (fun _ => False) (by omega) (fun i hi => by
        show ((gd (c :: cs) (s + 1 + i - s) : Nat) : Int) = gd cs i ∧ ((gd (stL q s c cs ls :: ls) (s + 1 + i - s) : Nat) : Int) = gd ls i
        rw [gs _ _ _ (by omega), gs _ _ _ (by omega), show s + 1 + i - (s + 1) = i by omega]
        exact ⟨rfl, rfl⟩) (Mx_no (fun _ h => h))
      have h6 : Mx (PB (fun u => (gd (c :: cs) (u - s) : Int)) 0 s N x) (fun u => (gd (stL q s c cs ls :: ls) (u - s) : Int)) (bstL s x (s + 1) cs ls 0) := by
        refine Mx_cg h5 (fun u => ?_) (fun _ _ => rfl)
        unfold PB
        rw [Int.toNat_natCast, iand0]
        constructor
        · rintro (h7 | h7)
          · exact h7.elim
          · exact ⟨by omega, by omega, h7.2.2.1, rfl, h7.2.2.2⟩
        · intro h7
          exact Or.inr ⟨by omega, by omega, h7.2.2.1, h7.2.2.2.2⟩
      have h8 : (bstL s x (s + 1) cs ls 0 : Int) ≤ 9 := by
        rcases h6.2 with h7 | ⟨u, h7, h9⟩
        · omega
        · have h10 := (hup u h7.1 h7.2.1).2.2
          have h11 := pcn_r u
          rw [h9]
          show 1 + ((gd (stL q s c cs ls :: ls) (u - s) : Nat) : Int) ≤ 9
          omega
      show (-1 ≤ (bstL s x (s + 1) cs ls 0 : Int) - 1 ∧ (bstL s x (s + 1) cs ls 0 : Int) - 1 ≤ 8) ∧ Mx _ _ ((bstL s x (s + 1) cs ls 0 : Int) - 1 + 1)
      refine ⟨by omega, ?_⟩
      rw [show (bstL s x (s + 1) cs ls 0 : Int) - 1 + 1 = (bstL s x (s + 1) cs ls 0 : Int) by omega]
      exact Mx_cg h6 (fun u => ⟨fun h => ⟨h, h.2.1⟩, fun h => h.1⟩) (fun _ _ => rfl)
    have hst : stL q s c cs ls = mnV c (lstF (fun y => bstL s y (s + 1) cs ls 0) q) := by
      have h5 := bsV_e s (s + 1) cs ls q 0
      rw [Nat.zero_add] at h5
      unfold stL
      rw [← h5]
      rfl
    have hli := mnV_LI (fun y => bstL s y (s + 1) cs ls 0) c q
    rw [← hst] at hli
    have hz := zLS_of hmb (Int.le_refl _) (by
      show LI ((gd (c :: cs) (((s : Nat) : Int).toNat - s) : Nat) : Int) _ _ _
      rw [Int.toNat_natCast, Nat.sub_self, gd_0]
      exact hli) (fun t h1 h2 => (hup t h1 h2).2) (by omega) (by omega) (by omega) (by omega) (by omega)
    rw [Int.toNat_natCast] at hz
    exact hz
  · exact hup s (by omega) hsN
noncomputable def lasA (k : Nat) (rs cs ls : List Nat) : List Nat := List.rec (motive := fun _ => List Nat → List Nat → List Nat) (fun _ ls => ls) (fun c rs ih cs ls => frc rs.length (fun e => frcL (bsV e (Nat.succ e) cs ls k 0 []) (fun bs => frc (mnV c bs) (fun l => ih (c :: cs) (l :: ls))))) rs cs ls
theorem lasA_c (k c : Nat) (rs cs ls : List Nat) : lasA k (c :: rs) cs ls = lasA k rs (c :: cs) (stL k rs.length c cs ls :: ls) := by
  show frc rs.length (fun e => frcL (bsV e (Nat.succ e) cs ls k 0 []) (fun bs => frc (mnV c bs) (fun l => lasA k rs (c :: cs) (l :: ls)))) = _
  rw [frc_e, frcL_e, frc_e]
  rfl
theorem lasA_W {N q : Nat} (hN : N ≤ 256) (hq : 2 ≤ q) (hq2 : q ≤ 8) : ∀ (rs cs ls : List Nat), rs.length ≤ N → WL N q rs.length cs ls → WL N q 0 (rs.reverse ++ cs) (lasA q rs cs ls) := by
  intro rs
  induction rs with
  | nil => intro cs ls _ h; exact h
  | cons c rs ih =>
    intro cs ls hl h
    rw [lasA_c, List.reverse_cons, List.append_assoc]
    exact ih (c :: cs) _ (by simp at hl; omega) (WL_step h (by simpa using hl) hN hq hq2)
noncomputable def DL (q : Nat) (r : List Nat) : Nat := gd (lasA q r.reverse [] []) 0
theorem DL_v {N q : Nat} {r : List Nat} {code L : Nat → Int} (hr : r.length = N) (h1 : 1 ≤ N) (hN : N ≤ 256) (hq : 2 ≤ q) (hq2 : q ≤ 8) (h : zLV code 0 N q (-1) L) (hc : ∀ s : Nat, s < N → code s = gd r s) : L 0 = DL q r := by
  have hw := lasA_W (N := N) hN hq hq2 r.reverse [] [] (by simp; omega) (by
    refine ⟨by simp; omega, by simp; omega, fun s h2 h3 => ?_⟩
    simp at h2
    omega)
  rw [List.reverse_reverse, List.append_nil] at hw
  obtain ⟨-, -, hw⟩ := hw
  have hw : zLV (fun s => (gd r s : Int)) 0 N q (-1) (fun s => (gd (lasA q r.reverse [] []) s : Int)) := hw
  have hz := zLV_un h hw (fun s hs => hc s (by omega)) N 0 (by omega) (by omega)
  exact hz
