/-! one instruction, by its own bytes -/
noncomputable def sfx (l : List UInt8) (i : Nat) : List UInt8 := List.rec (motive := fun _ => Nat → List UInt8) (fun _ => []) (fun a t ih i => Nat.rec (motive := fun _ => List UInt8) (a :: t) (fun j _ => ih j) i) l i
theorem sfx_v : ∀ (l : List UInt8) (i : Nat), sfx l i = l.drop i
  | [], i => by cases i <;> rfl
  | a :: t, 0 => rfl
  | a :: t, i + 1 => sfx_v t i
theorem sfx_k : ∀ (l : List UInt8) (a b : Nat), sfx l (a + b) = sfx (sfx l a) b
  | [], _, _ => rfl
  | x :: t, 0, b => by rw [Nat.zero_add]; rfl
  | x :: t, a + 1, b => by
    rw [show a + 1 + b = a + b + 1 by omega]
    exact sfx_k t a b
theorem sfx_p (a b p : Nat) (l : List UInt8) (h : a + b = p) : sfx l p = sfx (sfx l a) b := by
  rw [← h]
  exact sfx_k l a b
noncomputable def w1 (l : List UInt8) : Nat := List.rec (motive := fun _ => Nat) 0 (fun a _ _ => Nat.succ a.toNat) l
noncomputable def w2 (l : List UInt8) : Nat := List.rec (motive := fun _ => Nat) 0 (fun a t _ => Nat.succ a.toNat + 512 * w1 t) l
noncomputable def w3 (l : List UInt8) : Nat := List.rec (motive := fun _ => Nat) 0 (fun a t _ => Nat.succ a.toNat + 512 * w2 t) l
theorem w1_v {l : List UInt8} {v : Nat} (h : w1 l = v + 1) : ∃ x t, l = x :: t ∧ x.toNat = v := by
  cases l with
  | nil => exact absurd h (by show ¬ 0 = v + 1; omega)
  | cons x t => exact ⟨x, t, rfl, by have h : x.toNat + 1 = v + 1 := h; omega⟩
theorem w2_v {l : List UInt8} {v a : Nat} (hv : v < 256) (h : w2 l = v + 1 + 512 * (a + 1)) : ∃ x y t, l = x :: y :: t ∧ x.toNat = v ∧ y.toNat = a := by
  cases l with
  | nil => exact absurd h (by show ¬ 0 = _; omega)
  | cons x t =>
    have hx := x.toNat_lt
    have h : x.toNat + 1 + 512 * w1 t = v + 1 + 512 * (a + 1) := h
    obtain ⟨y, u, e, hy⟩ := w1_v (l := t) (v := a) (by omega)
    exact ⟨x, y, u, by rw [e], by omega, hy⟩
theorem w3_v {l : List UInt8} {v a b : Nat} (hv : v < 256) (ha : a < 256) (h : w3 l = v + 1 + 512 * (a + 1 + 512 * (b + 1))) : ∃ x y z t, l = x :: y :: z :: t ∧ x.toNat = v ∧ y.toNat = a ∧ z.toNat = b := by
  cases l with
  | nil => exact absurd h (by show ¬ 0 = _; omega)
  | cons x t =>
    have hx := x.toNat_lt
    have h : x.toNat + 1 + 512 * w2 t = v + 1 + 512 * (a + 1 + 512 * (b + 1)) := h
    obtain ⟨y, z, u, e, hy, hz⟩ := w2_v (l := t) (v := a) (a := b) ha (by omega)
    exact ⟨x, y, z, u, by rw [e], by omega, hy, hz⟩
theorem dtl {l : List UInt8} {p : Nat} {x : UInt8} {t : List UInt8} (h : l.drop p = x :: t) : l.drop (p + 1) = t := by
  have h2 := congrArg List.tail h
  rw [List.tail_drop] at h2
  exact h2
theorem U_ok {c : ByteArray} {p : Nat} {x : UInt8} {t : List UInt8} (h : c.data.toList.drop p = x :: t) : (Jvm.ClassFile.Reader.u1 : Jvm.ClassFile.Decoder Nat) c p = .ok (x.toNat, p + 1) := by
  have hl : p < c.data.toList.length := by
    refine Decidable.byContradiction (fun hn => ?_)
    rw [List.drop_eq_nil_of_le (by omega)] at h
    cases h
  have hs : p < c.size := hl
  have hx : c.data.toList[p] = x := by
    rw [List.drop_eq_getElem_cons hl] at h
    exact (List.cons.inj h).1
  unfold Jvm.ClassFile.Reader.u1
  show (dite (p < c.size) _ _ : Jvm.ClassFile.Decoder Nat) c p = _
  rw [dif_pos hs]
  show Except.ok ((c[p]'hs).toNat, p + 1) = _
  have hc : c[p]'hs = x := hx
  rw [hc]
theorem bnd {α β : Type} {m : Jvm.ClassFile.Decoder α} {f : α → Jvm.ClassFile.Decoder β} {c : ByteArray} {p q : Nat} {a : α} (h : m c p = .ok (a, q)) : (m >>= f) c p = f a c q := by
  show Except.bind (m c p) _ = _
  rw [h]
  rfl
theorem mpd {α β : Type} {m : Jvm.ClassFile.Decoder α} {f : α → β} {c : ByteArray} {p q : Nat} {a : α} (h : m c p = .ok (a, q)) : (f <$> m) c p = .ok (f a, q) := by
  show Except.bind (m c p) _ = _
  rw [h]
  rfl
theorem U2_ok {c : ByteArray} {p : Nat} {x y : UInt8} {t : List UInt8} (h : c.data.toList.drop p = x :: y :: t) : (Jvm.ClassFile.Reader.u2 : Jvm.ClassFile.Decoder Nat) c p = .ok (x.toNat * 256 + y.toNat, p + 2) := by
  unfold Jvm.ClassFile.Reader.u2
  rw [bnd (U_ok h), bnd (U_ok (dtl h))]
  rfl
theorem dk {c : ByteArray} {pc v n : Nat} {i : Jvm.ClassFile.Instr} {f : Nat → Jvm.ClassFile.Decoder Jvm.ClassFile.Instr} (hf : Jvm.ClassFile.Decoder.instr pc = (Jvm.ClassFile.Reader.u1 >>= f)) (h0 : (Jvm.ClassFile.Reader.u1 : Jvm.ClassFile.Decoder Nat) c pc = .ok (v, pc + 1)) (hr : f v c (pc + 1) = .ok (i, pc + n)) : decode c pc = .ok (i, n) := by
  unfold Jvm.ClassFile.decode Jvm.ClassFile.Reader.runAt
  rw [hf]
  have h : (Jvm.ClassFile.Reader.u1 >>= f) c pc = .ok (i, pc + n) := by rw [bnd h0]; exact hr
  show Except.bind ((Jvm.ClassFile.Reader.u1 >>= f) c pc) _ = _
  rw [h]
  show Except.ok (i, pc + n - pc) = _
  rw [Nat.add_sub_cancel_left]
theorem o42 {c : ByteArray} {pc : Nat} (h : w1 (sfx c.data.toList pc) = 43) : decode c pc = .ok (.aload_n 0, 1) := by
  rw [sfx_v] at h
  obtain ⟨x, t, e, hx⟩ := w1_v (v := 42) h
  exact dk (v := 42) rfl (by rw [U_ok e, hx]) rfl
theorem o183 {c : ByteArray} {pc : Nat} {n : Nat} (hn : n < 65536) (h : w3 (sfx c.data.toList pc) = 184 + 512 * (n / 256 + 1 + 512 * (n % 256 + 1))) : decode c pc = .ok (.invokespecial n, 3) := by
  rw [sfx_v] at h
  obtain ⟨x, y, w, t, e, hx, hy, hw⟩ := w3_v (v := 183) (a := n / 256) (b := n % 256) (by decide) (by omega) h
  have h2 : (Jvm.ClassFile.Reader.u2 : Jvm.ClassFile.Decoder Nat) c (pc + 1) = .ok (n, pc + 3) := by
    rw [U2_ok (dtl e), hy, hw]
    exact congrArg (fun q => Except.ok (q, pc + 3)) (by omega)
  exact dk (v := 183) rfl (by rw [U_ok e, hx]) ((bnd h2).trans rfl)
theorem o16 {c : ByteArray} {pc : Nat} {z : Int} (n : Nat) (h : w2 (sfx c.data.toList pc) = 17 + 512 * (n + 1) ∧ Jvm.ClassFile.Reader.signed 8 n = z) : decode c pc = .ok (.bipush z, 2) := by
  obtain ⟨h, hz⟩ := h
  rw [sfx_v] at h
  obtain ⟨x, y, t, e, hx, hy⟩ := w2_v (v := 16) (a := n) (by decide) h
  have h2 : (Jvm.ClassFile.Reader.u1 : Jvm.ClassFile.Decoder Nat) c (pc + 1) = .ok (n, pc + 2) := by rw [U_ok (dtl e), hy]
  have h3 : (Jvm.ClassFile.Reader.s1 : Jvm.ClassFile.Decoder Int) c (pc + 1) = .ok (z, pc + 2) := by rw [← hz]; exact mpd h2
  exact dk (v := 16) rfl (by rw [U_ok e, hx]) ((bnd h3).trans rfl)
theorem o181 {c : ByteArray} {pc : Nat} {n : Nat} (hn : n < 65536) (h : w3 (sfx c.data.toList pc) = 182 + 512 * (n / 256 + 1 + 512 * (n % 256 + 1))) : decode c pc = .ok (.putfield n, 3) := by
  rw [sfx_v] at h
  obtain ⟨x, y, w, t, e, hx, hy, hw⟩ := w3_v (v := 181) (a := n / 256) (b := n % 256) (by decide) (by omega) h
  have h2 : (Jvm.ClassFile.Reader.u2 : Jvm.ClassFile.Decoder Nat) c (pc + 1) = .ok (n, pc + 3) := by
    rw [U2_ok (dtl e), hy, hw]
    exact congrArg (fun q => Except.ok (q, pc + 3)) (by omega)
  exact dk (v := 181) rfl (by rw [U_ok e, hx]) ((bnd h2).trans rfl)
theorem o177 {c : ByteArray} {pc : Nat} (h : w1 (sfx c.data.toList pc) = 178) : decode c pc = .ok (.return_, 1) := by
  rw [sfx_v] at h
  obtain ⟨x, t, e, hx⟩ := w1_v (v := 177) h
  exact dk (v := 177) rfl (by rw [U_ok e, hx]) rfl
theorem o44 {c : ByteArray} {pc : Nat} (h : w1 (sfx c.data.toList pc) = 45) : decode c pc = .ok (.aload_n 2, 1) := by
  rw [sfx_v] at h
  obtain ⟨x, t, e, hx⟩ := w1_v (v := 44) h
  exact dk (v := 44) rfl (by rw [U_ok e, hx]) rfl
theorem o29 {c : ByteArray} {pc : Nat} (h : w1 (sfx c.data.toList pc) = 30) : decode c pc = .ok (.iload_n 3, 1) := by
  rw [sfx_v] at h
  obtain ⟨x, t, e, hx⟩ := w1_v (v := 29) h
  exact dk (v := 29) rfl (by rw [U_ok e, hx]) rfl
theorem o182 {c : ByteArray} {pc : Nat} {n : Nat} (hn : n < 65536) (h : w3 (sfx c.data.toList pc) = 183 + 512 * (n / 256 + 1 + 512 * (n % 256 + 1))) : decode c pc = .ok (.invokevirtual n, 3) := by
  rw [sfx_v] at h
  obtain ⟨x, y, w, t, e, hx, hy, hw⟩ := w3_v (v := 182) (a := n / 256) (b := n % 256) (by decide) (by omega) h
  have h2 : (Jvm.ClassFile.Reader.u2 : Jvm.ClassFile.Decoder Nat) c (pc + 1) = .ok (n, pc + 3) := by
    rw [U2_ok (dtl e), hy, hw]
    exact congrArg (fun q => Except.ok (q, pc + 3)) (by omega)
  exact dk (v := 182) rfl (by rw [U_ok e, hx]) ((bnd h2).trans rfl)
theorem o43 {c : ByteArray} {pc : Nat} (h : w1 (sfx c.data.toList pc) = 44) : decode c pc = .ok (.aload_n 1, 1) := by
  rw [sfx_v] at h
  obtain ⟨x, t, e, hx⟩ := w1_v (v := 43) h
  exact dk (v := 43) rfl (by rw [U_ok e, hx]) rfl
theorem o180 {c : ByteArray} {pc : Nat} {n : Nat} (hn : n < 65536) (h : w3 (sfx c.data.toList pc) = 181 + 512 * (n / 256 + 1 + 512 * (n % 256 + 1))) : decode c pc = .ok (.getfield n, 3) := by
  rw [sfx_v] at h
  obtain ⟨x, y, w, t, e, hx, hy, hw⟩ := w3_v (v := 180) (a := n / 256) (b := n % 256) (by decide) (by omega) h
  have h2 : (Jvm.ClassFile.Reader.u2 : Jvm.ClassFile.Decoder Nat) c (pc + 1) = .ok (n, pc + 3) := by
    rw [U2_ok (dtl e), hy, hw]
    exact congrArg (fun q => Except.ok (q, pc + 3)) (by omega)
  exact dk (v := 180) rfl (by rw [U_ok e, hx]) ((bnd h2).trans rfl)
theorem o4 {c : ByteArray} {pc : Nat} (h : w1 (sfx c.data.toList pc) = 5) : decode c pc = .ok (.iconst 1, 1) := by
  rw [sfx_v] at h
  obtain ⟨x, t, e, hx⟩ := w1_v (v := 4) h
  exact dk (v := 4) rfl (by rw [U_ok e, hx]) rfl
theorem o100 {c : ByteArray} {pc : Nat} (h : w1 (sfx c.data.toList pc) = 101) : decode c pc = .ok (.isub, 1) := by
  rw [sfx_v] at h
  obtain ⟨x, t, e, hx⟩ := w1_v (v := 100) h
  exact dk (v := 100) rfl (by rw [U_ok e, hx]) rfl
theorem o54 {c : ByteArray} {pc : Nat} {n : Nat} (h : w2 (sfx c.data.toList pc) = 55 + 512 * (n + 1)) : decode c pc = .ok (.istore n, 2) := by
  rw [sfx_v] at h
  obtain ⟨x, y, t, e, hx, hy⟩ := w2_v (v := 54) (a := n) (by decide) h
  have h2 : (Jvm.ClassFile.Reader.u1 : Jvm.ClassFile.Decoder Nat) c (pc + 1) = .ok (n, pc + 2) := by rw [U_ok (dtl e), hy]
  exact dk (v := 54) rfl (by rw [U_ok e, hx]) ((bnd h2).trans rfl)
theorem o21 {c : ByteArray} {pc : Nat} {n : Nat} (h : w2 (sfx c.data.toList pc) = 22 + 512 * (n + 1)) : decode c pc = .ok (.iload n, 2) := by
  rw [sfx_v] at h
  obtain ⟨x, y, t, e, hx, hy⟩ := w2_v (v := 21) (a := n) (by decide) h
  have h2 : (Jvm.ClassFile.Reader.u1 : Jvm.ClassFile.Decoder Nat) c (pc + 1) = .ok (n, pc + 2) := by rw [U_ok (dtl e), hy]
  exact dk (v := 21) rfl (by rw [U_ok e, hx]) ((bnd h2).trans rfl)
theorem o155 {c : ByteArray} {pc : Nat} {z : Int} (n : Nat) (hn : n < 65536) (h : w3 (sfx c.data.toList pc) = 156 + 512 * (n / 256 + 1 + 512 * (n % 256 + 1)) ∧ Jvm.ClassFile.Reader.signed 16 n = z) : decode c pc = .ok (.ifCond .lt z, 3) := by
  obtain ⟨h, hz⟩ := h
  rw [sfx_v] at h
  obtain ⟨x, y, w, t, e, hx, hy, hw⟩ := w3_v (v := 155) (a := n / 256) (b := n % 256) (by decide) (by omega) h
  have h2 : (Jvm.ClassFile.Reader.u2 : Jvm.ClassFile.Decoder Nat) c (pc + 1) = .ok (n, pc + 3) := by
    rw [U2_ok (dtl e), hy, hw]
    exact congrArg (fun q => Except.ok (q, pc + 3)) (by omega)
  have h3 : (Jvm.ClassFile.Reader.s2 : Jvm.ClassFile.Decoder Int) c (pc + 1) = .ok (z, pc + 3) := by rw [← hz]; exact mpd h2
  exact dk (v := 155) rfl (by rw [U_ok e, hx]) ((bnd h3).trans rfl)
theorem o5 {c : ByteArray} {pc : Nat} (h : w1 (sfx c.data.toList pc) = 6) : decode c pc = .ok (.iconst 2, 1) := by
  rw [sfx_v] at h
  obtain ⟨x, t, e, hx⟩ := w1_v (v := 5) h
  exact dk (v := 5) rfl (by rw [U_ok e, hx]) rfl
theorem o104 {c : ByteArray} {pc : Nat} (h : w1 (sfx c.data.toList pc) = 105) : decode c pc = .ok (.imul, 1) := by
  rw [sfx_v] at h
  obtain ⟨x, t, e, hx⟩ := w1_v (v := 104) h
  exact dk (v := 104) rfl (by rw [U_ok e, hx]) rfl
theorem o96 {c : ByteArray} {pc : Nat} (h : w1 (sfx c.data.toList pc) = 97) : decode c pc = .ok (.iadd, 1) := by
  rw [sfx_v] at h
  obtain ⟨x, t, e, hx⟩ := w1_v (v := 96) h
  exact dk (v := 96) rfl (by rw [U_ok e, hx]) rfl
theorem o190 {c : ByteArray} {pc : Nat} (h : w1 (sfx c.data.toList pc) = 191) : decode c pc = .ok (.arraylength, 1) := by
  rw [sfx_v] at h
  obtain ⟨x, t, e, hx⟩ := w1_v (v := 190) h
  exact dk (v := 190) rfl (by rw [U_ok e, hx]) rfl
theorem o162 {c : ByteArray} {pc : Nat} {z : Int} (n : Nat) (hn : n < 65536) (h : w3 (sfx c.data.toList pc) = 163 + 512 * (n / 256 + 1 + 512 * (n % 256 + 1)) ∧ Jvm.ClassFile.Reader.signed 16 n = z) : decode c pc = .ok (.if_icmp .ge z, 3) := by
  obtain ⟨h, hz⟩ := h
  rw [sfx_v] at h
  obtain ⟨x, y, w, t, e, hx, hy, hw⟩ := w3_v (v := 162) (a := n / 256) (b := n % 256) (by decide) (by omega) h
  have h2 : (Jvm.ClassFile.Reader.u2 : Jvm.ClassFile.Decoder Nat) c (pc + 1) = .ok (n, pc + 3) := by
    rw [U2_ok (dtl e), hy, hw]
    exact congrArg (fun q => Except.ok (q, pc + 3)) (by omega)
  have h3 : (Jvm.ClassFile.Reader.s2 : Jvm.ClassFile.Decoder Int) c (pc + 1) = .ok (z, pc + 3) := by rw [← hz]; exact mpd h2
  exact dk (v := 162) rfl (by rw [U_ok e, hx]) ((bnd h3).trans rfl)
theorem o46 {c : ByteArray} {pc : Nat} (h : w1 (sfx c.data.toList pc) = 47) : decode c pc = .ok (.iaload, 1) := by
  rw [sfx_v] at h
  obtain ⟨x, t, e, hx⟩ := w1_v (v := 46) h
  exact dk (v := 46) rfl (by rw [U_ok e, hx]) rfl
theorem o153 {c : ByteArray} {pc : Nat} {z : Int} (n : Nat) (hn : n < 65536) (h : w3 (sfx c.data.toList pc) = 154 + 512 * (n / 256 + 1 + 512 * (n % 256 + 1)) ∧ Jvm.ClassFile.Reader.signed 16 n = z) : decode c pc = .ok (.ifCond .eq z, 3) := by
  obtain ⟨h, hz⟩ := h
  rw [sfx_v] at h
  obtain ⟨x, y, w, t, e, hx, hy, hw⟩ := w3_v (v := 153) (a := n / 256) (b := n % 256) (by decide) (by omega) h
  have h2 : (Jvm.ClassFile.Reader.u2 : Jvm.ClassFile.Decoder Nat) c (pc + 1) = .ok (n, pc + 3) := by
    rw [U2_ok (dtl e), hy, hw]
    exact congrArg (fun q => Except.ok (q, pc + 3)) (by omega)
  have h3 : (Jvm.ClassFile.Reader.s2 : Jvm.ClassFile.Decoder Int) c (pc + 1) = .ok (z, pc + 3) := by rw [← hz]; exact mpd h2
  exact dk (v := 153) rfl (by rw [U_ok e, hx]) ((bnd h3).trans rfl)
theorem o3 {c : ByteArray} {pc : Nat} (h : w1 (sfx c.data.toList pc) = 4) : decode c pc = .ok (.iconst 0, 1) := by
  rw [sfx_v] at h
  obtain ⟨x, t, e, hx⟩ := w1_v (v := 3) h
  exact dk (v := 3) rfl (by rw [U_ok e, hx]) rfl
theorem o47 {c : ByteArray} {pc : Nat} (h : w1 (sfx c.data.toList pc) = 48) : decode c pc = .ok (.laload, 1) := by
  rw [sfx_v] at h
  obtain ⟨x, t, e, hx⟩ := w1_v (v := 47) h
  exact dk (v := 47) rfl (by rw [U_ok e, hx]) rfl
theorem o55 {c : ByteArray} {pc : Nat} {n : Nat} (h : w2 (sfx c.data.toList pc) = 56 + 512 * (n + 1)) : decode c pc = .ok (.lstore n, 2) := by
  rw [sfx_v] at h
  obtain ⟨x, y, t, e, hx, hy⟩ := w2_v (v := 55) (a := n) (by decide) h
  have h2 : (Jvm.ClassFile.Reader.u1 : Jvm.ClassFile.Decoder Nat) c (pc + 1) = .ok (n, pc + 2) := by rw [U_ok (dtl e), hy]
  exact dk (v := 55) rfl (by rw [U_ok e, hx]) ((bnd h2).trans rfl)
theorem o22 {c : ByteArray} {pc : Nat} {n : Nat} (h : w2 (sfx c.data.toList pc) = 23 + 512 * (n + 1)) : decode c pc = .ok (.lload n, 2) := by
  rw [sfx_v] at h
  obtain ⟨x, y, t, e, hx, hy⟩ := w2_v (v := 22) (a := n) (by decide) h
  have h2 : (Jvm.ClassFile.Reader.u1 : Jvm.ClassFile.Decoder Nat) c (pc + 1) = .ok (n, pc + 2) := by rw [U_ok (dtl e), hy]
  exact dk (v := 22) rfl (by rw [U_ok e, hx]) ((bnd h2).trans rfl)
theorem o9 {c : ByteArray} {pc : Nat} (h : w1 (sfx c.data.toList pc) = 10) : decode c pc = .ok (.lconst 0, 1) := by
  rw [sfx_v] at h
  obtain ⟨x, t, e, hx⟩ := w1_v (v := 9) h
  exact dk (v := 9) rfl (by rw [U_ok e, hx]) rfl
theorem o148 {c : ByteArray} {pc : Nat} (h : w1 (sfx c.data.toList pc) = 149) : decode c pc = .ok (.lcmp, 1) := by
  rw [sfx_v] at h
  obtain ⟨x, t, e, hx⟩ := w1_v (v := 148) h
  exact dk (v := 148) rfl (by rw [U_ok e, hx]) rfl
theorem o133 {c : ByteArray} {pc : Nat} (h : w1 (sfx c.data.toList pc) = 134) : decode c pc = .ok (.i2l, 1) := by
  rw [sfx_v] at h
  obtain ⟨x, t, e, hx⟩ := w1_v (v := 133) h
  exact dk (v := 133) rfl (by rw [U_ok e, hx]) rfl
theorem o156 {c : ByteArray} {pc : Nat} {z : Int} (n : Nat) (hn : n < 65536) (h : w3 (sfx c.data.toList pc) = 157 + 512 * (n / 256 + 1 + 512 * (n % 256 + 1)) ∧ Jvm.ClassFile.Reader.signed 16 n = z) : decode c pc = .ok (.ifCond .ge z, 3) := by
  obtain ⟨h, hz⟩ := h
  rw [sfx_v] at h
  obtain ⟨x, y, w, t, e, hx, hy, hw⟩ := w3_v (v := 156) (a := n / 256) (b := n % 256) (by decide) (by omega) h
  have h2 : (Jvm.ClassFile.Reader.u2 : Jvm.ClassFile.Decoder Nat) c (pc + 1) = .ok (n, pc + 3) := by
    rw [U2_ok (dtl e), hy, hw]
    exact congrArg (fun q => Except.ok (q, pc + 3)) (by omega)
  have h3 : (Jvm.ClassFile.Reader.s2 : Jvm.ClassFile.Decoder Int) c (pc + 1) = .ok (z, pc + 3) := by rw [← hz]; exact mpd h2
  exact dk (v := 156) rfl (by rw [U_ok e, hx]) ((bnd h3).trans rfl)
theorem o136 {c : ByteArray} {pc : Nat} (h : w1 (sfx c.data.toList pc) = 137) : decode c pc = .ok (.l2i, 1) := by
  rw [sfx_v] at h
  obtain ⟨x, t, e, hx⟩ := w1_v (v := 136) h
  exact dk (v := 136) rfl (by rw [U_ok e, hx]) rfl
theorem o167 {c : ByteArray} {pc : Nat} {z : Int} (n : Nat) (hn : n < 65536) (h : w3 (sfx c.data.toList pc) = 168 + 512 * (n / 256 + 1 + 512 * (n % 256 + 1)) ∧ Jvm.ClassFile.Reader.signed 16 n = z) : decode c pc = .ok (.goto z, 3) := by
  obtain ⟨h, hz⟩ := h
  rw [sfx_v] at h
  obtain ⟨x, y, w, t, e, hx, hy, hw⟩ := w3_v (v := 167) (a := n / 256) (b := n % 256) (by decide) (by omega) h
  have h2 : (Jvm.ClassFile.Reader.u2 : Jvm.ClassFile.Decoder Nat) c (pc + 1) = .ok (n, pc + 3) := by
    rw [U2_ok (dtl e), hy, hw]
    exact congrArg (fun q => Except.ok (q, pc + 3)) (by omega)
  have h3 : (Jvm.ClassFile.Reader.s2 : Jvm.ClassFile.Decoder Int) c (pc + 1) = .ok (z, pc + 3) := by rw [← hz]; exact mpd h2
  exact dk (v := 167) rfl (by rw [U_ok e, hx]) ((bnd h3).trans rfl)
theorem o2 {c : ByteArray} {pc : Nat} (h : w1 (sfx c.data.toList pc) = 3) : decode c pc = .ok (.iconst (-1), 1) := by
  rw [sfx_v] at h
  obtain ⟨x, t, e, hx⟩ := w1_v (v := 2) h
  exact dk (v := 2) rfl (by rw [U_ok e, hx]) rfl
theorem o172 {c : ByteArray} {pc : Nat} (h : w1 (sfx c.data.toList pc) = 173) : decode c pc = .ok (.ireturn, 1) := by
  rw [sfx_v] at h
  obtain ⟨x, t, e, hx⟩ := w1_v (v := 172) h
  exact dk (v := 172) rfl (by rw [U_ok e, hx]) rfl
theorem o132 {c : ByteArray} {pc : Nat} {a : Nat} {z : Int} (n : Nat) (ha : a < 256) (h : w3 (sfx c.data.toList pc) = 133 + 512 * (a + 1 + 512 * (n + 1)) ∧ Jvm.ClassFile.Reader.signed 8 n = z) : decode c pc = .ok (.iinc a z, 3) := by
  obtain ⟨h, hz⟩ := h
  rw [sfx_v] at h
  obtain ⟨x, y, w, t, e, hx, hy, hw⟩ := w3_v (v := 132) (a := a) (b := n) (by decide) ha h
  have h2 : (Jvm.ClassFile.Reader.u1 : Jvm.ClassFile.Decoder Nat) c (pc + 1) = .ok (a, pc + 2) := by rw [U_ok (dtl e), hy]
  have h3 : (Jvm.ClassFile.Reader.u1 : Jvm.ClassFile.Decoder Nat) c (pc + 2) = .ok (n, pc + 3) := by rw [U_ok (dtl (dtl e)), hw]
  have h4 : (Jvm.ClassFile.Reader.s1 : Jvm.ClassFile.Decoder Int) c (pc + 2) = .ok (z, pc + 3) := by rw [← hz]; exact mpd h3
  exact dk (v := 132) rfl (by rw [U_ok e, hx]) ((bnd h2).trans ((bnd h4).trans rfl))
theorem o28 {c : ByteArray} {pc : Nat} (h : w1 (sfx c.data.toList pc) = 29) : decode c pc = .ok (.iload_n 2, 1) := by
  rw [sfx_v] at h
  obtain ⟨x, t, e, hx⟩ := w1_v (v := 28) h
  exact dk (v := 28) rfl (by rw [U_ok e, hx]) rfl
theorem o159 {c : ByteArray} {pc : Nat} {z : Int} (n : Nat) (hn : n < 65536) (h : w3 (sfx c.data.toList pc) = 160 + 512 * (n / 256 + 1 + 512 * (n % 256 + 1)) ∧ Jvm.ClassFile.Reader.signed 16 n = z) : decode c pc = .ok (.if_icmp .eq z, 3) := by
  obtain ⟨h, hz⟩ := h
  rw [sfx_v] at h
  obtain ⟨x, y, w, t, e, hx, hy, hw⟩ := w3_v (v := 159) (a := n / 256) (b := n % 256) (by decide) (by omega) h
  have h2 : (Jvm.ClassFile.Reader.u2 : Jvm.ClassFile.Decoder Nat) c (pc + 1) = .ok (n, pc + 3) := by
    rw [U2_ok (dtl e), hy, hw]
    exact congrArg (fun q => Except.ok (q, pc + 3)) (by omega)
  have h3 : (Jvm.ClassFile.Reader.s2 : Jvm.ClassFile.Decoder Int) c (pc + 1) = .ok (z, pc + 3) := by rw [← hz]; exact mpd h2
  exact dk (v := 159) rfl (by rw [U_ok e, hx]) ((bnd h3).trans rfl)
theorem o184 {c : ByteArray} {pc : Nat} {n : Nat} (hn : n < 65536) (h : w3 (sfx c.data.toList pc) = 185 + 512 * (n / 256 + 1 + 512 * (n % 256 + 1))) : decode c pc = .ok (.invokestatic n, 3) := by
  rw [sfx_v] at h
  obtain ⟨x, y, w, t, e, hx, hy, hw⟩ := w3_v (v := 184) (a := n / 256) (b := n % 256) (by decide) (by omega) h
  have h2 : (Jvm.ClassFile.Reader.u2 : Jvm.ClassFile.Decoder Nat) c (pc + 1) = .ok (n, pc + 3) := by
    rw [U2_ok (dtl e), hy, hw]
    exact congrArg (fun q => Except.ok (q, pc + 3)) (by omega)
  exact dk (v := 184) rfl (by rw [U_ok e, hx]) ((bnd h2).trans rfl)
theorem o161 {c : ByteArray} {pc : Nat} {z : Int} (n : Nat) (hn : n < 65536) (h : w3 (sfx c.data.toList pc) = 162 + 512 * (n / 256 + 1 + 512 * (n % 256 + 1)) ∧ Jvm.ClassFile.Reader.signed 16 n = z) : decode c pc = .ok (.if_icmp .lt z, 3) := by
  obtain ⟨h, hz⟩ := h
  rw [sfx_v] at h
  obtain ⟨x, y, w, t, e, hx, hy, hw⟩ := w3_v (v := 161) (a := n / 256) (b := n % 256) (by decide) (by omega) h
  have h2 : (Jvm.ClassFile.Reader.u2 : Jvm.ClassFile.Decoder Nat) c (pc + 1) = .ok (n, pc + 3) := by
    rw [U2_ok (dtl e), hy, hw]
    exact congrArg (fun q => Except.ok (q, pc + 3)) (by omega)
  have h3 : (Jvm.ClassFile.Reader.s2 : Jvm.ClassFile.Decoder Int) c (pc + 1) = .ok (z, pc + 3) := by rw [← hz]; exact mpd h2
  exact dk (v := 161) rfl (by rw [U_ok e, hx]) ((bnd h3).trans rfl)
theorem o80 {c : ByteArray} {pc : Nat} (h : w1 (sfx c.data.toList pc) = 81) : decode c pc = .ok (.lastore, 1) := by
  rw [sfx_v] at h
  obtain ⟨x, t, e, hx⟩ := w1_v (v := 80) h
  exact dk (v := 80) rfl (by rw [U_ok e, hx]) rfl
theorem o160 {c : ByteArray} {pc : Nat} {z : Int} (n : Nat) (hn : n < 65536) (h : w3 (sfx c.data.toList pc) = 161 + 512 * (n / 256 + 1 + 512 * (n % 256 + 1)) ∧ Jvm.ClassFile.Reader.signed 16 n = z) : decode c pc = .ok (.if_icmp .ne z, 3) := by
  obtain ⟨h, hz⟩ := h
  rw [sfx_v] at h
  obtain ⟨x, y, w, t, e, hx, hy, hw⟩ := w3_v (v := 160) (a := n / 256) (b := n % 256) (by decide) (by omega) h
  have h2 : (Jvm.ClassFile.Reader.u2 : Jvm.ClassFile.Decoder Nat) c (pc + 1) = .ok (n, pc + 3) := by
    rw [U2_ok (dtl e), hy, hw]
    exact congrArg (fun q => Except.ok (q, pc + 3)) (by omega)
  have h3 : (Jvm.ClassFile.Reader.s2 : Jvm.ClassFile.Decoder Int) c (pc + 1) = .ok (z, pc + 3) := by rw [← hz]; exact mpd h2
  exact dk (v := 160) rfl (by rw [U_ok e, hx]) ((bnd h3).trans rfl)
theorem o10 {c : ByteArray} {pc : Nat} (h : w1 (sfx c.data.toList pc) = 11) : decode c pc = .ok (.lconst 1, 1) := by
  rw [sfx_v] at h
  obtain ⟨x, t, e, hx⟩ := w1_v (v := 10) h
  exact dk (v := 10) rfl (by rw [U_ok e, hx]) rfl
theorem o101 {c : ByteArray} {pc : Nat} (h : w1 (sfx c.data.toList pc) = 102) : decode c pc = .ok (.lsub, 1) := by
  rw [sfx_v] at h
  obtain ⟨x, t, e, hx⟩ := w1_v (v := 101) h
  exact dk (v := 101) rfl (by rw [U_ok e, hx]) rfl
theorem o154 {c : ByteArray} {pc : Nat} {z : Int} (n : Nat) (hn : n < 65536) (h : w3 (sfx c.data.toList pc) = 155 + 512 * (n / 256 + 1 + 512 * (n % 256 + 1)) ∧ Jvm.ClassFile.Reader.signed 16 n = z) : decode c pc = .ok (.ifCond .ne z, 3) := by
  obtain ⟨h, hz⟩ := h
  rw [sfx_v] at h
  obtain ⟨x, y, w, t, e, hx, hy, hw⟩ := w3_v (v := 154) (a := n / 256) (b := n % 256) (by decide) (by omega) h
  have h2 : (Jvm.ClassFile.Reader.u2 : Jvm.ClassFile.Decoder Nat) c (pc + 1) = .ok (n, pc + 3) := by
    rw [U2_ok (dtl e), hy, hw]
    exact congrArg (fun q => Except.ok (q, pc + 3)) (by omega)
  have h3 : (Jvm.ClassFile.Reader.s2 : Jvm.ClassFile.Decoder Int) c (pc + 1) = .ok (z, pc + 3) := by rw [← hz]; exact mpd h2
  exact dk (v := 154) rfl (by rw [U_ok e, hx]) ((bnd h3).trans rfl)
theorem o66 {c : ByteArray} {pc : Nat} (h : w1 (sfx c.data.toList pc) = 67) : decode c pc = .ok (.lstore_n 3, 1) := by
  rw [sfx_v] at h
  obtain ⟨x, t, e, hx⟩ := w1_v (v := 66) h
  exact dk (v := 66) rfl (by rw [U_ok e, hx]) rfl
theorem o27 {c : ByteArray} {pc : Nat} (h : w1 (sfx c.data.toList pc) = 28) : decode c pc = .ok (.iload_n 1, 1) := by
  rw [sfx_v] at h
  obtain ⟨x, t, e, hx⟩ := w1_v (v := 27) h
  exact dk (v := 27) rfl (by rw [U_ok e, hx]) rfl
theorem o33 {c : ByteArray} {pc : Nat} (h : w1 (sfx c.data.toList pc) = 34) : decode c pc = .ok (.lload_n 3, 1) := by
  rw [sfx_v] at h
  obtain ⟨x, t, e, hx⟩ := w1_v (v := 33) h
  exact dk (v := 33) rfl (by rw [U_ok e, hx]) rfl
theorem o97 {c : ByteArray} {pc : Nat} (h : w1 (sfx c.data.toList pc) = 98) : decode c pc = .ok (.ladd, 1) := by
  rw [sfx_v] at h
  obtain ⟨x, t, e, hx⟩ := w1_v (v := 97) h
  exact dk (v := 97) rfl (by rw [U_ok e, hx]) rfl
theorem o105 {c : ByteArray} {pc : Nat} (h : w1 (sfx c.data.toList pc) = 106) : decode c pc = .ok (.lmul, 1) := by
  rw [sfx_v] at h
  obtain ⟨x, t, e, hx⟩ := w1_v (v := 105) h
  exact dk (v := 105) rfl (by rw [U_ok e, hx]) rfl
theorem o109 {c : ByteArray} {pc : Nat} (h : w1 (sfx c.data.toList pc) = 110) : decode c pc = .ok (.ldiv, 1) := by
  rw [sfx_v] at h
  obtain ⟨x, t, e, hx⟩ := w1_v (v := 109) h
  exact dk (v := 109) rfl (by rw [U_ok e, hx]) rfl
theorem o113 {c : ByteArray} {pc : Nat} (h : w1 (sfx c.data.toList pc) = 114) : decode c pc = .ok (.lrem, 1) := by
  rw [sfx_v] at h
  obtain ⟨x, t, e, hx⟩ := w1_v (v := 113) h
  exact dk (v := 113) rfl (by rw [U_ok e, hx]) rfl
theorem o158 {c : ByteArray} {pc : Nat} {z : Int} (n : Nat) (hn : n < 65536) (h : w3 (sfx c.data.toList pc) = 159 + 512 * (n / 256 + 1 + 512 * (n % 256 + 1)) ∧ Jvm.ClassFile.Reader.signed 16 n = z) : decode c pc = .ok (.ifCond .le z, 3) := by
  obtain ⟨h, hz⟩ := h
  rw [sfx_v] at h
  obtain ⟨x, y, w, t, e, hx, hy, hw⟩ := w3_v (v := 158) (a := n / 256) (b := n % 256) (by decide) (by omega) h
  have h2 : (Jvm.ClassFile.Reader.u2 : Jvm.ClassFile.Decoder Nat) c (pc + 1) = .ok (n, pc + 3) := by
    rw [U2_ok (dtl e), hy, hw]
    exact congrArg (fun q => Except.ok (q, pc + 3)) (by omega)
  have h3 : (Jvm.ClassFile.Reader.s2 : Jvm.ClassFile.Decoder Int) c (pc + 1) = .ok (z, pc + 3) := by rw [← hz]; exact mpd h2
  exact dk (v := 158) rfl (by rw [U_ok e, hx]) ((bnd h3).trans rfl)
theorem o20 {c : ByteArray} {pc : Nat} {n : Nat} (hn : n < 65536) (h : w3 (sfx c.data.toList pc) = 21 + 512 * (n / 256 + 1 + 512 * (n % 256 + 1))) : decode c pc = .ok (.ldc2_w n, 3) := by
  rw [sfx_v] at h
  obtain ⟨x, y, w, t, e, hx, hy, hw⟩ := w3_v (v := 20) (a := n / 256) (b := n % 256) (by decide) (by omega) h
  have h2 : (Jvm.ClassFile.Reader.u2 : Jvm.ClassFile.Decoder Nat) c (pc + 1) = .ok (n, pc + 3) := by
    rw [U2_ok (dtl e), hy, hw]
    exact congrArg (fun q => Except.ok (q, pc + 3)) (by omega)
  exact dk (v := 20) rfl (by rw [U_ok e, hx]) ((bnd h2).trans rfl)
theorem o157 {c : ByteArray} {pc : Nat} {z : Int} (n : Nat) (hn : n < 65536) (h : w3 (sfx c.data.toList pc) = 158 + 512 * (n / 256 + 1 + 512 * (n % 256 + 1)) ∧ Jvm.ClassFile.Reader.signed 16 n = z) : decode c pc = .ok (.ifCond .gt z, 3) := by
  obtain ⟨h, hz⟩ := h
  rw [sfx_v] at h
  obtain ⟨x, y, w, t, e, hx, hy, hw⟩ := w3_v (v := 157) (a := n / 256) (b := n % 256) (by decide) (by omega) h
  have h2 : (Jvm.ClassFile.Reader.u2 : Jvm.ClassFile.Decoder Nat) c (pc + 1) = .ok (n, pc + 3) := by
    rw [U2_ok (dtl e), hy, hw]
    exact congrArg (fun q => Except.ok (q, pc + 3)) (by omega)
  have h3 : (Jvm.ClassFile.Reader.s2 : Jvm.ClassFile.Decoder Int) c (pc + 1) = .ok (z, pc + 3) := by rw [← hz]; exact mpd h2
  exact dk (v := 157) rfl (by rw [U_ok e, hx]) ((bnd h3).trans rfl)
theorem o62 {c : ByteArray} {pc : Nat} (h : w1 (sfx c.data.toList pc) = 63) : decode c pc = .ok (.istore_n 3, 1) := by
  rw [sfx_v] at h
  obtain ⟨x, t, e, hx⟩ := w1_v (v := 62) h
  exact dk (v := 62) rfl (by rw [U_ok e, hx]) rfl
theorem o122 {c : ByteArray} {pc : Nat} (h : w1 (sfx c.data.toList pc) = 123) : decode c pc = .ok (.ishr, 1) := by
  rw [sfx_v] at h
  obtain ⟨x, t, e, hx⟩ := w1_v (v := 122) h
  exact dk (v := 122) rfl (by rw [U_ok e, hx]) rfl
theorem o126 {c : ByteArray} {pc : Nat} (h : w1 (sfx c.data.toList pc) = 127) : decode c pc = .ok (.iand, 1) := by
  rw [sfx_v] at h
  obtain ⟨x, t, e, hx⟩ := w1_v (v := 126) h
  exact dk (v := 126) rfl (by rw [U_ok e, hx]) rfl
theorem o130 {c : ByteArray} {pc : Nat} (h : w1 (sfx c.data.toList pc) = 131) : decode c pc = .ok (.ixor, 1) := by
  rw [sfx_v] at h
  obtain ⟨x, t, e, hx⟩ := w1_v (v := 130) h
  exact dk (v := 130) rfl (by rw [U_ok e, hx]) rfl
theorem o79 {c : ByteArray} {pc : Nat} (h : w1 (sfx c.data.toList pc) = 80) : decode c pc = .ok (.iastore, 1) := by
  rw [sfx_v] at h
  obtain ⟨x, t, e, hx⟩ := w1_v (v := 79) h
  exact dk (v := 79) rfl (by rw [U_ok e, hx]) rfl
theorem o6 {c : ByteArray} {pc : Nat} (h : w1 (sfx c.data.toList pc) = 7) : decode c pc = .ok (.iconst 3, 1) := by
  rw [sfx_v] at h
  obtain ⟨x, t, e, hx⟩ := w1_v (v := 6) h
  exact dk (v := 6) rfl (by rw [U_ok e, hx]) rfl
theorem o7 {c : ByteArray} {pc : Nat} (h : w1 (sfx c.data.toList pc) = 8) : decode c pc = .ok (.iconst 4, 1) := by
  rw [sfx_v] at h
  obtain ⟨x, t, e, hx⟩ := w1_v (v := 7) h
  exact dk (v := 7) rfl (by rw [U_ok e, hx]) rfl
theorem o8 {c : ByteArray} {pc : Nat} (h : w1 (sfx c.data.toList pc) = 9) : decode c pc = .ok (.iconst 5, 1) := by
  rw [sfx_v] at h
  obtain ⟨x, t, e, hx⟩ := w1_v (v := 8) h
  exact dk (v := 8) rfl (by rw [U_ok e, hx]) rfl
theorem o17 {c : ByteArray} {pc : Nat} {z : Int} (n : Nat) (hn : n < 65536) (h : w3 (sfx c.data.toList pc) = 18 + 512 * (n / 256 + 1 + 512 * (n % 256 + 1)) ∧ Jvm.ClassFile.Reader.signed 16 n = z) : decode c pc = .ok (.sipush z, 3) := by
  obtain ⟨h, hz⟩ := h
  rw [sfx_v] at h
  obtain ⟨x, y, w, t, e, hx, hy, hw⟩ := w3_v (v := 17) (a := n / 256) (b := n % 256) (by decide) (by omega) h
  have h2 : (Jvm.ClassFile.Reader.u2 : Jvm.ClassFile.Decoder Nat) c (pc + 1) = .ok (n, pc + 3) := by
    rw [U2_ok (dtl e), hy, hw]
    exact congrArg (fun q => Except.ok (q, pc + 3)) (by omega)
  have h3 : (Jvm.ClassFile.Reader.s2 : Jvm.ClassFile.Decoder Int) c (pc + 1) = .ok (z, pc + 3) := by rw [← hz]; exact mpd h2
  exact dk (v := 17) rfl (by rw [U_ok e, hx]) ((bnd h3).trans rfl)
theorem o189 {c : ByteArray} {pc : Nat} {n : Nat} (hn : n < 65536) (h : w3 (sfx c.data.toList pc) = 190 + 512 * (n / 256 + 1 + 512 * (n % 256 + 1))) : decode c pc = .ok (.anewarray n, 3) := by
  rw [sfx_v] at h
  obtain ⟨x, y, w, t, e, hx, hy, hw⟩ := w3_v (v := 189) (a := n / 256) (b := n % 256) (by decide) (by omega) h
  have h2 : (Jvm.ClassFile.Reader.u2 : Jvm.ClassFile.Decoder Nat) c (pc + 1) = .ok (n, pc + 3) := by
    rw [U2_ok (dtl e), hy, hw]
    exact congrArg (fun q => Except.ok (q, pc + 3)) (by omega)
  exact dk (v := 189) rfl (by rw [U_ok e, hx]) ((bnd h2).trans rfl)
theorem o120 {c : ByteArray} {pc : Nat} (h : w1 (sfx c.data.toList pc) = 121) : decode c pc = .ok (.ishl, 1) := by
  rw [sfx_v] at h
  obtain ⟨x, t, e, hx⟩ := w1_v (v := 120) h
  exact dk (v := 120) rfl (by rw [U_ok e, hx]) rfl
theorem o163 {c : ByteArray} {pc : Nat} {z : Int} (n : Nat) (hn : n < 65536) (h : w3 (sfx c.data.toList pc) = 164 + 512 * (n / 256 + 1 + 512 * (n % 256 + 1)) ∧ Jvm.ClassFile.Reader.signed 16 n = z) : decode c pc = .ok (.if_icmp .gt z, 3) := by
  obtain ⟨h, hz⟩ := h
  rw [sfx_v] at h
  obtain ⟨x, y, w, t, e, hx, hy, hw⟩ := w3_v (v := 163) (a := n / 256) (b := n % 256) (by decide) (by omega) h
  have h2 : (Jvm.ClassFile.Reader.u2 : Jvm.ClassFile.Decoder Nat) c (pc + 1) = .ok (n, pc + 3) := by
    rw [U2_ok (dtl e), hy, hw]
    exact congrArg (fun q => Except.ok (q, pc + 3)) (by omega)
  have h3 : (Jvm.ClassFile.Reader.s2 : Jvm.ClassFile.Decoder Int) c (pc + 1) = .ok (z, pc + 3) := by rw [← hz]; exact mpd h2
  exact dk (v := 163) rfl (by rw [U_ok e, hx]) ((bnd h3).trans rfl)
theorem o60 {c : ByteArray} {pc : Nat} (h : w1 (sfx c.data.toList pc) = 61) : decode c pc = .ok (.istore_n 1, 1) := by
  rw [sfx_v] at h
  obtain ⟨x, t, e, hx⟩ := w1_v (v := 60) h
  exact dk (v := 60) rfl (by rw [U_ok e, hx]) rfl
theorem o61 {c : ByteArray} {pc : Nat} (h : w1 (sfx c.data.toList pc) = 62) : decode c pc = .ok (.istore_n 2, 1) := by
  rw [sfx_v] at h
  obtain ⟨x, t, e, hx⟩ := w1_v (v := 61) h
  exact dk (v := 61) rfl (by rw [U_ok e, hx]) rfl
theorem o128 {c : ByteArray} {pc : Nat} (h : w1 (sfx c.data.toList pc) = 129) : decode c pc = .ok (.ior, 1) := by
  rw [sfx_v] at h
  obtain ⟨x, t, e, hx⟩ := w1_v (v := 128) h
  exact dk (v := 128) rfl (by rw [U_ok e, hx]) rfl
theorem o50 {c : ByteArray} {pc : Nat} (h : w1 (sfx c.data.toList pc) = 51) : decode c pc = .ok (.aaload, 1) := by
  rw [sfx_v] at h
  obtain ⟨x, t, e, hx⟩ := w1_v (v := 50) h
  exact dk (v := 50) rfl (by rw [U_ok e, hx]) rfl
theorem o83 {c : ByteArray} {pc : Nat} (h : w1 (sfx c.data.toList pc) = 84) : decode c pc = .ok (.aastore, 1) := by
  rw [sfx_v] at h
  obtain ⟨x, t, e, hx⟩ := w1_v (v := 83) h
  exact dk (v := 83) rfl (by rw [U_ok e, hx]) rfl
theorem o187 {c : ByteArray} {pc : Nat} {n : Nat} (hn : n < 65536) (h : w3 (sfx c.data.toList pc) = 188 + 512 * (n / 256 + 1 + 512 * (n % 256 + 1))) : decode c pc = .ok (.new n, 3) := by
  rw [sfx_v] at h
  obtain ⟨x, y, w, t, e, hx, hy, hw⟩ := w3_v (v := 187) (a := n / 256) (b := n % 256) (by decide) (by omega) h
  have h2 : (Jvm.ClassFile.Reader.u2 : Jvm.ClassFile.Decoder Nat) c (pc + 1) = .ok (n, pc + 3) := by
    rw [U2_ok (dtl e), hy, hw]
    exact congrArg (fun q => Except.ok (q, pc + 3)) (by omega)
  exact dk (v := 187) rfl (by rw [U_ok e, hx]) ((bnd h2).trans rfl)
theorem o89 {c : ByteArray} {pc : Nat} (h : w1 (sfx c.data.toList pc) = 90) : decode c pc = .ok (.dup, 1) := by
  rw [sfx_v] at h
  obtain ⟨x, t, e, hx⟩ := w1_v (v := 89) h
  exact dk (v := 89) rfl (by rw [U_ok e, hx]) rfl
theorem o26 {c : ByteArray} {pc : Nat} (h : w1 (sfx c.data.toList pc) = 27) : decode c pc = .ok (.iload_n 0, 1) := by
  rw [sfx_v] at h
  obtain ⟨x, t, e, hx⟩ := w1_v (v := 26) h
  exact dk (v := 26) rfl (by rw [U_ok e, hx]) rfl
theorem o164 {c : ByteArray} {pc : Nat} {z : Int} (n : Nat) (hn : n < 65536) (h : w3 (sfx c.data.toList pc) = 165 + 512 * (n / 256 + 1 + 512 * (n % 256 + 1)) ∧ Jvm.ClassFile.Reader.signed 16 n = z) : decode c pc = .ok (.if_icmp .le z, 3) := by
  obtain ⟨h, hz⟩ := h
  rw [sfx_v] at h
  obtain ⟨x, y, w, t, e, hx, hy, hw⟩ := w3_v (v := 164) (a := n / 256) (b := n % 256) (by decide) (by omega) h
  have h2 : (Jvm.ClassFile.Reader.u2 : Jvm.ClassFile.Decoder Nat) c (pc + 1) = .ok (n, pc + 3) := by
    rw [U2_ok (dtl e), hy, hw]
    exact congrArg (fun q => Except.ok (q, pc + 3)) (by omega)
  have h3 : (Jvm.ClassFile.Reader.s2 : Jvm.ClassFile.Decoder Int) c (pc + 1) = .ok (z, pc + 3) := by rw [← hz]; exact mpd h2
  exact dk (v := 164) rfl (by rw [U_ok e, hx]) ((bnd h3).trans rfl)
theorem o51 {c : ByteArray} {pc : Nat} (h : w1 (sfx c.data.toList pc) = 52) : decode c pc = .ok (.baload, 1) := by
  rw [sfx_v] at h
  obtain ⟨x, t, e, hx⟩ := w1_v (v := 51) h
  exact dk (v := 51) rfl (by rw [U_ok e, hx]) rfl
theorem o84 {c : ByteArray} {pc : Nat} (h : w1 (sfx c.data.toList pc) = 85) : decode c pc = .ok (.bastore, 1) := by
  rw [sfx_v] at h
  obtain ⟨x, t, e, hx⟩ := w1_v (v := 84) h
  exact dk (v := 84) rfl (by rw [U_ok e, hx]) rfl
theorem o25 {c : ByteArray} {pc : Nat} {n : Nat} (h : w2 (sfx c.data.toList pc) = 26 + 512 * (n + 1)) : decode c pc = .ok (.aload n, 2) := by
  rw [sfx_v] at h
  obtain ⟨x, y, t, e, hx, hy⟩ := w2_v (v := 25) (a := n) (by decide) h
  have h2 : (Jvm.ClassFile.Reader.u1 : Jvm.ClassFile.Decoder Nat) c (pc + 1) = .ok (n, pc + 2) := by rw [U_ok (dtl e), hy]
  exact dk (v := 25) rfl (by rw [U_ok e, hx]) ((bnd h2).trans rfl)
theorem o18 {c : ByteArray} {pc : Nat} {n : Nat} (h : w2 (sfx c.data.toList pc) = 19 + 512 * (n + 1)) : decode c pc = .ok (.ldc n, 2) := by
  rw [sfx_v] at h
  obtain ⟨x, y, t, e, hx, hy⟩ := w2_v (v := 18) (a := n) (by decide) h
  have h2 : (Jvm.ClassFile.Reader.u1 : Jvm.ClassFile.Decoder Nat) c (pc + 1) = .ok (n, pc + 2) := by rw [U_ok (dtl e), hy]
  exact dk (v := 18) rfl (by rw [U_ok e, hx]) ((bnd h2).trans rfl)
theorem o92 {c : ByteArray} {pc : Nat} (h : w1 (sfx c.data.toList pc) = 93) : decode c pc = .ok (.dup2, 1) := by
  rw [sfx_v] at h
  obtain ⟨x, t, e, hx⟩ := w1_v (v := 92) h
  exact dk (v := 92) rfl (by rw [U_ok e, hx]) rfl
theorem o64 {c : ByteArray} {pc : Nat} (h : w1 (sfx c.data.toList pc) = 65) : decode c pc = .ok (.lstore_n 1, 1) := by
  rw [sfx_v] at h
  obtain ⟨x, t, e, hx⟩ := w1_v (v := 64) h
  exact dk (v := 64) rfl (by rw [U_ok e, hx]) rfl
theorem o31 {c : ByteArray} {pc : Nat} (h : w1 (sfx c.data.toList pc) = 32) : decode c pc = .ok (.lload_n 1, 1) := by
  rw [sfx_v] at h
  obtain ⟨x, t, e, hx⟩ := w1_v (v := 31) h
  exact dk (v := 31) rfl (by rw [U_ok e, hx]) rfl
theorem o173 {c : ByteArray} {pc : Nat} (h : w1 (sfx c.data.toList pc) = 174) : decode c pc = .ok (.lreturn, 1) := by
  rw [sfx_v] at h
  obtain ⟨x, t, e, hx⟩ := w1_v (v := 173) h
  exact dk (v := 173) rfl (by rw [U_ok e, hx]) rfl
theorem o32 {c : ByteArray} {pc : Nat} (h : w1 (sfx c.data.toList pc) = 33) : decode c pc = .ok (.lload_n 2, 1) := by
  rw [sfx_v] at h
  obtain ⟨x, t, e, hx⟩ := w1_v (v := 32) h
  exact dk (v := 32) rfl (by rw [U_ok e, hx]) rfl
theorem o30 {c : ByteArray} {pc : Nat} (h : w1 (sfx c.data.toList pc) = 31) : decode c pc = .ok (.lload_n 0, 1) := by
  rw [sfx_v] at h
  obtain ⟨x, t, e, hx⟩ := w1_v (v := 30) h
  exact dk (v := 30) rfl (by rw [U_ok e, hx]) rfl
theorem o63 {c : ByteArray} {pc : Nat} (h : w1 (sfx c.data.toList pc) = 64) : decode c pc = .ok (.lstore_n 0, 1) := by
  rw [sfx_v] at h
  obtain ⟨x, t, e, hx⟩ := w1_v (v := 63) h
  exact dk (v := 63) rfl (by rw [U_ok e, hx]) rfl
theorem o65 {c : ByteArray} {pc : Nat} (h : w1 (sfx c.data.toList pc) = 66) : decode c pc = .ok (.lstore_n 2, 1) := by
  rw [sfx_v] at h
  obtain ⟨x, t, e, hx⟩ := w1_v (v := 65) h
  exact dk (v := 65) rfl (by rw [U_ok e, hx]) rfl
theorem o1 {c : ByteArray} {pc : Nat} (h : w1 (sfx c.data.toList pc) = 2) : decode c pc = .ok (.aconst_null, 1) := by
  rw [sfx_v] at h
  obtain ⟨x, t, e, hx⟩ := w1_v (v := 1) h
  exact dk (v := 1) rfl (by rw [U_ok e, hx]) rfl
theorem o176 {c : ByteArray} {pc : Nat} (h : w1 (sfx c.data.toList pc) = 177) : decode c pc = .ok (.areturn, 1) := by
  rw [sfx_v] at h
  obtain ⟨x, t, e, hx⟩ := w1_v (v := 176) h
  exact dk (v := 176) rfl (by rw [U_ok e, hx]) rfl
theorem o124 {c : ByteArray} {pc : Nat} (h : w1 (sfx c.data.toList pc) = 125) : decode c pc = .ok (.iushr, 1) := by
  rw [sfx_v] at h
  obtain ⟨x, t, e, hx⟩ := w1_v (v := 124) h
  exact dk (v := 124) rfl (by rw [U_ok e, hx]) rfl
theorem o76 {c : ByteArray} {pc : Nat} (h : w1 (sfx c.data.toList pc) = 77) : decode c pc = .ok (.astore_n 1, 1) := by
  rw [sfx_v] at h
  obtain ⟨x, t, e, hx⟩ := w1_v (v := 76) h
  exact dk (v := 76) rfl (by rw [U_ok e, hx]) rfl
theorem o199 {c : ByteArray} {pc : Nat} {z : Int} (n : Nat) (hn : n < 65536) (h : w3 (sfx c.data.toList pc) = 200 + 512 * (n / 256 + 1 + 512 * (n % 256 + 1)) ∧ Jvm.ClassFile.Reader.signed 16 n = z) : decode c pc = .ok (.ifnonnull z, 3) := by
  obtain ⟨h, hz⟩ := h
  rw [sfx_v] at h
  obtain ⟨x, y, w, t, e, hx, hy, hw⟩ := w3_v (v := 199) (a := n / 256) (b := n % 256) (by decide) (by omega) h
  have h2 : (Jvm.ClassFile.Reader.u2 : Jvm.ClassFile.Decoder Nat) c (pc + 1) = .ok (n, pc + 3) := by
    rw [U2_ok (dtl e), hy, hw]
    exact congrArg (fun q => Except.ok (q, pc + 3)) (by omega)
  have h3 : (Jvm.ClassFile.Reader.s2 : Jvm.ClassFile.Decoder Int) c (pc + 1) = .ok (z, pc + 3) := by rw [← hz]; exact mpd h2
  exact dk (v := 199) rfl (by rw [U_ok e, hx]) ((bnd h3).trans rfl)
theorem o77 {c : ByteArray} {pc : Nat} (h : w1 (sfx c.data.toList pc) = 78) : decode c pc = .ok (.astore_n 2, 1) := by
  rw [sfx_v] at h
  obtain ⟨x, t, e, hx⟩ := w1_v (v := 77) h
  exact dk (v := 77) rfl (by rw [U_ok e, hx]) rfl
theorem o19 {c : ByteArray} {pc : Nat} {n : Nat} (hn : n < 65536) (h : w3 (sfx c.data.toList pc) = 20 + 512 * (n / 256 + 1 + 512 * (n % 256 + 1))) : decode c pc = .ok (.ldc_w n, 3) := by
  rw [sfx_v] at h
  obtain ⟨x, y, w, t, e, hx, hy, hw⟩ := w3_v (v := 19) (a := n / 256) (b := n % 256) (by decide) (by omega) h
  have h2 : (Jvm.ClassFile.Reader.u2 : Jvm.ClassFile.Decoder Nat) c (pc + 1) = .ok (n, pc + 3) := by
    rw [U2_ok (dtl e), hy, hw]
    exact congrArg (fun q => Except.ok (q, pc + 3)) (by omega)
  exact dk (v := 19) rfl (by rw [U_ok e, hx]) ((bnd h2).trans rfl)
theorem o116 {c : ByteArray} {pc : Nat} (h : w1 (sfx c.data.toList pc) = 117) : decode c pc = .ok (.ineg, 1) := by
  rw [sfx_v] at h
  obtain ⟨x, t, e, hx⟩ := w1_v (v := 116) h
  exact dk (v := 116) rfl (by rw [U_ok e, hx]) rfl
theorem o108 {c : ByteArray} {pc : Nat} (h : w1 (sfx c.data.toList pc) = 109) : decode c pc = .ok (.idiv, 1) := by
  rw [sfx_v] at h
  obtain ⟨x, t, e, hx⟩ := w1_v (v := 108) h
  exact dk (v := 108) rfl (by rw [U_ok e, hx]) rfl
theorem o112 {c : ByteArray} {pc : Nat} (h : w1 (sfx c.data.toList pc) = 113) : decode c pc = .ok (.irem, 1) := by
  rw [sfx_v] at h
  obtain ⟨x, t, e, hx⟩ := w1_v (v := 112) h
  exact dk (v := 112) rfl (by rw [U_ok e, hx]) rfl
theorem o145 {c : ByteArray} {pc : Nat} (h : w1 (sfx c.data.toList pc) = 146) : decode c pc = .ok (.i2b, 1) := by
  rw [sfx_v] at h
  obtain ⟨x, t, e, hx⟩ := w1_v (v := 145) h
  exact dk (v := 145) rfl (by rw [U_ok e, hx]) rfl
theorem o59 {c : ByteArray} {pc : Nat} (h : w1 (sfx c.data.toList pc) = 60) : decode c pc = .ok (.istore_n 0, 1) := by
  rw [sfx_v] at h
  obtain ⟨x, t, e, hx⟩ := w1_v (v := 59) h
  exact dk (v := 59) rfl (by rw [U_ok e, hx]) rfl
theorem o178 {c : ByteArray} {pc : Nat} {n : Nat} (hn : n < 65536) (h : w3 (sfx c.data.toList pc) = 179 + 512 * (n / 256 + 1 + 512 * (n % 256 + 1))) : decode c pc = .ok (.getstatic n, 3) := by
  rw [sfx_v] at h
  obtain ⟨x, y, w, t, e, hx, hy, hw⟩ := w3_v (v := 178) (a := n / 256) (b := n % 256) (by decide) (by omega) h
  have h2 : (Jvm.ClassFile.Reader.u2 : Jvm.ClassFile.Decoder Nat) c (pc + 1) = .ok (n, pc + 3) := by
    rw [U2_ok (dtl e), hy, hw]
    exact congrArg (fun q => Except.ok (q, pc + 3)) (by omega)
  exact dk (v := 178) rfl (by rw [U_ok e, hx]) ((bnd h2).trans rfl)
theorem o87 {c : ByteArray} {pc : Nat} (h : w1 (sfx c.data.toList pc) = 88) : decode c pc = .ok (.pop, 1) := by
  rw [sfx_v] at h
  obtain ⟨x, t, e, hx⟩ := w1_v (v := 87) h
  exact dk (v := 87) rfl (by rw [U_ok e, hx]) rfl
theorem o146 {c : ByteArray} {pc : Nat} (h : w1 (sfx c.data.toList pc) = 147) : decode c pc = .ok (.i2c, 1) := by
  rw [sfx_v] at h
  obtain ⟨x, t, e, hx⟩ := w1_v (v := 146) h
  exact dk (v := 146) rfl (by rw [U_ok e, hx]) rfl
theorem o192 {c : ByteArray} {pc : Nat} {n : Nat} (hn : n < 65536) (h : w3 (sfx c.data.toList pc) = 193 + 512 * (n / 256 + 1 + 512 * (n % 256 + 1))) : decode c pc = .ok (.checkcast n, 3) := by
  rw [sfx_v] at h
  obtain ⟨x, y, w, t, e, hx, hy, hw⟩ := w3_v (v := 192) (a := n / 256) (b := n % 256) (by decide) (by omega) h
  have h2 : (Jvm.ClassFile.Reader.u2 : Jvm.ClassFile.Decoder Nat) c (pc + 1) = .ok (n, pc + 3) := by
    rw [U2_ok (dtl e), hy, hw]
    exact congrArg (fun q => Except.ok (q, pc + 3)) (by omega)
  exact dk (v := 192) rfl (by rw [U_ok e, hx]) ((bnd h2).trans rfl)
theorem o88 {c : ByteArray} {pc : Nat} (h : w1 (sfx c.data.toList pc) = 89) : decode c pc = .ok (.pop2, 1) := by
  rw [sfx_v] at h
  obtain ⟨x, t, e, hx⟩ := w1_v (v := 88) h
  exact dk (v := 88) rfl (by rw [U_ok e, hx]) rfl
