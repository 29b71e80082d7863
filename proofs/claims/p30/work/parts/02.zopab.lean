theorem o80 {c : ByteArray} {pc : Nat} (h : w1 (sfx c.data.toList pc) = 81) : decode c pc = .ok (.lastore, 1) := by
  rw [sfx_v] at h
  obtain ⟨x, t, e, hx⟩ := w1_v (v := 80) h
  exact dk (v := 80) rfl (by rw [U_ok e, hx]) rfl
theorem o160 {c : ByteArray} {pc : Nat} {z : Int} (n : Nat) (hn : n < 65536) (h : w3 (sfx c.data.toList pc) = 161 + 512 * (n / 256 + 1 + 512 * (n % 256 + 1)) ∧ Jvm.ClassFile.Reader.signed 16 n = z) : decode c pc = .ok (.if_icmp .ne z, 3) := by
  obtain ⟨h, hz⟩ := h
  rw [sfx_v] at h
  obtain ⟨x, y, w, t, e, hx, hy, hw⟩ := w3_v (v := 160) (a := n / 256) (b := n % 256) (by decide) (by omega) h
  have h2 : (Jvm.ClassFile.Reader.u2 : Jvm.ClassFile.Decoder Nat) c (pc + 1) = .ok (n, pc + 3) := by
    rw [U2_ok (dtl e), hy, hw]
    exact congrArg (fun q => Except.ok (q, pc + 3)) (by omega)
  have h3 : (Jvm.ClassFile.Reader.s2 : Jvm.ClassFile.Decoder Int) c (pc + 1) = .ok (z, pc + 3) := by rw [← hz]; exact mpd h2
  exact dk (v := 160) rfl (by rw [U_ok e, hx]) ((bnd h3).trans rfl)
theorem o10 {c : ByteArray} {pc : Nat} (h : w1 (sfx c.data.toList pc) = 11) : decode c pc = .ok (.lconst 1, 1) := by
  rw [sfx_v] at h
  obtain ⟨x, t, e, hx⟩ := w1_v (v := 10) h
  exact dk (v := 10) rfl (by rw [U_ok e, hx]) rfl
theorem o101 {c : ByteArray} {pc : Nat} (h : w1 (sfx c.data.toList pc) = 102) : decode c pc = .ok (.lsub, 1) := by
  rw [sfx_v] at h
  obtain ⟨x, t, e, hx⟩ := w1_v (v := 101) h
  exact dk (v := 101) rfl (by rw [U_ok e, hx]) rfl
theorem o154 {c : ByteArray} {pc : Nat} {z : Int} (n : Nat) (hn : n < 65536) (h : w3 (sfx c.data.toList pc) = 155 + 512 * (n / 256 + 1 + 512 * (n % 256 + 1)) ∧ Jvm.ClassFile.Reader.signed 16 n = z) : decode c pc = .ok (.ifCond .ne z, 3) := by
  obtain ⟨h, hz⟩ := h
  rw [sfx_v] at h
  obtain ⟨x, y, w, t, e, hx, hy, hw⟩ := w3_v (v := 154) (a := n / 256) (b := n % 256) (by decide) (by omega) h
  have h2 : (Jvm.ClassFile.Reader.u2 : Jvm.ClassFile.Decoder Nat) c (pc + 1) = .ok (n, pc + 3) := by
    rw [U2_ok (dtl e), hy, hw]
    exact congrArg (fun q => Except.ok (q, pc + 3)) (by omega)
  have h3 : (Jvm.ClassFile.Reader.s2 : Jvm.ClassFile.Decoder Int) c (pc + 1) = .ok (z, pc + 3) := by rw [← hz]; exact mpd h2
  exact dk (v := 154) rfl (by rw [U_ok e, hx]) ((bnd h3).trans rfl)
theorem o66 {c : ByteArray} {pc : Nat} (h : w1 (sfx c.data.toList pc) = 67) : decode c pc = .ok (.lstore_n 3, 1) := by
  rw [sfx_v] at h
  obtain ⟨x, t, e, hx⟩ := w1_v (v := 66) h
  exact dk (v := 66) rfl (by rw [U_ok e, hx]) rfl
theorem o27 {c : ByteArray} {pc : Nat} (h : w1 (sfx c.data.toList pc) = 28) : decode c pc = .ok (.iload_n 1, 1) := by
  rw [sfx_v] at h
  obtain ⟨x, t, e, hx⟩ := w1_v (v := 27) h
  exact dk (v := 27) rfl (by rw [U_ok e, hx]) rfl
theorem o33 {c : ByteArray} {pc : Nat} (h : w1 (sfx c.data.toList pc) = 34) : decode c pc = .ok (.lload_n 3, 1) := by
  rw [sfx_v] at h
  obtain ⟨x, t, e, hx⟩ := w1_v (v := 33) h
  exact dk (v := 33) rfl (by rw [U_ok e, hx]) rfl
theorem o97 {c : ByteArray} {pc : Nat} (h : w1 (sfx c.data.toList pc) = 98) : decode c pc = .ok (.ladd, 1) := by
  rw [sfx_v] at h
  obtain ⟨x, t, e, hx⟩ := w1_v (v := 97) h
  exact dk (v := 97) rfl (by rw [U_ok e, hx]) rfl
theorem o105 {c : ByteArray} {pc : Nat} (h : w1 (sfx c.data.toList pc) = 106) : decode c pc = .ok (.lmul, 1) := by
  rw [sfx_v] at h
  obtain ⟨x, t, e, hx⟩ := w1_v (v := 105) h
  exact dk (v := 105) rfl (by rw [U_ok e, hx]) rfl
theorem o109 {c : ByteArray} {pc : Nat} (h : w1 (sfx c.data.toList pc) = 110) : decode c pc = .ok (.ldiv, 1) := by
  rw [sfx_v] at h
  obtain ⟨x, t, e, hx⟩ := w1_v (v := 109) h
  exact dk (v := 109) rfl (by rw [U_ok e, hx]) rfl
theorem o113 {c : ByteArray} {pc : Nat} (h : w1 (sfx c.data.toList pc) = 114) : decode c pc = .ok (.lrem, 1) := by
  rw [sfx_v] at h
  obtain ⟨x, t, e, hx⟩ := w1_v (v := 113) h
  exact dk (v := 113) rfl (by rw [U_ok e, hx]) rfl
theorem o158 {c : ByteArray} {pc : Nat} {z : Int} (n : Nat) (hn : n < 65536) (h : w3 (sfx c.data.toList pc) = 159 + 512 * (n / 256 + 1 + 512 * (n % 256 + 1)) ∧ Jvm.ClassFile.Reader.signed 16 n = z) : decode c pc = .ok (.ifCond .le z, 3) := by
  obtain ⟨h, hz⟩ := h
  rw [sfx_v] at h
  obtain ⟨x, y, w, t, e, hx, hy, hw⟩ := w3_v (v := 158) (a := n / 256) (b := n % 256) (by decide) (by omega) h
  have h2 : (Jvm.ClassFile.Reader.u2 : Jvm.ClassFile.Decoder Nat) c (pc + 1) = .ok (n, pc + 3) := by
    rw [U2_ok (dtl e), hy, hw]
    exact congrArg (fun q => Except.ok (q, pc + 3)) (by omega)
  have h3 : (Jvm.ClassFile.Reader.s2 : Jvm.ClassFile.Decoder Int) c (pc + 1) = .ok (z, pc + 3) := by rw [← hz]; exact mpd h2
  exact dk (v := 158) rfl (by rw [U_ok e, hx]) ((bnd h3).trans rfl)
theorem o20 {c : ByteArray} {pc : Nat} {n : Nat} (hn : n < 65536) (h : w3 (sfx c.data.toList pc) = 21 + 512 * (n / 256 + 1 + 512 * (n % 256 + 1))) : decode c pc = .ok (.ldc2_w n, 3) := by
  rw [sfx_v] at h
  obtain ⟨x, y, w, t, e, hx, hy, hw⟩ := w3_v (v := 20) (a := n / 256) (b := n % 256) (by decide) (by omega) h
  have h2 : (Jvm.ClassFile.Reader.u2 : Jvm.ClassFile.Decoder Nat) c (pc + 1) = .ok (n, pc + 3) := by
    rw [U2_ok (dtl e), hy, hw]
    exact congrArg (fun q => Except.ok (q, pc + 3)) (by omega)
  exact dk (v := 20) rfl (by rw [U_ok e, hx]) ((bnd h2).trans rfl)
theorem o157 {c : ByteArray} {pc : Nat} {z : Int} (n : Nat) (hn : n < 65536) (h : w3 (sfx c.data.toList pc) = 158 + 512 * (n / 256 + 1 + 512 * (n % 256 + 1)) ∧ Jvm.ClassFile.Reader.signed 16 n = z) : decode c pc = .ok (.ifCond .gt z, 3) := by
  obtain ⟨h, hz⟩ := h
  rw [sfx_v] at h
  obtain ⟨x, y, w, t, e, hx, hy, hw⟩ := w3_v (v := 157) (a := n / 256) (b := n % 256) (by decide) (by omega) h
  have h2 : (Jvm.ClassFile.Reader.u2 : Jvm.ClassFile.Decoder Nat) c (pc + 1) = .ok (n, pc + 3) := by
    rw [U2_ok (dtl e), hy, hw]
    exact congrArg (fun q => Except.ok (q, pc + 3)) (by omega)
  have h3 : (Jvm.ClassFile.Reader.s2 : Jvm.ClassFile.Decoder Int) c (pc + 1) = .ok (z, pc + 3) := by rw [← hz]; exact mpd h2
  exact dk (v := 157) rfl (by rw [U_ok e, hx]) ((bnd h3).trans rfl)
theorem o62 {c : ByteArray} {pc : Nat} (h : w1 (sfx c.data.toList pc) = 63) : decode c pc = .ok (.istore_n 3, 1) := by
  rw [sfx_v] at h
  obtain ⟨x, t, e, hx⟩ := w1_v (v := 62) h
  exact dk (v := 62) rfl (by rw [U_ok e, hx]) rfl
theorem o122 {c : ByteArray} {pc : Nat} (h : w1 (sfx c.data.toList pc) = 123) : decode c pc = .ok (.ishr, 1) := by
  rw [sfx_v] at h
  obtain ⟨x, t, e, hx⟩ := w1_v (v := 122) h
  exact dk (v := 122) rfl (by rw [U_ok e, hx]) rfl
theorem o126 {c : ByteArray} {pc : Nat} (h : w1 (sfx c.data.toList pc) = 127) : decode c pc = .ok (.iand, 1) := by
  rw [sfx_v] at h
  obtain ⟨x, t, e, hx⟩ := w1_v (v := 126) h
  exact dk (v := 126) rfl (by rw [U_ok e, hx]) rfl
theorem o130 {c : ByteArray} {pc : Nat} (h : w1 (sfx c.data.toList pc) = 131) : decode c pc = .ok (.ixor, 1) := by
  rw [sfx_v] at h
  obtain ⟨x, t, e, hx⟩ := w1_v (v := 130) h
  exact dk (v := 130) rfl (by rw [U_ok e, hx]) rfl
theorem o79 {c : ByteArray} {pc : Nat} (h : w1 (sfx c.data.toList pc) = 80) : decode c pc = .ok (.iastore, 1) := by
  rw [sfx_v] at h
  obtain ⟨x, t, e, hx⟩ := w1_v (v := 79) h
  exact dk (v := 79) rfl (by rw [U_ok e, hx]) rfl
theorem o6 {c : ByteArray} {pc : Nat} (h : w1 (sfx c.data.toList pc) = 7) : decode c pc = .ok (.iconst 3, 1) := by
  rw [sfx_v] at h
  obtain ⟨x, t, e, hx⟩ := w1_v (v := 6) h
  exact dk (v := 6) rfl (by rw [U_ok e, hx]) rfl
theorem o7 {c : ByteArray} {pc : Nat} (h : w1 (sfx c.data.toList pc) = 8) : decode c pc = .ok (.iconst 4, 1) := by
  rw [sfx_v] at h
  obtain ⟨x, t, e, hx⟩ := w1_v (v := 7) h
  exact dk (v := 7) rfl (by rw [U_ok e, hx]) rfl
theorem o8 {c : ByteArray} {pc : Nat} (h : w1 (sfx c.data.toList pc) = 9) : decode c pc = .ok (.iconst 5, 1) := by
  rw [sfx_v] at h
  obtain ⟨x, t, e, hx⟩ := w1_v (v := 8) h
  exact dk (v := 8) rfl (by rw [U_ok e, hx]) rfl
theorem o17 {c : ByteArray} {pc : Nat} {z : Int} (n : Nat) (hn : n < 65536) (h : w3 (sfx c.data.toList pc) = 18 + 512 * (n / 256 + 1 + 512 * (n % 256 + 1)) ∧ Jvm.ClassFile.Reader.signed 16 n = z) : decode c pc = .ok (.sipush z, 3) := by
  obtain ⟨h, hz⟩ := h
  rw [sfx_v] at h
  obtain ⟨x, y, w, t, e, hx, hy, hw⟩ := w3_v (v := 17) (a := n / 256) (b := n % 256) (by decide) (by omega) h
  have h2 : (Jvm.ClassFile.Reader.u2 : Jvm.ClassFile.Decoder Nat) c (pc + 1) = .ok (n, pc + 3) := by
    rw [U2_ok (dtl e), hy, hw]
    exact congrArg (fun q => Except.ok (q, pc + 3)) (by omega)
  have h3 : (Jvm.ClassFile.Reader.s2 : Jvm.ClassFile.Decoder Int) c (pc + 1) = .ok (z, pc + 3) := by rw [← hz]; exact mpd h2
  exact dk (v := 17) rfl (by rw [U_ok e, hx]) ((bnd h3).trans rfl)
theorem o189 {c : ByteArray} {pc : Nat} {n : Nat} (hn : n < 65536) (h : w3 (sfx c.data.toList pc) = 190 + 512 * (n / 256 + 1 + 512 * (n % 256 + 1))) : decode c pc = .ok (.anewarray n, 3) := by
  rw [sfx_v] at h
  obtain ⟨x, y, w, t, e, hx, hy, hw⟩ := w3_v (v := 189) (a := n / 256) (b := n % 256) (by decide) (by omega) h
  have h2 : (Jvm.ClassFile.Reader.u2 : Jvm.ClassFile.Decoder Nat) c (pc + 1) = .ok (n, pc + 3) := by
    rw [U2_ok (dtl e), hy, hw]
    exact congrArg (fun q => Except.ok (q, pc + 3)) (by omega)
  exact dk (v := 189) rfl (by rw [U_ok e, hx]) ((bnd h2).trans rfl)
theorem o120 {c : ByteArray} {pc : Nat} (h : w1 (sfx c.data.toList pc) = 121) : decode c pc = .ok (.ishl, 1) := by
  rw [sfx_v] at h
  obtain ⟨x, t, e, hx⟩ := w1_v (v := 120) h
  exact dk (v := 120) rfl (by rw [U_ok e, hx]) rfl
theorem o163 {c : ByteArray} {pc : Nat} {z : Int} (n : Nat) (hn : n < 65536) (h : w3 (sfx c.data.toList pc) = 164 + 512 * (n / 256 + 1 + 512 * (n % 256 + 1)) ∧ Jvm.ClassFile.Reader.signed 16 n = z) : decode c pc = .ok (.if_icmp .gt z, 3) := by
  obtain ⟨h, hz⟩ := h
  rw [sfx_v] at h
  obtain ⟨x, y, w, t, e, hx, hy, hw⟩ := w3_v (v := 163) (a := n / 256) (b := n % 256) (by decide) (by omega) h
  have h2 : (Jvm.ClassFile.Reader.u2 : Jvm.ClassFile.Decoder Nat) c (pc + 1) = .ok (n, pc + 3) := by
    rw [U2_ok (dtl e), hy, hw]
    exact congrArg (fun q => Except.ok (q, pc + 3)) (by omega)
  have h3 : (Jvm.ClassFile.Reader.s2 : Jvm.ClassFile.Decoder Int) c (pc + 1) = .ok (z, pc + 3) := by rw [← hz]; exact mpd h2
  exact dk (v := 163) rfl (by rw [U_ok e, hx]) ((bnd h3).trans rfl)
theorem o60 {c : ByteArray} {pc : Nat} (h : w1 (sfx c.data.toList pc) = 61) : decode c pc = .ok (.istore_n 1, 1) := by
  rw [sfx_v] at h
  obtain ⟨x, t, e, hx⟩ := w1_v (v := 60) h
  exact dk (v := 60) rfl (by rw [U_ok e, hx]) rfl
theorem o61 {c : ByteArray} {pc : Nat} (h : w1 (sfx c.data.toList pc) = 62) : decode c pc = .ok (.istore_n 2, 1) := by
  rw [sfx_v] at h
  obtain ⟨x, t, e, hx⟩ := w1_v (v := 61) h
  exact dk (v := 61) rfl (by rw [U_ok e, hx]) rfl
theorem o128 {c : ByteArray} {pc : Nat} (h : w1 (sfx c.data.toList pc) = 129) : decode c pc = .ok (.ior, 1) := by
  rw [sfx_v] at h
  obtain ⟨x, t, e, hx⟩ := w1_v (v := 128) h
  exact dk (v := 128) rfl (by rw [U_ok e, hx]) rfl
theorem o50 {c : ByteArray} {pc : Nat} (h : w1 (sfx c.data.toList pc) = 51) : decode c pc = .ok (.aaload, 1) := by
  rw [sfx_v] at h
  obtain ⟨x, t, e, hx⟩ := w1_v (v := 50) h
  exact dk (v := 50) rfl (by rw [U_ok e, hx]) rfl
theorem o83 {c : ByteArray} {pc : Nat} (h : w1 (sfx c.data.toList pc) = 84) : decode c pc = .ok (.aastore, 1) := by
  rw [sfx_v] at h
  obtain ⟨x, t, e, hx⟩ := w1_v (v := 83) h
  exact dk (v := 83) rfl (by rw [U_ok e, hx]) rfl
theorem o187 {c : ByteArray} {pc : Nat} {n : Nat} (hn : n < 65536) (h : w3 (sfx c.data.toList pc) = 188 + 512 * (n / 256 + 1 + 512 * (n % 256 + 1))) : decode c pc = .ok (.new n, 3) := by
  rw [sfx_v] at h
  obtain ⟨x, y, w, t, e, hx, hy, hw⟩ := w3_v (v := 187) (a := n / 256) (b := n % 256) (by decide) (by omega) h
  have h2 : (Jvm.ClassFile.Reader.u2 : Jvm.ClassFile.Decoder Nat) c (pc + 1) = .ok (n, pc + 3) := by
    rw [U2_ok (dtl e), hy, hw]
    exact congrArg (fun q => Except.ok (q, pc + 3)) (by omega)
  exact dk (v := 187) rfl (by rw [U_ok e, hx]) ((bnd h2).trans rfl)
theorem o89 {c : ByteArray} {pc : Nat} (h : w1 (sfx c.data.toList pc) = 90) : decode c pc = .ok (.dup, 1) := by
  rw [sfx_v] at h
  obtain ⟨x, t, e, hx⟩ := w1_v (v := 89) h
  exact dk (v := 89) rfl (by rw [U_ok e, hx]) rfl
theorem o26 {c : ByteArray} {pc : Nat} (h : w1 (sfx c.data.toList pc) = 27) : decode c pc = .ok (.iload_n 0, 1) := by
  rw [sfx_v] at h
  obtain ⟨x, t, e, hx⟩ := w1_v (v := 26) h
  exact dk (v := 26) rfl (by rw [U_ok e, hx]) rfl
theorem o164 {c : ByteArray} {pc : Nat} {z : Int} (n : Nat) (hn : n < 65536) (h : w3 (sfx c.data.toList pc) = 165 + 512 * (n / 256 + 1 + 512 * (n % 256 + 1)) ∧ Jvm.ClassFile.Reader.signed 16 n = z) : decode c pc = .ok (.if_icmp .le z, 3) := by
  obtain ⟨h, hz⟩ := h
  rw [sfx_v] at h
  obtain ⟨x, y, w, t, e, hx, hy, hw⟩ := w3_v (v := 164) (a := n / 256) (b := n % 256) (by decide) (by omega) h
  have h2 : (Jvm.ClassFile.Reader.u2 : Jvm.ClassFile.Decoder Nat) c (pc + 1) = .ok (n, pc + 3) := by
    rw [U2_ok (dtl e), hy, hw]
    exact congrArg (fun q => Except.ok (q, pc + 3)) (by omega)
  have h3 : (Jvm.ClassFile.Reader.s2 : Jvm.ClassFile.Decoder Int) c (pc + 1) = .ok (z, pc + 3) := by rw [← hz]; exact mpd h2
  exact dk (v := 164) rfl (by rw [U_ok e, hx]) ((bnd h3).trans rfl)
theorem o51 {c : ByteArray} {pc : Nat} (h : w1 (sfx c.data.toList pc) = 52) : decode c pc = .ok (.baload, 1) := by
  rw [sfx_v] at h
  obtain ⟨x, t, e, hx⟩ := w1_v (v := 51) h
  exact dk (v := 51) rfl (by rw [U_ok e, hx]) rfl
theorem o84 {c : ByteArray} {pc : Nat} (h : w1 (sfx c.data.toList pc) = 85) : decode c pc = .ok (.bastore, 1) := by
  rw [sfx_v] at h
  obtain ⟨x, t, e, hx⟩ := w1_v (v := 84) h
  exact dk (v := 84) rfl (by rw [U_ok e, hx]) rfl
theorem o25 {c : ByteArray} {pc : Nat} {n : Nat} (h : w2 (sfx c.data.toList pc) = 26 + 512 * (n + 1)) : decode c pc = .ok (.aload n, 2) := by
  rw [sfx_v] at h
  obtain ⟨x, y, t, e, hx, hy⟩ := w2_v (v := 25) (a := n) (by decide) h
  have h2 : (Jvm.ClassFile.Reader.u1 : Jvm.ClassFile.Decoder Nat) c (pc + 1) = .ok (n, pc + 2) := by rw [U_ok (dtl e), hy]
  exact dk (v := 25) rfl (by rw [U_ok e, hx]) ((bnd h2).trans rfl)
theorem o18 {c : ByteArray} {pc : Nat} {n : Nat} (h : w2 (sfx c.data.toList pc) = 19 + 512 * (n + 1)) : decode c pc = .ok (.ldc n, 2) := by
  rw [sfx_v] at h
  obtain ⟨x, y, t, e, hx, hy⟩ := w2_v (v := 18) (a := n) (by decide) h
  have h2 : (Jvm.ClassFile.Reader.u1 : Jvm.ClassFile.Decoder Nat) c (pc + 1) = .ok (n, pc + 2) := by rw [U_ok (dtl e), hy]
  exact dk (v := 18) rfl (by rw [U_ok e, hx]) ((bnd h2).trans rfl)
theorem o92 {c : ByteArray} {pc : Nat} (h : w1 (sfx c.data.toList pc) = 93) : decode c pc = .ok (.dup2, 1) := by
  rw [sfx_v] at h
  obtain ⟨x, t, e, hx⟩ := w1_v (v := 92) h
  exact dk (v := 92) rfl (by rw [U_ok e, hx]) rfl
theorem o64 {c : ByteArray} {pc : Nat} (h : w1 (sfx c.data.toList pc) = 65) : decode c pc = .ok (.lstore_n 1, 1) := by
  rw [sfx_v] at h
  obtain ⟨x, t, e, hx⟩ := w1_v (v := 64) h
  exact dk (v := 64) rfl (by rw [U_ok e, hx]) rfl
theorem o31 {c : ByteArray} {pc : Nat} (h : w1 (sfx c.data.toList pc) = 32) : decode c pc = .ok (.lload_n 1, 1) := by
  rw [sfx_v] at h
  obtain ⟨x, t, e, hx⟩ := w1_v (v := 31) h
  exact dk (v := 31) rfl (by rw [U_ok e, hx]) rfl
theorem o173 {c : ByteArray} {pc : Nat} (h : w1 (sfx c.data.toList pc) = 174) : decode c pc = .ok (.lreturn, 1) := by
  rw [sfx_v] at h
  obtain ⟨x, t, e, hx⟩ := w1_v (v := 173) h
  exact dk (v := 173) rfl (by rw [U_ok e, hx]) rfl
theorem o32 {c : ByteArray} {pc : Nat} (h : w1 (sfx c.data.toList pc) = 33) : decode c pc = .ok (.lload_n 2, 1) := by
  rw [sfx_v] at h
  obtain ⟨x, t, e, hx⟩ := w1_v (v := 32) h
  exact dk (v := 32) rfl (by rw [U_ok e, hx]) rfl
theorem o30 {c : ByteArray} {pc : Nat} (h : w1 (sfx c.data.toList pc) = 31) : decode c pc = .ok (.lload_n 0, 1) := by
  rw [sfx_v] at h
  obtain ⟨x, t, e, hx⟩ := w1_v (v := 30) h
  exact dk (v := 30) rfl (by rw [U_ok e, hx]) rfl
theorem o63 {c : ByteArray} {pc : Nat} (h : w1 (sfx c.data.toList pc) = 64) : decode c pc = .ok (.lstore_n 0, 1) := by
  rw [sfx_v] at h
  obtain ⟨x, t, e, hx⟩ := w1_v (v := 63) h
  exact dk (v := 63) rfl (by rw [U_ok e, hx]) rfl
theorem o65 {c : ByteArray} {pc : Nat} (h : w1 (sfx c.data.toList pc) = 66) : decode c pc = .ok (.lstore_n 2, 1) := by
  rw [sfx_v] at h
  obtain ⟨x, t, e, hx⟩ := w1_v (v := 65) h
  exact dk (v := 65) rfl (by rw [U_ok e, hx]) rfl
theorem o1 {c : ByteArray} {pc : Nat} (h : w1 (sfx c.data.toList pc) = 2) : decode c pc = .ok (.aconst_null, 1) := by
  rw [sfx_v] at h
  obtain ⟨x, t, e, hx⟩ := w1_v (v := 1) h
  exact dk (v := 1) rfl (by rw [U_ok e, hx]) rfl
theorem o176 {c : ByteArray} {pc : Nat} (h : w1 (sfx c.data.toList pc) = 177) : decode c pc = .ok (.areturn, 1) := by
  rw [sfx_v] at h
  obtain ⟨x, t, e, hx⟩ := w1_v (v := 176) h
  exact dk (v := 176) rfl (by rw [U_ok e, hx]) rfl
theorem o124 {c : ByteArray} {pc : Nat} (h : w1 (sfx c.data.toList pc) = 125) : decode c pc = .ok (.iushr, 1) := by
  rw [sfx_v] at h
  obtain ⟨x, t, e, hx⟩ := w1_v (v := 124) h
  exact dk (v := 124) rfl (by rw [U_ok e, hx]) rfl
theorem o76 {c : ByteArray} {pc : Nat} (h : w1 (sfx c.data.toList pc) = 77) : decode c pc = .ok (.astore_n 1, 1) := by
  rw [sfx_v] at h
  obtain ⟨x, t, e, hx⟩ := w1_v (v := 76) h
  exact dk (v := 76) rfl (by rw [U_ok e, hx]) rfl
theorem o199 {c : ByteArray} {pc : Nat} {z : Int} (n : Nat) (hn : n < 65536) (h : w3 (sfx c.data.toList pc) = 200 + 512 * (n / 256 + 1 + 512 * (n % 256 + 1)) ∧ Jvm.ClassFile.Reader.signed 16 n = z) : decode c pc = .ok (.ifnonnull z, 3) := by
  obtain ⟨h, hz⟩ := h
  rw [sfx_v] at h
  obtain ⟨x, y, w, t, e, hx, hy, hw⟩ := w3_v (v := 199) (a := n / 256) (b := n % 256) (by decide) (by omega) h
  have h2 : (Jvm.ClassFile.Reader.u2 : Jvm.ClassFile.Decoder Nat) c (pc + 1) = .ok (n, pc + 3) := by
    rw [U2_ok (dtl e), hy, hw]
    exact congrArg (fun q => Except.ok (q, pc + 3)) (by omega)
  have h3 : (Jvm.ClassFile.Reader.s2 : Jvm.ClassFile.Decoder Int) c (pc + 1) = .ok (z, pc + 3) := by rw [← hz]; exact mpd h2
  exact dk (v := 199) rfl (by rw [U_ok e, hx]) ((bnd h3).trans rfl)
theorem o77 {c : ByteArray} {pc : Nat} (h : w1 (sfx c.data.toList pc) = 78) : decode c pc = .ok (.astore_n 2, 1) := by
  rw [sfx_v] at h
  obtain ⟨x, t, e, hx⟩ := w1_v (v := 77) h
  exact dk (v := 77) rfl (by rw [U_ok e, hx]) rfl
theorem o19 {c : ByteArray} {pc : Nat} {n : Nat} (hn : n < 65536) (h : w3 (sfx c.data.toList pc) = 20 + 512 * (n / 256 + 1 + 512 * (n % 256 + 1))) : decode c pc = .ok (.ldc_w n, 3) := by
  rw [sfx_v] at h
  obtain ⟨x, y, w, t, e, hx, hy, hw⟩ := w3_v (v := 19) (a := n / 256) (b := n % 256) (by decide) (by omega) h
  have h2 : (Jvm.ClassFile.Reader.u2 : Jvm.ClassFile.Decoder Nat) c (pc + 1) = .ok (n, pc + 3) := by
    rw [U2_ok (dtl e), hy, hw]
    exact congrArg (fun q => Except.ok (q, pc + 3)) (by omega)
  exact dk (v := 19) rfl (by rw [U_ok e, hx]) ((bnd h2).trans rfl)
theorem o116 {c : ByteArray} {pc : Nat} (h : w1 (sfx c.data.toList pc) = 117) : decode c pc = .ok (.ineg, 1) := by
  rw [sfx_v] at h
  obtain ⟨x, t, e, hx⟩ := w1_v (v := 116) h
  exact dk (v := 116) rfl (by rw [U_ok e, hx]) rfl
theorem o108 {c : ByteArray} {pc : Nat} (h : w1 (sfx c.data.toList pc) = 109) : decode c pc = .ok (.idiv, 1) := by
  rw [sfx_v] at h
  obtain ⟨x, t, e, hx⟩ := w1_v (v := 108) h
  exact dk (v := 108) rfl (by rw [U_ok e, hx]) rfl
theorem o112 {c : ByteArray} {pc : Nat} (h : w1 (sfx c.data.toList pc) = 113) : decode c pc = .ok (.irem, 1) := by
  rw [sfx_v] at h
  obtain ⟨x, t, e, hx⟩ := w1_v (v := 112) h
  exact dk (v := 112) rfl (by rw [U_ok e, hx]) rfl
theorem o145 {c : ByteArray} {pc : Nat} (h : w1 (sfx c.data.toList pc) = 146) : decode c pc = .ok (.i2b, 1) := by
  rw [sfx_v] at h
  obtain ⟨x, t, e, hx⟩ := w1_v (v := 145) h
  exact dk (v := 145) rfl (by rw [U_ok e, hx]) rfl
theorem o59 {c : ByteArray} {pc : Nat} (h : w1 (sfx c.data.toList pc) = 60) : decode c pc = .ok (.istore_n 0, 1) := by
  rw [sfx_v] at h
  obtain ⟨x, t, e, hx⟩ := w1_v (v := 59) h
  exact dk (v := 59) rfl (by rw [U_ok e, hx]) rfl
theorem o178 {c : ByteArray} {pc : Nat} {n : Nat} (hn : n < 65536) (h : w3 (sfx c.data.toList pc) = 179 + 512 * (n / 256 + 1 + 512 * (n % 256 + 1))) : decode c pc = .ok (.getstatic n, 3) := by
  rw [sfx_v] at h
  obtain ⟨x, y, w, t, e, hx, hy, hw⟩ := w3_v (v := 178) (a := n / 256) (b := n % 256) (by decide) (by omega) h
  have h2 : (Jvm.ClassFile.Reader.u2 : Jvm.ClassFile.Decoder Nat) c (pc + 1) = .ok (n, pc + 3) := by
    rw [U2_ok (dtl e), hy, hw]
    exact congrArg (fun q => Except.ok (q, pc + 3)) (by omega)
  exact dk (v := 178) rfl (by rw [U_ok e, hx]) ((bnd h2).trans rfl)
theorem o87 {c : ByteArray} {pc : Nat} (h : w1 (sfx c.data.toList pc) = 88) : decode c pc = .ok (.pop, 1) := by
  rw [sfx_v] at h
  obtain ⟨x, t, e, hx⟩ := w1_v (v := 87) h
  exact dk (v := 87) rfl (by rw [U_ok e, hx]) rfl
theorem o146 {c : ByteArray} {pc : Nat} (h : w1 (sfx c.data.toList pc) = 147) : decode c pc = .ok (.i2c, 1) := by
  rw [sfx_v] at h
  obtain ⟨x, t, e, hx⟩ := w1_v (v := 146) h
  exact dk (v := 146) rfl (by rw [U_ok e, hx]) rfl
theorem o192 {c : ByteArray} {pc : Nat} {n : Nat} (hn : n < 65536) (h : w3 (sfx c.data.toList pc) = 193 + 512 * (n / 256 + 1 + 512 * (n % 256 + 1))) : decode c pc = .ok (.checkcast n, 3) := by
  rw [sfx_v] at h
  obtain ⟨x, y, w, t, e, hx, hy, hw⟩ := w3_v (v := 192) (a := n / 256) (b := n % 256) (by decide) (by omega) h
  have h2 : (Jvm.ClassFile.Reader.u2 : Jvm.ClassFile.Decoder Nat) c (pc + 1) = .ok (n, pc + 3) := by
    rw [U2_ok (dtl e), hy, hw]
    exact congrArg (fun q => Except.ok (q, pc + 3)) (by omega)
  exact dk (v := 192) rfl (by rw [U_ok e, hx]) ((bnd h2).trans rfl)
theorem o88 {c : ByteArray} {pc : Nat} (h : w1 (sfx c.data.toList pc) = 89) : decode c pc = .ok (.pop2, 1) := by
  rw [sfx_v] at h
  obtain ⟨x, t, e, hx⟩ := w1_v (v := 88) h
  exact dk (v := 88) rfl (by rw [U_ok e, hx]) rfl
