theorem tw_n1 : Cond.methodLinkNest "LitCoast" 38 ⟨"LitCoast$Asker", "<init>", "()V"⟩ "LitCoast" ∈ lw_tbl := tl_of (aTb_i1 (by rw [te_1]; exact (List.mem_append_right _ (List.mem_append_right _ (List.mem_append_right _ (List.mem_append_right _ (List.mem_append_right _ (List.mem_append_right _ (List.mem_append_right _ (List.mem_append_right _ (List.mem_append_right _ (List.mem_append_right _ (List.mem_append_right _ (List.mem_append_right _ (List.mem_append_right _ (List.mem_append_right _ (List.mem_append_right _ (List.mem_append_right _ (List.mem_append_right _ (List.mem_append_right _ (List.mem_append_right _ (List.mem_append_right _ (List.mem_append_left _ (List.mem_of_getElem? (i := 6) rfl))))))))))))))))))))))))
theorem tw_n2 : Cond.methodLinkNest "LitCoast" 70 ⟨"LitCoast$CodeSearch", "<init>", "()V"⟩ "LitCoast" ∈ lw_tbl := tl_of (aTb_i2 (by rw [te_2]; exact (List.mem_append_right _ (List.mem_append_right _ (List.mem_append_right _ (List.mem_append_right _ (List.mem_append_right _ (List.mem_append_right _ (List.mem_append_left _ (List.mem_of_getElem? (i := 7) rfl))))))))))
theorem st_ref {args : Array Value} {s : State} (hts : ∀ w ∈ lw_tbl, w.before args s = true) : ∀ i : Nat, i < 13 → (Cond.stringRef "LitCoast$LawReader" (strTab.getD i (0, 0, "")).2.1 (strTab.getD i (0, 0, "")).2.2).before args s = true := fun i hi => by
  rcases (show i = 0 ∨ i = 1 ∨ i = 2 ∨ i = 3 ∨ i = 4 ∨ i = 5 ∨ i = 6 ∨ i = 7 ∨ i = 8 ∨ i = 9 ∨ i = 10 ∨ i = 11 ∨ i = 12 by omega) with rfl | rfl | rfl | rfl | rfl | rfl | rfl | rfl | rfl | rfl | rfl | rfl | rfl
  · exact hts _ tw_s0
  · exact hts _ tw_s1
  · exact hts _ tw_s2
  · exact hts _ tw_s3
  · exact hts _ tw_s4
  · exact hts _ tw_s5
  · exact hts _ tw_s6
  · exact hts _ tw_s7
  · exact hts _ tw_s8
  · exact hts _ tw_s9
  · exact hts _ tw_s10
  · exact hts _ tw_s11
  · exact hts _ tw_s12
theorem st_cls {args : Array Value} {s : State} (hT : ∀ w ∈ aTb, w.before args s = true) (k : Nat) : ∃ q : ClassId × (Nat → Nat), ∀ r : vw_C, vwCl[k]? = some r → u_Kn s r.1 r.2.1 r.2.2 q.1 q.2 := by
  by_cases hk : k < 12
  · rcases (show k = 0 ∨ k = 1 ∨ k = 2 ∨ k = 3 ∨ k = 4 ∨ k = 5 ∨ k = 6 ∨ k = 7 ∨ k = 8 ∨ k = 9 ∨ k = 10 ∨ k = 11 by omega) with rfl | rfl | rfl | rfl | rfl | rfl | rfl | rfl | rfl | rfl | rfl | rfl
    · obtain ⟨cC, iS, h⟩ := u_known (N := aN 0) hT cl_0.2.1 (hT _ tb_165)
      exact ⟨(cC, iS), fun r hr => by rw [cl_0.1] at hr; cases hr; exact h⟩
    · obtain ⟨cC, iS, h⟩ := u_known (N := aN 1) hT cl_1.2.1 (hT _ tb_30)
      exact ⟨(cC, iS), fun r hr => by rw [cl_1.1] at hr; cases hr; exact h⟩
    · obtain ⟨cC, iS, h⟩ := u_known (N := aN 2) hT cl_2.2.1 (hT _ tb_294)
      exact ⟨(cC, iS), fun r hr => by rw [cl_2.1] at hr; cases hr; exact h⟩
    · obtain ⟨cC, iS, h⟩ := u_known (N := aN 3) hT cl_3.2.1 (hT _ tb_259)
      exact ⟨(cC, iS), fun r hr => by rw [cl_3.1] at hr; cases hr; exact h⟩
    · obtain ⟨cC, iS, h⟩ := u_known (N := aN 4) hT cl_4.2.1 (hT _ tb_179)
      exact ⟨(cC, iS), fun r hr => by rw [cl_4.1] at hr; cases hr; exact h⟩
    · obtain ⟨cC, iS, h⟩ := u_known (N := aN 5) hT cl_5.2.1 (hT _ tb_185)
      exact ⟨(cC, iS), fun r hr => by rw [cl_5.1] at hr; cases hr; exact h⟩
    · obtain ⟨cC, iS, h⟩ := u_known (N := aN 6) hT cl_6.2.1 (hT _ tb_649)
      exact ⟨(cC, iS), fun r hr => by rw [cl_6.1] at hr; cases hr; exact h⟩
    · obtain ⟨cC, iS, h⟩ := u_known (N := aN 7) hT cl_7.2.1 (hT _ tb_121)
      exact ⟨(cC, iS), fun r hr => by rw [cl_7.1] at hr; cases hr; exact h⟩
    · obtain ⟨cC, iS, h⟩ := u_known (N := aN 8) hT cl_8.2.1 (hT _ tb_246)
      exact ⟨(cC, iS), fun r hr => by rw [cl_8.1] at hr; cases hr; exact h⟩
    · obtain ⟨cC, iS, h⟩ := u_known (N := aN 9) hT cl_9.2.1 (hT _ tb_106)
      exact ⟨(cC, iS), fun r hr => by rw [cl_9.1] at hr; cases hr; exact h⟩
    · obtain ⟨cC, iS, h⟩ := u_known (N := aN 10) hT cl_10.2.1 (hT _ tb_22)
      exact ⟨(cC, iS), fun r hr => by rw [cl_10.1] at hr; cases hr; exact h⟩
    · obtain ⟨cC, iS, h⟩ := u_known (N := aN 11) hT cl_11.2.1 (hT _ tb_1083)
      exact ⟨(cC, iS), fun r hr => by rw [cl_11.1] at hr; cases hr; exact h⟩
  · exact ⟨(0, fun _ => 0), fun r hr => absurd (List.getElem?_eq_some_iff.mp hr).1 (by show ¬ k < 12; exact hk)⟩
theorem st_prim {args : Array Value} {s : State} {ty : FieldType} (h : (Cond.arrayClass ty).before args s = true) : ∃ cA : ClassId, ArrOfT s cA ty ∧ s.vm.findClass ("[" ++ ty.toString) = some cA := by
  obtain ⟨cA, kA, comp, h1, h2, h3⟩ := Cond.arrayClass_spec h
  exact ⟨cA, fun n z => ⟨fun k h => (by cases h), kA, h2, comp, h3⟩, h1⟩
theorem st_obj {args : Array Value} {s : State} {C : String} (h : (Cond.arrayOver (.object C)).before args s = true) : ∃ cA : ClassId, ArrOfT s cA (.object C) ∧ va_RA s cA (.object C) := by
  obtain ⟨comp, cA, kA, h1, -, h2, h3, h4⟩ := Cond.arrayOver_spec h
  exact ⟨cA, fun n z => ⟨fun k h => (by cases h), kA, h2, comp, h3⟩, kA, comp, h2, h3, h1, h4⟩
/-- what holds at the law's entry, in our words -/
theorem st_E {s : State} {b : Nat} (hts : ∀ w ∈ lw_tbl, w.before #[Value.ref b] s = true) (hgv : (Jvm.Cond.and given_1 narrow_1).before #[Value.ref b] s = true) : ∃ E : aEn, E.1 = s.heap.size ∧ E.2.2.2.2.1 300 = b ∧ va_K (E.2.1, E.2.2.1) vwCl (aTys E) s ∧ aStr E s := by
  have hs := flat_of_before _ hgv
  have hT : ∀ w ∈ aTb, w.before #[Value.ref b] s = true := fun w hw => hts w (List.mem_filter.mp hw).1
  have hA : ∀ a : Nat, a < s.heap.size → ¬ (fun q : Nat => s.heap.size ≤ q) a := fun a ha => Nat.not_le.mpr ha
  obtain ⟨adK, adV, hS, hev⟩ := vk_Sof (args := #[Value.ref b]) (s := s) (N := 13) (tm := sTm) (len := strLen) (byt := strByt) (A := fun q => s.heap.size ≤ q) st_len (fun i hi => hs _ (fl_1 i hi)) (fun i hi => hs _ (fl_2 i hi)) (fun i hi => hs _ (fl_3 i hi)) (fun i hi => hs _ (fl_4 i hi)) (fun i hi j hj => hs _ (fl_5 i hi j hj)) (fun i j hi hj hij => if h : i < j then Or.inl (hs _ (fl_6 i j hi hj h)) else Or.inr (hs _ (fl_6 j i hj hi (by omega)))) hA
  have hcs := va_Zof (A := fun q => s.heap.size ≤ q) (hts _ tw_cs) (hT _ tb_14) (va_eqi (hs _ fl_7)) hA
  obtain ⟨t9, hfm⟩ : ∃ t9 : Nat, va_Z "jdk/internal/util/Preconditions" "SIOOBE_FORMATTER" "Ljava/util/function/BiFunction;" .null (fun q => s.heap.size ≤ q) s s.heap ∨ va_Z "jdk/internal/util/Preconditions" "SIOOBE_FORMATTER" "Ljava/util/function/BiFunction;" (.ref t9) (fun q => s.heap.size ≤ q) s s.heap := by
    rcases va_Zqof (A := fun q => s.heap.size ≤ q) (hts _ tw_fm) (hT _ tb_16) (hs _ fl_8) hA with h | ⟨t, h⟩
    · exact ⟨0, Or.inl h⟩
    · exact ⟨t, Or.inr h⟩
  obtain ⟨cl9, hcl⟩ := Classical.axiomOfChoice (st_cls hT)
  obtain ⟨a0, ha0, hb0⟩ := st_prim (hT _ tb_103)
  obtain ⟨a1, ha1, hb1⟩ := st_prim (hT _ tb_177)
  obtain ⟨a2, ha2, hb2⟩ := st_prim (hT _ tb_681)
  obtain ⟨a3, ha3, hb3⟩ := st_prim (hT _ tb_320)
  obtain ⟨a4, ha4, hb4⟩ := st_obj (hts _ tw_ai)
  obtain ⟨a5, ha5, hb5⟩ := st_obj (hts _ tw_ac)
  refine ⟨(s.heap.size, fun k => (cl9 k).1, fun k => (cl9 k).2, fun k => if k = 0 then a0 else if k = 1 then a1 else if k = 2 then a2 else if k = 3 then a3 else if k = 4 then a4 else a5, fun i => if i < 13 then adK i else if i = 200 then t9 else if i = 300 then b else adV (i - 100), fun _ => 0), rfl, rfl, ⟨fun k r hr => hcl k r hr, fun k q hq => ?_⟩, ?_, ?_, hcs, ?_, ?_, ?_, ?_, ?_⟩
  · have hk : k < 6 := (List.getElem?_eq_some_iff.mp hq).1
    rcases (show k = 0 ∨ k = 1 ∨ k = 2 ∨ k = 3 ∨ k = 4 ∨ k = 5 by omega) with rfl | rfl | rfl | rfl | rfl | rfl
    · cases hq; exact ⟨ha0, hb0⟩
    · cases hq; exact ⟨ha1, hb1⟩
    · cases hq; exact ⟨ha2, hb2⟩
    · cases hq; exact ⟨ha3, hb3⟩
    · cases hq; exact ⟨ha4, hb4⟩
    · cases hq; exact ⟨ha5, hb5⟩
  · intro q hq
    obtain ⟨h1, h2⟩ := st_tab q hq
    have h3 := st_ref hts q.1 h2
    have h4 := hev q.1 h2
    unfold sTm at h4
    rw [h1] at h3 h4
    show vk_R "LitCoast$LawReader" q.2.1 q.2.2 (if q.1 < 13 then adK q.1 else if q.1 = 200 then t9 else if q.1 = 300 then b else adV (q.1 - 100)) s
    rw [if_pos h2]
    exact vk_R.of h3 h4
  · refine vk_S_c hS (fun i hi => ?_) (fun i hi => ?_)
    · show (if i < 13 then adK i else if i = 200 then t9 else if i = 300 then b else adV (i - 100)) = adK i
      rw [if_pos hi]
    · show (if 100 + i < 13 then adK (100 + i) else if 100 + i = 200 then t9 else if 100 + i = 300 then b else adV (100 + i - 100)) = adV i
      rw [if_neg (by omega), if_neg (by omega), if_neg (by omega), show 100 + i - 100 = i by omega]
  · exact hfm
  · exact va_AO.of (hts _ tw_ai)
  · exact va_AO.of (hts _ tw_ac)
  · intro q hq
    rcases (show q = (22, "LitCoast$Tape") ∨ q = (38, "LitCoast$Asker") ∨ q = (70, "LitCoast$CodeSearch") by simpa [nestTab] using hq) with rfl | rfl | rfl
    · exact va_Nw.of rfl (hts _ tw_n0)
    · exact va_Nw.of rfl (hts _ tw_n1)
    · exact va_Nw.of rfl (hts _ tw_n2)
  · exact va_Nw.of rfl (hts _ tw_ca)
