theorem vk_S_c {N : Nat} {len : List Nat} {byt : List (List Int32)} {adK adV adK' adV' : Nat → Nat} {A : Nat → Prop} {U : State} {H : Heap} (h : vk_S N len byt adK adV A U H) (h1 : ∀ i, i < N → adK' i = adK i) (h2 : ∀ i, i < N → adV' i = adV i) : vk_S N len byt adK' adV' A U H :=
  ⟨fun i hi => by rw [h1 i hi, h2 i hi]; exact h.1 i hi, fun i j hi hj e => h.2 i j hi hj (by rw [← h1 i hi, ← h1 j hj]; exact e)⟩
def sTm (i : Nat) : Term := .string "LitCoast$LawReader" (strTab.getD i (0, 0, "")).2.1
theorem fl_1 : ∀ i : Nat, i < 13 → Cond.exactly (sTm i) "java/lang/String" ∈ flatC (Jvm.Cond.and given_1 narrow_1) := by decide +kernel
theorem fl_2 : ∀ i : Nat, i < 13 → Cond.eq (.field (sTm i) "java/lang/String" "coder" "B") (.int 0) ∈ flatC (Jvm.Cond.and given_1 narrow_1) := by decide +kernel
theorem fl_3 : ∀ i : Nat, i < 13 → Cond.arrayOf (.field (sTm i) "java/lang/String" "value" "[B") .byte ∈ flatC (Jvm.Cond.and given_1 narrow_1) := by decide +kernel
theorem fl_4 : ∀ i : Nat, i < 13 → Cond.eq (.length (.field (sTm i) "java/lang/String" "value" "[B")) (.int (Int32.ofNat (strLen.getD i 0))) ∈ flatC (Jvm.Cond.and given_1 narrow_1) := by decide +kernel
theorem fl_5 : ∀ i : Nat, i < 13 → ∀ j : Nat, j < strLen.getD i 0 → Cond.eq (.elem (.field (sTm i) "java/lang/String" "value" "[B") (.int (Int32.ofNat j))) (.int ((strByt.getD i []).getD j 0)) ∈ flatC (Jvm.Cond.and given_1 narrow_1) := by decide +kernel
theorem fl_6_0 : ∀ j : Nat, j < 13 → 0 < j → Cond.not (Cond.eq (sTm 0) (sTm j)) ∈ flatC (Jvm.Cond.and given_1 narrow_1) := by decide +kernel
theorem fl_6_1 : ∀ j : Nat, j < 13 → 1 < j → Cond.not (Cond.eq (sTm 1) (sTm j)) ∈ flatC (Jvm.Cond.and given_1 narrow_1) := by decide +kernel
theorem fl_6_2 : ∀ j : Nat, j < 13 → 2 < j → Cond.not (Cond.eq (sTm 2) (sTm j)) ∈ flatC (Jvm.Cond.and given_1 narrow_1) := by decide +kernel
theorem fl_6_3 : ∀ j : Nat, j < 13 → 3 < j → Cond.not (Cond.eq (sTm 3) (sTm j)) ∈ flatC (Jvm.Cond.and given_1 narrow_1) := by decide +kernel
theorem fl_6_4 : ∀ j : Nat, j < 13 → 4 < j → Cond.not (Cond.eq (sTm 4) (sTm j)) ∈ flatC (Jvm.Cond.and given_1 narrow_1) := by decide +kernel
theorem fl_6_5 : ∀ j : Nat, j < 13 → 5 < j → Cond.not (Cond.eq (sTm 5) (sTm j)) ∈ flatC (Jvm.Cond.and given_1 narrow_1) := by decide +kernel
theorem fl_6_6 : ∀ j : Nat, j < 13 → 6 < j → Cond.not (Cond.eq (sTm 6) (sTm j)) ∈ flatC (Jvm.Cond.and given_1 narrow_1) := by decide +kernel
theorem fl_6_7 : ∀ j : Nat, j < 13 → 7 < j → Cond.not (Cond.eq (sTm 7) (sTm j)) ∈ flatC (Jvm.Cond.and given_1 narrow_1) := by decide +kernel
theorem fl_6_8 : ∀ j : Nat, j < 13 → 8 < j → Cond.not (Cond.eq (sTm 8) (sTm j)) ∈ flatC (Jvm.Cond.and given_1 narrow_1) := by decide +kernel
theorem fl_6_9 : ∀ j : Nat, j < 13 → 9 < j → Cond.not (Cond.eq (sTm 9) (sTm j)) ∈ flatC (Jvm.Cond.and given_1 narrow_1) := by decide +kernel
theorem fl_6_10 : ∀ j : Nat, j < 13 → 10 < j → Cond.not (Cond.eq (sTm 10) (sTm j)) ∈ flatC (Jvm.Cond.and given_1 narrow_1) := by decide +kernel
theorem fl_6_11 : ∀ j : Nat, j < 13 → 11 < j → Cond.not (Cond.eq (sTm 11) (sTm j)) ∈ flatC (Jvm.Cond.and given_1 narrow_1) := by decide +kernel
theorem fl_6 (i j : Nat) (hi : i < 13) (hj : j < 13) (h : i < j) : Cond.not (Cond.eq (sTm i) (sTm j)) ∈ flatC (Jvm.Cond.and given_1 narrow_1) := by
  rcases (show i = 0 ∨ i = 1 ∨ i = 2 ∨ i = 3 ∨ i = 4 ∨ i = 5 ∨ i = 6 ∨ i = 7 ∨ i = 8 ∨ i = 9 ∨ i = 10 ∨ i = 11 by omega) with rfl | rfl | rfl | rfl | rfl | rfl | rfl | rfl | rfl | rfl | rfl | rfl
  · exact fl_6_0 j hj h
  · exact fl_6_1 j hj h
  · exact fl_6_2 j hj h
  · exact fl_6_3 j hj h
  · exact fl_6_4 j hj h
  · exact fl_6_5 j hj h
  · exact fl_6_6 j hj h
  · exact fl_6_7 j hj h
  · exact fl_6_8 j hj h
  · exact fl_6_9 j hj h
  · exact fl_6_10 j hj h
  · exact fl_6_11 j hj h
theorem fl_7 : Cond.eq (.static "java/lang/String" "COMPACT_STRINGS" "Z") (.int 1) ∈ flatC (Jvm.Cond.and given_1 narrow_1) := by decide +kernel
theorem fl_8 : Cond.isRef (.static "jdk/internal/util/Preconditions" "SIOOBE_FORMATTER" "Ljava/util/function/BiFunction;") ∈ flatC (Jvm.Cond.and given_1 narrow_1) := by decide +kernel
theorem st_len : ∀ i : Nat, i < 13 → strLen.getD i 0 < 2 ^ 31 := by decide
theorem st_tab : ∀ q ∈ strTab, strTab.getD q.1 (0, 0, "") = q ∧ q.1 < 13 := by decide
theorem tl_of {w : Cond} (h : w ∈ tables_1) : w ∈ lw_tbl := List.mem_append_right _ h
theorem tw_s0 : Cond.stringRef "LitCoast$LawReader" 154 "reads" ∈ lw_tbl := tl_of (aTb_i3 (by rw [te_3]; exact (List.mem_append_right _ (List.mem_append_right _ (List.mem_append_right _ (List.mem_append_left _ (List.mem_of_getElem? (i := 1) rfl)))))))
theorem tw_s1 : Cond.stringRef "LitCoast$LawReader" 160 "if" ∈ lw_tbl := tl_of (aTb_i3 (by rw [te_3]; exact (List.mem_append_right _ (List.mem_append_right _ (List.mem_append_right _ (List.mem_append_right _ (List.mem_append_right _ (List.mem_append_right _ (List.mem_append_right _ (List.mem_append_right _ (List.mem_append_right _ (List.mem_append_left _ (List.mem_of_getElem? (i := 6) rfl)))))))))))))
theorem tw_s2 : Cond.stringRef "LitCoast$LawReader" 162 "or" ∈ lw_tbl := tl_of (aTb_i3 (by rw [te_3]; exact (List.mem_append_right _ (List.mem_append_right _ (List.mem_append_right _ (List.mem_append_right _ (List.mem_append_right _ (List.mem_append_right _ (List.mem_append_right _ (List.mem_append_right _ (List.mem_append_right _ (List.mem_append_left _ (List.mem_of_getElem? (i := 7) rfl)))))))))))))
theorem tw_s3 : Cond.stringRef "LitCoast$LawReader" 164 "and" ∈ lw_tbl := tl_of (aTb_i3 (by rw [te_3]; exact (List.mem_append_right _ (List.mem_append_right _ (List.mem_append_right _ (List.mem_append_right _ (List.mem_append_right _ (List.mem_append_right _ (List.mem_append_right _ (List.mem_append_right _ (List.mem_append_right _ (List.mem_append_right _ (List.mem_append_left _ (List.mem_of_getElem? (i := 0) rfl))))))))))))))
theorem tw_s4 : Cond.stringRef "LitCoast$LawReader" 166 "not" ∈ lw_tbl := tl_of (aTb_i3 (by rw [te_3]; exact (List.mem_append_right _ (List.mem_append_right _ (List.mem_append_right _ (List.mem_append_right _ (List.mem_append_right _ (List.mem_append_right _ (List.mem_append_right _ (List.mem_append_right _ (List.mem_append_right _ (List.mem_append_right _ (List.mem_append_left _ (List.mem_of_getElem? (i := 1) rfl))))))))))))))
