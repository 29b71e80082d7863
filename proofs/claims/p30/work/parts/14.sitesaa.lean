def aSX (own : String) (idx : Nat) (M : aM) (n : Nat) : Prop := aSb own idx M n ∧ Cond.instanceMethod M.1 ∈ aTb ∧ Cond.selects M.1.cls M.1 M.1 ∈ aTb ∧ M.1.cls = "java/lang/String"
theorem aTb_of {w : Cond} (hm : w ∈ tables_1) (hg : goodWord w = true) : w ∈ aTb := List.mem_filter.mpr ⟨List.mem_append_right _ hm, hg⟩
theorem aTb_sel {y : MethodName} (i : Nat) (h : lw_privs[i]?.map (fun q => q.1) = some y) (hg : goodWord (Cond.selects y.cls y y) = true) : Cond.selects y.cls y y ∈ aTb := by
  obtain ⟨q, hq, rfl⟩ := Option.map_eq_some_iff.mp h
  exact List.mem_filter.mpr ⟨List.mem_append_left _ (List.mem_map.mpr ⟨q, List.mem_of_getElem? hq, rfl⟩), hg⟩
theorem tm_1_0 {w : Cond} (h : w ∈ tg_1_0) (hg : goodWord w = true) : w ∈ aTb := aTb_of (tq_1_0 h) hg
theorem tm_1_1 {w : Cond} (h : w ∈ tg_1_1) (hg : goodWord w = true) : w ∈ aTb := aTb_of (tq_1_1 h) hg
theorem tm_1_2 {w : Cond} (h : w ∈ tg_1_2) (hg : goodWord w = true) : w ∈ aTb := aTb_of (tq_1_2 h) hg
theorem tm_1_3 {w : Cond} (h : w ∈ tg_1_3) (hg : goodWord w = true) : w ∈ aTb := aTb_of (tq_1_3 h) hg
theorem tm_1_4 {w : Cond} (h : w ∈ tg_1_4) (hg : goodWord w = true) : w ∈ aTb := aTb_of (tq_1_4 h) hg
theorem tm_1_5 {w : Cond} (h : w ∈ tg_1_5) (hg : goodWord w = true) : w ∈ aTb := aTb_of (tq_1_5 h) hg
theorem tm_1_6 {w : Cond} (h : w ∈ tg_1_6) (hg : goodWord w = true) : w ∈ aTb := aTb_of (tq_1_6 h) hg
theorem tm_1_7 {w : Cond} (h : w ∈ tg_1_7) (hg : goodWord w = true) : w ∈ aTb := aTb_of (tq_1_7 h) hg
theorem tm_1_8 {w : Cond} (h : w ∈ tg_1_8) (hg : goodWord w = true) : w ∈ aTb := aTb_of (tq_1_8 h) hg
theorem tm_1_9 {w : Cond} (h : w ∈ tg_1_9) (hg : goodWord w = true) : w ∈ aTb := aTb_of (tq_1_9 h) hg
theorem tm_1_10 {w : Cond} (h : w ∈ tg_1_10) (hg : goodWord w = true) : w ∈ aTb := aTb_of (tq_1_10 h) hg
theorem tm_1_11 {w : Cond} (h : w ∈ tg_1_11) (hg : goodWord w = true) : w ∈ aTb := aTb_of (tq_1_11 h) hg
theorem tm_1_12 {w : Cond} (h : w ∈ tg_1_12) (hg : goodWord w = true) : w ∈ aTb := aTb_of (tq_1_12 h) hg
theorem tm_1_13 {w : Cond} (h : w ∈ tg_1_13) (hg : goodWord w = true) : w ∈ aTb := aTb_of (tq_1_13 h) hg
theorem tm_1_14 {w : Cond} (h : w ∈ tg_1_14) (hg : goodWord w = true) : w ∈ aTb := aTb_of (tq_1_14 h) hg
theorem tm_1_15 {w : Cond} (h : w ∈ tg_1_15) (hg : goodWord w = true) : w ∈ aTb := aTb_of (tq_1_15 h) hg
theorem tm_1_16 {w : Cond} (h : w ∈ tg_1_16) (hg : goodWord w = true) : w ∈ aTb := aTb_of (tq_1_16 h) hg
theorem tm_1_17 {w : Cond} (h : w ∈ tg_1_17) (hg : goodWord w = true) : w ∈ aTb := aTb_of (tq_1_17 h) hg
theorem tm_1_18 {w : Cond} (h : w ∈ tg_1_18) (hg : goodWord w = true) : w ∈ aTb := aTb_of (tq_1_18 h) hg
theorem tm_1_19 {w : Cond} (h : w ∈ tg_1_19) (hg : goodWord w = true) : w ∈ aTb := aTb_of (tq_1_19 h) hg
theorem tm_1_20 {w : Cond} (h : w ∈ tg_1_20) (hg : goodWord w = true) : w ∈ aTb := aTb_of (tq_1_20 h) hg
theorem tm_1_21 {w : Cond} (h : w ∈ tg_1_21) (hg : goodWord w = true) : w ∈ aTb := aTb_of (tq_1_21 h) hg
theorem tm_1_22 {w : Cond} (h : w ∈ tg_1_22) (hg : goodWord w = true) : w ∈ aTb := aTb_of (tq_1_22 h) hg
theorem tm_1_23 {w : Cond} (h : w ∈ tg_1_23) (hg : goodWord w = true) : w ∈ aTb := aTb_of (tq_1_23 h) hg
theorem tm_1_24 {w : Cond} (h : w ∈ tg_1_24) (hg : goodWord w = true) : w ∈ aTb := aTb_of (tq_1_24 h) hg
theorem tm_1_25 {w : Cond} (h : w ∈ tg_1_25) (hg : goodWord w = true) : w ∈ aTb := aTb_of (tq_1_25 h) hg
theorem tm_1_26 {w : Cond} (h : w ∈ tg_1_26) (hg : goodWord w = true) : w ∈ aTb := aTb_of (tq_1_26 h) hg
theorem tm_1_27 {w : Cond} (h : w ∈ tg_1_27) (hg : goodWord w = true) : w ∈ aTb := aTb_of (tq_1_27 h) hg
theorem tm_1_28 {w : Cond} (h : w ∈ tg_1_28) (hg : goodWord w = true) : w ∈ aTb := aTb_of (tq_1_28 h) hg
theorem tm_1_29 {w : Cond} (h : w ∈ tg_1_29) (hg : goodWord w = true) : w ∈ aTb := aTb_of (tq_1_29 h) hg
theorem tm_2_0 {w : Cond} (h : w ∈ tg_2_0) (hg : goodWord w = true) : w ∈ aTb := aTb_of (tq_2_0 h) hg
theorem tm_2_1 {w : Cond} (h : w ∈ tg_2_1) (hg : goodWord w = true) : w ∈ aTb := aTb_of (tq_2_1 h) hg
theorem tm_2_2 {w : Cond} (h : w ∈ tg_2_2) (hg : goodWord w = true) : w ∈ aTb := aTb_of (tq_2_2 h) hg
theorem tm_2_3 {w : Cond} (h : w ∈ tg_2_3) (hg : goodWord w = true) : w ∈ aTb := aTb_of (tq_2_3 h) hg
theorem tm_2_4 {w : Cond} (h : w ∈ tg_2_4) (hg : goodWord w = true) : w ∈ aTb := aTb_of (tq_2_4 h) hg
theorem tm_2_5 {w : Cond} (h : w ∈ tg_2_5) (hg : goodWord w = true) : w ∈ aTb := aTb_of (tq_2_5 h) hg
theorem tm_2_6 {w : Cond} (h : w ∈ tg_2_6) (hg : goodWord w = true) : w ∈ aTb := aTb_of (tq_2_6 h) hg
theorem tm_2_7 {w : Cond} (h : w ∈ tg_2_7) (hg : goodWord w = true) : w ∈ aTb := aTb_of (tq_2_7 h) hg
theorem tm_2_8 {w : Cond} (h : w ∈ tg_2_8) (hg : goodWord w = true) : w ∈ aTb := aTb_of (tq_2_8 h) hg
theorem tm_2_9 {w : Cond} (h : w ∈ tg_2_9) (hg : goodWord w = true) : w ∈ aTb := aTb_of (tq_2_9 h) hg
theorem tm_2_10 {w : Cond} (h : w ∈ tg_2_10) (hg : goodWord w = true) : w ∈ aTb := aTb_of (tq_2_10 h) hg
theorem tm_2_11 {w : Cond} (h : w ∈ tg_2_11) (hg : goodWord w = true) : w ∈ aTb := aTb_of (tq_2_11 h) hg
theorem tm_2_12 {w : Cond} (h : w ∈ tg_2_12) (hg : goodWord w = true) : w ∈ aTb := aTb_of (tq_2_12 h) hg
theorem tm_2_13 {w : Cond} (h : w ∈ tg_2_13) (hg : goodWord w = true) : w ∈ aTb := aTb_of (tq_2_13 h) hg
theorem tm_2_14 {w : Cond} (h : w ∈ tg_2_14) (hg : goodWord w = true) : w ∈ aTb := aTb_of (tq_2_14 h) hg
theorem tm_2_15 {w : Cond} (h : w ∈ tg_2_15) (hg : goodWord w = true) : w ∈ aTb := aTb_of (tq_2_15 h) hg
theorem tm_2_16 {w : Cond} (h : w ∈ tg_2_16) (hg : goodWord w = true) : w ∈ aTb := aTb_of (tq_2_16 h) hg
theorem tm_2_17 {w : Cond} (h : w ∈ tg_2_17) (hg : goodWord w = true) : w ∈ aTb := aTb_of (tq_2_17 h) hg
theorem tm_2_18 {w : Cond} (h : w ∈ tg_2_18) (hg : goodWord w = true) : w ∈ aTb := aTb_of (tq_2_18 h) hg
theorem tm_2_19 {w : Cond} (h : w ∈ tg_2_19) (hg : goodWord w = true) : w ∈ aTb := aTb_of (tq_2_19 h) hg
theorem tm_2_20 {w : Cond} (h : w ∈ tg_2_20) (hg : goodWord w = true) : w ∈ aTb := aTb_of (tq_2_20 h) hg
theorem tm_2_21 {w : Cond} (h : w ∈ tg_2_21) (hg : goodWord w = true) : w ∈ aTb := aTb_of (tq_2_21 h) hg
theorem tm_2_22 {w : Cond} (h : w ∈ tg_2_22) (hg : goodWord w = true) : w ∈ aTb := aTb_of (tq_2_22 h) hg
theorem tm_2_23 {w : Cond} (h : w ∈ tg_2_23) (hg : goodWord w = true) : w ∈ aTb := aTb_of (tq_2_23 h) hg
theorem tm_2_24 {w : Cond} (h : w ∈ tg_2_24) (hg : goodWord w = true) : w ∈ aTb := aTb_of (tq_2_24 h) hg
theorem tm_2_25 {w : Cond} (h : w ∈ tg_2_25) (hg : goodWord w = true) : w ∈ aTb := aTb_of (tq_2_25 h) hg
theorem tm_2_26 {w : Cond} (h : w ∈ tg_2_26) (hg : goodWord w = true) : w ∈ aTb := aTb_of (tq_2_26 h) hg
theorem tm_2_27 {w : Cond} (h : w ∈ tg_2_27) (hg : goodWord w = true) : w ∈ aTb := aTb_of (tq_2_27 h) hg
theorem tm_2_28 {w : Cond} (h : w ∈ tg_2_28) (hg : goodWord w = true) : w ∈ aTb := aTb_of (tq_2_28 h) hg
theorem tm_2_29 {w : Cond} (h : w ∈ tg_2_29) (hg : goodWord w = true) : w ∈ aTb := aTb_of (tq_2_29 h) hg
theorem tm_3_0 {w : Cond} (h : w ∈ tg_3_0) (hg : goodWord w = true) : w ∈ aTb := aTb_of (tq_3_0 h) hg
theorem tm_3_1 {w : Cond} (h : w ∈ tg_3_1) (hg : goodWord w = true) : w ∈ aTb := aTb_of (tq_3_1 h) hg
theorem tm_3_2 {w : Cond} (h : w ∈ tg_3_2) (hg : goodWord w = true) : w ∈ aTb := aTb_of (tq_3_2 h) hg
theorem tm_3_3 {w : Cond} (h : w ∈ tg_3_3) (hg : goodWord w = true) : w ∈ aTb := aTb_of (tq_3_3 h) hg
theorem tm_3_4 {w : Cond} (h : w ∈ tg_3_4) (hg : goodWord w = true) : w ∈ aTb := aTb_of (tq_3_4 h) hg
theorem tm_3_5 {w : Cond} (h : w ∈ tg_3_5) (hg : goodWord w = true) : w ∈ aTb := aTb_of (tq_3_5 h) hg
theorem tm_3_6 {w : Cond} (h : w ∈ tg_3_6) (hg : goodWord w = true) : w ∈ aTb := aTb_of (tq_3_6 h) hg
theorem tm_3_7 {w : Cond} (h : w ∈ tg_3_7) (hg : goodWord w = true) : w ∈ aTb := aTb_of (tq_3_7 h) hg
theorem tm_3_10 {w : Cond} (h : w ∈ tg_3_10) (hg : goodWord w = true) : w ∈ aTb := aTb_of (tq_3_10 h) hg
theorem tm_3_11 {w : Cond} (h : w ∈ tg_3_11) (hg : goodWord w = true) : w ∈ aTb := aTb_of (tq_3_11 h) hg
theorem tm_3_12 {w : Cond} (h : w ∈ tg_3_12) (hg : goodWord w = true) : w ∈ aTb := aTb_of (tq_3_12 h) hg
theorem tm_3_13 {w : Cond} (h : w ∈ tg_3_13) (hg : goodWord w = true) : w ∈ aTb := aTb_of (tq_3_13 h) hg
theorem tm_3_14 {w : Cond} (h : w ∈ tg_3_14) (hg : goodWord w = true) : w ∈ aTb := aTb_of (tq_3_14 h) hg
theorem tm_3_15 {w : Cond} (h : w ∈ tg_3_15) (hg : goodWord w = true) : w ∈ aTb := aTb_of (tq_3_15 h) hg
theorem tm_3_16 {w : Cond} (h : w ∈ tg_3_16) (hg : goodWord w = true) : w ∈ aTb := aTb_of (tq_3_16 h) hg
theorem tm_3_17 {w : Cond} (h : w ∈ tg_3_17) (hg : goodWord w = true) : w ∈ aTb := aTb_of (tq_3_17 h) hg
theorem tm_3_18 {w : Cond} (h : w ∈ tg_3_18) (hg : goodWord w = true) : w ∈ aTb := aTb_of (tq_3_18 h) hg
theorem tm_3_19 {w : Cond} (h : w ∈ tg_3_19) (hg : goodWord w = true) : w ∈ aTb := aTb_of (tq_3_19 h) hg
theorem tm_3_20 {w : Cond} (h : w ∈ tg_3_20) (hg : goodWord w = true) : w ∈ aTb := aTb_of (tq_3_20 h) hg
theorem tm_3_21 {w : Cond} (h : w ∈ tg_3_21) (hg : goodWord w = true) : w ∈ aTb := aTb_of (tq_3_21 h) hg
theorem tm_3_22 {w : Cond} (h : w ∈ tg_3_22) (hg : goodWord w = true) : w ∈ aTb := aTb_of (tq_3_22 h) hg
theorem tm_3_23 {w : Cond} (h : w ∈ tg_3_23) (hg : goodWord w = true) : w ∈ aTb := aTb_of (tq_3_23 h) hg
theorem tm_3_24 {w : Cond} (h : w ∈ tg_3_24) (hg : goodWord w = true) : w ∈ aTb := aTb_of (tq_3_24 h) hg
theorem tm_3_25 {w : Cond} (h : w ∈ tg_3_25) (hg : goodWord w = true) : w ∈ aTb := aTb_of (tq_3_25 h) hg
theorem tm_3_26 {w : Cond} (h : w ∈ tg_3_26) (hg : goodWord w = true) : w ∈ aTb := aTb_of (tq_3_26 h) hg
theorem tm_3_27 {w : Cond} (h : w ∈ tg_3_27) (hg : goodWord w = true) : w ∈ aTb := aTb_of (tq_3_27 h) hg
theorem tm_3_28 {w : Cond} (h : w ∈ tg_3_28) (hg : goodWord w = true) : w ∈ aTb := aTb_of (tq_3_28 h) hg
theorem tm_3_29 {w : Cond} (h : w ∈ tg_3_29) (hg : goodWord w = true) : w ∈ aTb := aTb_of (tq_3_29 h) hg
theorem tm_4_0 {w : Cond} (h : w ∈ tg_4_0) (hg : goodWord w = true) : w ∈ aTb := aTb_of (tq_4_0 h) hg
theorem tm_4_1 {w : Cond} (h : w ∈ tg_4_1) (hg : goodWord w = true) : w ∈ aTb := aTb_of (tq_4_1 h) hg
theorem tm_4_2 {w : Cond} (h : w ∈ tg_4_2) (hg : goodWord w = true) : w ∈ aTb := aTb_of (tq_4_2 h) hg
theorem tm_4_3 {w : Cond} (h : w ∈ tg_4_3) (hg : goodWord w = true) : w ∈ aTb := aTb_of (tq_4_3 h) hg
theorem tm_4_4 {w : Cond} (h : w ∈ tg_4_4) (hg : goodWord w = true) : w ∈ aTb := aTb_of (tq_4_4 h) hg
theorem tm_4_5 {w : Cond} (h : w ∈ tg_4_5) (hg : goodWord w = true) : w ∈ aTb := aTb_of (tq_4_5 h) hg
theorem tm_4_6 {w : Cond} (h : w ∈ tg_4_6) (hg : goodWord w = true) : w ∈ aTb := aTb_of (tq_4_6 h) hg
theorem tm_4_7 {w : Cond} (h : w ∈ tg_4_7) (hg : goodWord w = true) : w ∈ aTb := aTb_of (tq_4_7 h) hg
theorem tm_4_8 {w : Cond} (h : w ∈ tg_4_8) (hg : goodWord w = true) : w ∈ aTb := aTb_of (tq_4_8 h) hg
theorem tm_4_9 {w : Cond} (h : w ∈ tg_4_9) (hg : goodWord w = true) : w ∈ aTb := aTb_of (tq_4_9 h) hg
theorem tm_4_10 {w : Cond} (h : w ∈ tg_4_10) (hg : goodWord w = true) : w ∈ aTb := aTb_of (tq_4_10 h) hg
theorem tm_4_11 {w : Cond} (h : w ∈ tg_4_11) (hg : goodWord w = true) : w ∈ aTb := aTb_of (tq_4_11 h) hg
theorem tm_4_12 {w : Cond} (h : w ∈ tg_4_12) (hg : goodWord w = true) : w ∈ aTb := aTb_of (tq_4_12 h) hg
theorem tm_4_13 {w : Cond} (h : w ∈ tg_4_13) (hg : goodWord w = true) : w ∈ aTb := aTb_of (tq_4_13 h) hg
theorem tm_4_14 {w : Cond} (h : w ∈ tg_4_14) (hg : goodWord w = true) : w ∈ aTb := aTb_of (tq_4_14 h) hg
theorem tm_4_15 {w : Cond} (h : w ∈ tg_4_15) (hg : goodWord w = true) : w ∈ aTb := aTb_of (tq_4_15 h) hg
theorem tm_4_16 {w : Cond} (h : w ∈ tg_4_16) (hg : goodWord w = true) : w ∈ aTb := aTb_of (tq_4_16 h) hg
theorem tm_4_17 {w : Cond} (h : w ∈ tg_4_17) (hg : goodWord w = true) : w ∈ aTb := aTb_of (tq_4_17 h) hg
theorem tm_4_18 {w : Cond} (h : w ∈ tg_4_18) (hg : goodWord w = true) : w ∈ aTb := aTb_of (tq_4_18 h) hg
theorem tm_4_19 {w : Cond} (h : w ∈ tg_4_19) (hg : goodWord w = true) : w ∈ aTb := aTb_of (tq_4_19 h) hg
theorem tm_4_20 {w : Cond} (h : w ∈ tg_4_20) (hg : goodWord w = true) : w ∈ aTb := aTb_of (tq_4_20 h) hg
theorem tm_4_21 {w : Cond} (h : w ∈ tg_4_21) (hg : goodWord w = true) : w ∈ aTb := aTb_of (tq_4_21 h) hg
theorem tm_4_22 {w : Cond} (h : w ∈ tg_4_22) (hg : goodWord w = true) : w ∈ aTb := aTb_of (tq_4_22 h) hg
theorem tm_4_23 {w : Cond} (h : w ∈ tg_4_23) (hg : goodWord w = true) : w ∈ aTb := aTb_of (tq_4_23 h) hg
theorem tm_4_24 {w : Cond} (h : w ∈ tg_4_24) (hg : goodWord w = true) : w ∈ aTb := aTb_of (tq_4_24 h) hg
theorem tm_4_25 {w : Cond} (h : w ∈ tg_4_25) (hg : goodWord w = true) : w ∈ aTb := aTb_of (tq_4_25 h) hg
theorem tm_4_26 {w : Cond} (h : w ∈ tg_4_26) (hg : goodWord w = true) : w ∈ aTb := aTb_of (tq_4_26 h) hg
theorem tm_4_27 {w : Cond} (h : w ∈ tg_4_27) (hg : goodWord w = true) : w ∈ aTb := aTb_of (tq_4_27 h) hg
theorem tm_4_28 {w : Cond} (h : w ∈ tg_4_28) (hg : goodWord w = true) : w ∈ aTb := aTb_of (tq_4_28 h) hg
theorem tm_4_29 {w : Cond} (h : w ∈ tg_4_29) (hg : goodWord w = true) : w ∈ aTb := aTb_of (tq_4_29 h) hg
theorem tm_5_0 {w : Cond} (h : w ∈ tg_5_0) (hg : goodWord w = true) : w ∈ aTb := aTb_of (tq_5_0 h) hg
theorem tm_5_1 {w : Cond} (h : w ∈ tg_5_1) (hg : goodWord w = true) : w ∈ aTb := aTb_of (tq_5_1 h) hg
theorem tm_5_2 {w : Cond} (h : w ∈ tg_5_2) (hg : goodWord w = true) : w ∈ aTb := aTb_of (tq_5_2 h) hg
theorem tm_5_3 {w : Cond} (h : w ∈ tg_5_3) (hg : goodWord w = true) : w ∈ aTb := aTb_of (tq_5_3 h) hg
theorem tm_5_4 {w : Cond} (h : w ∈ tg_5_4) (hg : goodWord w = true) : w ∈ aTb := aTb_of (tq_5_4 h) hg
theorem tm_5_5 {w : Cond} (h : w ∈ tg_5_5) (hg : goodWord w = true) : w ∈ aTb := aTb_of (tq_5_5 h) hg
theorem tm_5_6 {w : Cond} (h : w ∈ tg_5_6) (hg : goodWord w = true) : w ∈ aTb := aTb_of (tq_5_6 h) hg
theorem tm_5_7 {w : Cond} (h : w ∈ tg_5_7) (hg : goodWord w = true) : w ∈ aTb := aTb_of (tq_5_7 h) hg
theorem tm_5_8 {w : Cond} (h : w ∈ tg_5_8) (hg : goodWord w = true) : w ∈ aTb := aTb_of (tq_5_8 h) hg
theorem tm_5_9 {w : Cond} (h : w ∈ tg_5_9) (hg : goodWord w = true) : w ∈ aTb := aTb_of (tq_5_9 h) hg
theorem tm_5_10 {w : Cond} (h : w ∈ tg_5_10) (hg : goodWord w = true) : w ∈ aTb := aTb_of (tq_5_10 h) hg
theorem tm_5_11 {w : Cond} (h : w ∈ tg_5_11) (hg : goodWord w = true) : w ∈ aTb := aTb_of (tq_5_11 h) hg
theorem tm_5_12 {w : Cond} (h : w ∈ tg_5_12) (hg : goodWord w = true) : w ∈ aTb := aTb_of (tq_5_12 h) hg
theorem tm_5_13 {w : Cond} (h : w ∈ tg_5_13) (hg : goodWord w = true) : w ∈ aTb := aTb_of (tq_5_13 h) hg
theorem tm_5_14 {w : Cond} (h : w ∈ tg_5_14) (hg : goodWord w = true) : w ∈ aTb := aTb_of (tq_5_14 h) hg
theorem tm_5_15 {w : Cond} (h : w ∈ tg_5_15) (hg : goodWord w = true) : w ∈ aTb := aTb_of (tq_5_15 h) hg
theorem tm_5_16 {w : Cond} (h : w ∈ tg_5_16) (hg : goodWord w = true) : w ∈ aTb := aTb_of (tq_5_16 h) hg
theorem tm_5_17 {w : Cond} (h : w ∈ tg_5_17) (hg : goodWord w = true) : w ∈ aTb := aTb_of (tq_5_17 h) hg
theorem tm_5_18 {w : Cond} (h : w ∈ tg_5_18) (hg : goodWord w = true) : w ∈ aTb := aTb_of (tq_5_18 h) hg
theorem tm_5_19 {w : Cond} (h : w ∈ tg_5_19) (hg : goodWord w = true) : w ∈ aTb := aTb_of (tq_5_19 h) hg
theorem tm_5_20 {w : Cond} (h : w ∈ tg_5_20) (hg : goodWord w = true) : w ∈ aTb := aTb_of (tq_5_20 h) hg
theorem tm_5_21 {w : Cond} (h : w ∈ tg_5_21) (hg : goodWord w = true) : w ∈ aTb := aTb_of (tq_5_21 h) hg
theorem tm_5_22 {w : Cond} (h : w ∈ tg_5_22) (hg : goodWord w = true) : w ∈ aTb := aTb_of (tq_5_22 h) hg
theorem tm_5_23 {w : Cond} (h : w ∈ tg_5_23) (hg : goodWord w = true) : w ∈ aTb := aTb_of (tq_5_23 h) hg
theorem tm_5_24 {w : Cond} (h : w ∈ tg_5_24) (hg : goodWord w = true) : w ∈ aTb := aTb_of (tq_5_24 h) hg
theorem tm_5_25 {w : Cond} (h : w ∈ tg_5_25) (hg : goodWord w = true) : w ∈ aTb := aTb_of (tq_5_25 h) hg
theorem tm_5_26 {w : Cond} (h : w ∈ tg_5_26) (hg : goodWord w = true) : w ∈ aTb := aTb_of (tq_5_26 h) hg
theorem tm_5_27 {w : Cond} (h : w ∈ tg_5_27) (hg : goodWord w = true) : w ∈ aTb := aTb_of (tq_5_27 h) hg
theorem tm_5_28 {w : Cond} (h : w ∈ tg_5_28) (hg : goodWord w = true) : w ∈ aTb := aTb_of (tq_5_28 h) hg
theorem tm_5_29 {w : Cond} (h : w ∈ tg_5_29) (hg : goodWord w = true) : w ∈ aTb := aTb_of (tq_5_29 h) hg
theorem tm_6_0 {w : Cond} (h : w ∈ tg_6_0) (hg : goodWord w = true) : w ∈ aTb := aTb_of (tq_6_0 h) hg
theorem tm_6_1 {w : Cond} (h : w ∈ tg_6_1) (hg : goodWord w = true) : w ∈ aTb := aTb_of (tq_6_1 h) hg
theorem tm_6_2 {w : Cond} (h : w ∈ tg_6_2) (hg : goodWord w = true) : w ∈ aTb := aTb_of (tq_6_2 h) hg
theorem tm_6_3 {w : Cond} (h : w ∈ tg_6_3) (hg : goodWord w = true) : w ∈ aTb := aTb_of (tq_6_3 h) hg
theorem tm_6_4 {w : Cond} (h : w ∈ tg_6_4) (hg : goodWord w = true) : w ∈ aTb := aTb_of (tq_6_4 h) hg
theorem tm_6_5 {w : Cond} (h : w ∈ tg_6_5) (hg : goodWord w = true) : w ∈ aTb := aTb_of (tq_6_5 h) hg
theorem tm_6_6 {w : Cond} (h : w ∈ tg_6_6) (hg : goodWord w = true) : w ∈ aTb := aTb_of (tq_6_6 h) hg
theorem tm_6_7 {w : Cond} (h : w ∈ tg_6_7) (hg : goodWord w = true) : w ∈ aTb := aTb_of (tq_6_7 h) hg
theorem tm_6_8 {w : Cond} (h : w ∈ tg_6_8) (hg : goodWord w = true) : w ∈ aTb := aTb_of (tq_6_8 h) hg
theorem tm_6_9 {w : Cond} (h : w ∈ tg_6_9) (hg : goodWord w = true) : w ∈ aTb := aTb_of (tq_6_9 h) hg
theorem tm_6_10 {w : Cond} (h : w ∈ tg_6_10) (hg : goodWord w = true) : w ∈ aTb := aTb_of (tq_6_10 h) hg
theorem tm_6_11 {w : Cond} (h : w ∈ tg_6_11) (hg : goodWord w = true) : w ∈ aTb := aTb_of (tq_6_11 h) hg
theorem tm_6_12 {w : Cond} (h : w ∈ tg_6_12) (hg : goodWord w = true) : w ∈ aTb := aTb_of (tq_6_12 h) hg
theorem tm_6_13 {w : Cond} (h : w ∈ tg_6_13) (hg : goodWord w = true) : w ∈ aTb := aTb_of (tq_6_13 h) hg
theorem tm_6_14 {w : Cond} (h : w ∈ tg_6_14) (hg : goodWord w = true) : w ∈ aTb := aTb_of (tq_6_14 h) hg
theorem tm_6_15 {w : Cond} (h : w ∈ tg_6_15) (hg : goodWord w = true) : w ∈ aTb := aTb_of (tq_6_15 h) hg
theorem tm_6_16 {w : Cond} (h : w ∈ tg_6_16) (hg : goodWord w = true) : w ∈ aTb := aTb_of (tq_6_16 h) hg
theorem tm_6_17 {w : Cond} (h : w ∈ tg_6_17) (hg : goodWord w = true) : w ∈ aTb := aTb_of (tq_6_17 h) hg
theorem tm_6_18 {w : Cond} (h : w ∈ tg_6_18) (hg : goodWord w = true) : w ∈ aTb := aTb_of (tq_6_18 h) hg
theorem tm_6_19 {w : Cond} (h : w ∈ tg_6_19) (hg : goodWord w = true) : w ∈ aTb := aTb_of (tq_6_19 h) hg
theorem tm_6_20 {w : Cond} (h : w ∈ tg_6_20) (hg : goodWord w = true) : w ∈ aTb := aTb_of (tq_6_20 h) hg
theorem tm_6_21 {w : Cond} (h : w ∈ tg_6_21) (hg : goodWord w = true) : w ∈ aTb := aTb_of (tq_6_21 h) hg
theorem tm_6_22 {w : Cond} (h : w ∈ tg_6_22) (hg : goodWord w = true) : w ∈ aTb := aTb_of (tq_6_22 h) hg
theorem tm_6_23 {w : Cond} (h : w ∈ tg_6_23) (hg : goodWord w = true) : w ∈ aTb := aTb_of (tq_6_23 h) hg
theorem tm_6_24 {w : Cond} (h : w ∈ tg_6_24) (hg : goodWord w = true) : w ∈ aTb := aTb_of (tq_6_24 h) hg
theorem tm_6_25 {w : Cond} (h : w ∈ tg_6_25) (hg : goodWord w = true) : w ∈ aTb := aTb_of (tq_6_25 h) hg
theorem tm_6_26 {w : Cond} (h : w ∈ tg_6_26) (hg : goodWord w = true) : w ∈ aTb := aTb_of (tq_6_26 h) hg
theorem tm_6_27 {w : Cond} (h : w ∈ tg_6_27) (hg : goodWord w = true) : w ∈ aTb := aTb_of (tq_6_27 h) hg
theorem tm_6_28 {w : Cond} (h : w ∈ tg_6_28) (hg : goodWord w = true) : w ∈ aTb := aTb_of (tq_6_28 h) hg
theorem tm_6_29 {w : Cond} (h : w ∈ tg_6_29) (hg : goodWord w = true) : w ∈ aTb := aTb_of (tq_6_29 h) hg
theorem tm_7_0 {w : Cond} (h : w ∈ tg_7_0) (hg : goodWord w = true) : w ∈ aTb := aTb_of (tq_7_0 h) hg
theorem tm_7_1 {w : Cond} (h : w ∈ tg_7_1) (hg : goodWord w = true) : w ∈ aTb := aTb_of (tq_7_1 h) hg
theorem tm_7_2 {w : Cond} (h : w ∈ tg_7_2) (hg : goodWord w = true) : w ∈ aTb := aTb_of (tq_7_2 h) hg
theorem tm_7_3 {w : Cond} (h : w ∈ tg_7_3) (hg : goodWord w = true) : w ∈ aTb := aTb_of (tq_7_3 h) hg
theorem tm_7_4 {w : Cond} (h : w ∈ tg_7_4) (hg : goodWord w = true) : w ∈ aTb := aTb_of (tq_7_4 h) hg
theorem tm_7_5 {w : Cond} (h : w ∈ tg_7_5) (hg : goodWord w = true) : w ∈ aTb := aTb_of (tq_7_5 h) hg
theorem tm_7_6 {w : Cond} (h : w ∈ tg_7_6) (hg : goodWord w = true) : w ∈ aTb := aTb_of (tq_7_6 h) hg
theorem tm_7_7 {w : Cond} (h : w ∈ tg_7_7) (hg : goodWord w = true) : w ∈ aTb := aTb_of (tq_7_7 h) hg
theorem tm_7_8 {w : Cond} (h : w ∈ tg_7_8) (hg : goodWord w = true) : w ∈ aTb := aTb_of (tq_7_8 h) hg
theorem tm_7_9 {w : Cond} (h : w ∈ tg_7_9) (hg : goodWord w = true) : w ∈ aTb := aTb_of (tq_7_9 h) hg
theorem tm_7_10 {w : Cond} (h : w ∈ tg_7_10) (hg : goodWord w = true) : w ∈ aTb := aTb_of (tq_7_10 h) hg
theorem tm_7_11 {w : Cond} (h : w ∈ tg_7_11) (hg : goodWord w = true) : w ∈ aTb := aTb_of (tq_7_11 h) hg
theorem tm_7_12 {w : Cond} (h : w ∈ tg_7_12) (hg : goodWord w = true) : w ∈ aTb := aTb_of (tq_7_12 h) hg
theorem tm_7_13 {w : Cond} (h : w ∈ tg_7_13) (hg : goodWord w = true) : w ∈ aTb := aTb_of (tq_7_13 h) hg
theorem tm_7_14 {w : Cond} (h : w ∈ tg_7_14) (hg : goodWord w = true) : w ∈ aTb := aTb_of (tq_7_14 h) hg
theorem tm_7_15 {w : Cond} (h : w ∈ tg_7_15) (hg : goodWord w = true) : w ∈ aTb := aTb_of (tq_7_15 h) hg
theorem tm_7_16 {w : Cond} (h : w ∈ tg_7_16) (hg : goodWord w = true) : w ∈ aTb := aTb_of (tq_7_16 h) hg
theorem tm_7_17 {w : Cond} (h : w ∈ tg_7_17) (hg : goodWord w = true) : w ∈ aTb := aTb_of (tq_7_17 h) hg
theorem tm_7_18 {w : Cond} (h : w ∈ tg_7_18) (hg : goodWord w = true) : w ∈ aTb := aTb_of (tq_7_18 h) hg
theorem tm_7_19 {w : Cond} (h : w ∈ tg_7_19) (hg : goodWord w = true) : w ∈ aTb := aTb_of (tq_7_19 h) hg
theorem tm_7_20 {w : Cond} (h : w ∈ tg_7_20) (hg : goodWord w = true) : w ∈ aTb := aTb_of (tq_7_20 h) hg
theorem tm_7_21 {w : Cond} (h : w ∈ tg_7_21) (hg : goodWord w = true) : w ∈ aTb := aTb_of (tq_7_21 h) hg
theorem tm_7_22 {w : Cond} (h : w ∈ tg_7_22) (hg : goodWord w = true) : w ∈ aTb := aTb_of (tq_7_22 h) hg
theorem tm_7_23 {w : Cond} (h : w ∈ tg_7_23) (hg : goodWord w = true) : w ∈ aTb := aTb_of (tq_7_23 h) hg
theorem lay_0_0 : u_lay RX0 TX0 0 ∈ aTb := tm_1_21 (List.mem_of_getElem? (i := 4) rfl) rfl
theorem lay_0_1 : u_lay RX0 TX0 1 ∈ aTb := tm_1_21 (List.mem_of_getElem? (i := 6) rfl) rfl
theorem cl_0 : aCl 0 RX0 TX0 := ⟨rfl, fun w hw => by
  obtain ⟨j, hj, rfl⟩ := List.mem_map.mp hw
  have hj : j < 2 := List.mem_range.mp hj
  rcases (show j = 0 ∨ j = 1 by omega) with rfl | rfl
  · exact lay_0_0
  · exact lay_0_1, tyX0_ok, nmX0, by decide +kernel⟩
theorem tb_165 : Cond.instantiable RX0 (aN 0) ∈ aTb := tm_1_20 (List.mem_of_getElem? (i := 5) rfl) rfl
theorem lay_1_0 : u_lay RX1 TX1 0 ∈ aTb := tm_1_9 (List.mem_of_getElem? (i := 6) rfl) rfl
theorem lay_1_1 : u_lay RX1 TX1 1 ∈ aTb := tm_1_10 (List.mem_of_getElem? (i := 0) rfl) rfl
theorem lay_1_2 : u_lay RX1 TX1 2 ∈ aTb := tm_1_10 (List.mem_of_getElem? (i := 2) rfl) rfl
theorem lay_1_3 : u_lay RX1 TX1 3 ∈ aTb := tm_1_10 (List.mem_of_getElem? (i := 4) rfl) rfl
theorem lay_1_4 : u_lay RX1 TX1 4 ∈ aTb := tm_1_10 (List.mem_of_getElem? (i := 6) rfl) rfl
theorem lay_1_5 : u_lay RX1 TX1 5 ∈ aTb := tm_1_11 (List.mem_of_getElem? (i := 0) rfl) rfl
theorem lay_1_6 : u_lay RX1 TX1 6 ∈ aTb := tm_1_11 (List.mem_of_getElem? (i := 2) rfl) rfl
theorem lay_1_7 : u_lay RX1 TX1 7 ∈ aTb := tm_1_11 (List.mem_of_getElem? (i := 4) rfl) rfl
theorem lay_1_8 : u_lay RX1 TX1 8 ∈ aTb := tm_1_11 (List.mem_of_getElem? (i := 6) rfl) rfl
theorem lay_1_9 : u_lay RX1 TX1 9 ∈ aTb := tm_1_12 (List.mem_of_getElem? (i := 0) rfl) rfl
theorem lay_1_10 : u_lay RX1 TX1 10 ∈ aTb := tm_1_12 (List.mem_of_getElem? (i := 2) rfl) rfl
theorem lay_1_11 : u_lay RX1 TX1 11 ∈ aTb := tm_1_12 (List.mem_of_getElem? (i := 4) rfl) rfl
theorem cl_1 : aCl 1 RX1 TX1 := ⟨rfl, fun w hw => by
  obtain ⟨j, hj, rfl⟩ := List.mem_map.mp hw
  have hj : j < 12 := List.mem_range.mp hj
  rcases (show j = 0 ∨ j = 1 ∨ j = 2 ∨ j = 3 ∨ j = 4 ∨ j = 5 ∨ j = 6 ∨ j = 7 ∨ j = 8 ∨ j = 9 ∨ j = 10 ∨ j = 11 by omega) with rfl | rfl | rfl | rfl | rfl | rfl | rfl | rfl | rfl | rfl | rfl | rfl
  · exact lay_1_0
  · exact lay_1_1
  · exact lay_1_2
  · exact lay_1_3
  · exact lay_1_4
  · exact lay_1_5
  · exact lay_1_6
  · exact lay_1_7
  · exact lay_1_8
  · exact lay_1_9
  · exact lay_1_10
  · exact lay_1_11, tyX1_ok, nmX1, by decide +kernel⟩
theorem tb_30 : Cond.instantiable RX1 (aN 1) ∈ aTb := tm_1_3 (List.mem_of_getElem? (i := 6) rfl) rfl
theorem lay_2_0 : u_lay RX2 TX2 0 ∈ aTb := tm_2_8 (List.mem_of_getElem? (i := 3) rfl) rfl
theorem lay_2_1 : u_lay RX2 TX2 1 ∈ aTb := tm_2_8 (List.mem_of_getElem? (i := 5) rfl) rfl
theorem lay_2_2 : u_lay RX2 TX2 2 ∈ aTb := tm_2_8 (List.mem_of_getElem? (i := 7) rfl) rfl
theorem lay_2_3 : u_lay RX2 TX2 3 ∈ aTb := tm_2_9 (List.mem_of_getElem? (i := 1) rfl) rfl
theorem lay_2_4 : u_lay RX2 TX2 4 ∈ aTb := tm_2_9 (List.mem_of_getElem? (i := 3) rfl) rfl
theorem lay_2_5 : u_lay RX2 TX2 5 ∈ aTb := tm_2_9 (List.mem_of_getElem? (i := 5) rfl) rfl
theorem cl_2 : aCl 2 RX2 TX2 := ⟨rfl, fun w hw => by
  obtain ⟨j, hj, rfl⟩ := List.mem_map.mp hw
  have hj : j < 6 := List.mem_range.mp hj
  rcases (show j = 0 ∨ j = 1 ∨ j = 2 ∨ j = 3 ∨ j = 4 ∨ j = 5 by omega) with rfl | rfl | rfl | rfl | rfl | rfl
  · exact lay_2_0
  · exact lay_2_1
  · exact lay_2_2
  · exact lay_2_3
  · exact lay_2_4
  · exact lay_2_5, tyX2_ok, nmX2, by decide +kernel⟩
theorem tb_294 : Cond.instantiable RX2 (aN 2) ∈ aTb := tm_2_6 (List.mem_of_getElem? (i := 6) rfl) rfl
theorem lay_3_0 : u_lay RX3 TX3 0 ∈ aTb := tm_2_4 (List.mem_of_getElem? (i := 4) rfl) rfl
theorem lay_3_1 : u_lay RX3 TX3 1 ∈ aTb := tm_2_4 (List.mem_of_getElem? (i := 6) rfl) rfl
theorem lay_3_2 : u_lay RX3 TX3 2 ∈ aTb := tm_2_5 (List.mem_of_getElem? (i := 0) rfl) rfl
theorem lay_3_3 : u_lay RX3 TX3 3 ∈ aTb := tm_2_5 (List.mem_of_getElem? (i := 2) rfl) rfl
theorem lay_3_4 : u_lay RX3 TX3 4 ∈ aTb := tm_2_5 (List.mem_of_getElem? (i := 4) rfl) rfl
theorem lay_3_5 : u_lay RX3 TX3 5 ∈ aTb := tm_2_5 (List.mem_of_getElem? (i := 6) rfl) rfl
theorem lay_3_6 : u_lay RX3 TX3 6 ∈ aTb := tm_2_6 (List.mem_of_getElem? (i := 0) rfl) rfl
theorem lay_3_7 : u_lay RX3 TX3 7 ∈ aTb := tm_2_6 (List.mem_of_getElem? (i := 2) rfl) rfl
theorem cl_3 : aCl 3 RX3 TX3 := ⟨rfl, fun w hw => by
  obtain ⟨j, hj, rfl⟩ := List.mem_map.mp hw
  have hj : j < 8 := List.mem_range.mp hj
  rcases (show j = 0 ∨ j = 1 ∨ j = 2 ∨ j = 3 ∨ j = 4 ∨ j = 5 ∨ j = 6 ∨ j = 7 by omega) with rfl | rfl | rfl | rfl | rfl | rfl | rfl | rfl
  · exact lay_3_0
  · exact lay_3_1
  · exact lay_3_2
  · exact lay_3_3
  · exact lay_3_4
  · exact lay_3_5
  · exact lay_3_6
  · exact lay_3_7, tyX3_ok, nmX3, by decide +kernel⟩
theorem tb_259 : Cond.instantiable RX3 (aN 3) ∈ aTb := tm_2_2 (List.mem_of_getElem? (i := 3) rfl) rfl
theorem lay_4_0 : u_lay RX4 TX4 0 ∈ aTb := tm_1_27 (List.mem_of_getElem? (i := 2) rfl) rfl
theorem lay_4_1 : u_lay RX4 TX4 1 ∈ aTb := tm_1_27 (List.mem_of_getElem? (i := 4) rfl) rfl
theorem lay_4_2 : u_lay RX4 TX4 2 ∈ aTb := tm_1_27 (List.mem_of_getElem? (i := 6) rfl) rfl
theorem lay_4_3 : u_lay RX4 TX4 3 ∈ aTb := tm_1_28 (List.mem_of_getElem? (i := 0) rfl) rfl
theorem lay_4_4 : u_lay RX4 TX4 4 ∈ aTb := tm_1_28 (List.mem_of_getElem? (i := 2) rfl) rfl
theorem lay_4_5 : u_lay RX4 TX4 5 ∈ aTb := tm_1_28 (List.mem_of_getElem? (i := 4) rfl) rfl
theorem lay_4_6 : u_lay RX4 TX4 6 ∈ aTb := tm_1_28 (List.mem_of_getElem? (i := 6) rfl) rfl
theorem lay_4_7 : u_lay RX4 TX4 7 ∈ aTb := tm_1_29 (List.mem_of_getElem? (i := 0) rfl) rfl
theorem lay_4_8 : u_lay RX4 TX4 8 ∈ aTb := tm_1_29 (List.mem_of_getElem? (i := 2) rfl) rfl
theorem lay_4_9 : u_lay RX4 TX4 9 ∈ aTb := tm_1_29 (List.mem_of_getElem? (i := 4) rfl) rfl
theorem lay_4_10 : u_lay RX4 TX4 10 ∈ aTb := tm_1_29 (List.mem_of_getElem? (i := 6) rfl) rfl
theorem lay_4_11 : u_lay RX4 TX4 11 ∈ aTb := tm_2_0 (List.mem_of_getElem? (i := 0) rfl) rfl
theorem lay_4_12 : u_lay RX4 TX4 12 ∈ aTb := tm_2_0 (List.mem_of_getElem? (i := 2) rfl) rfl
theorem cl_4 : aCl 4 RX4 TX4 := ⟨rfl, fun w hw => by
  obtain ⟨j, hj, rfl⟩ := List.mem_map.mp hw
  have hj : j < 13 := List.mem_range.mp hj
  rcases (show j = 0 ∨ j = 1 ∨ j = 2 ∨ j = 3 ∨ j = 4 ∨ j = 5 ∨ j = 6 ∨ j = 7 ∨ j = 8 ∨ j = 9 ∨ j = 10 ∨ j = 11 ∨ j = 12 by omega) with rfl | rfl | rfl | rfl | rfl | rfl | rfl | rfl | rfl | rfl | rfl | rfl | rfl
  · exact lay_4_0
  · exact lay_4_1
  · exact lay_4_2
  · exact lay_4_3
  · exact lay_4_4
  · exact lay_4_5
  · exact lay_4_6
  · exact lay_4_7
  · exact lay_4_8
  · exact lay_4_9
  · exact lay_4_10
  · exact lay_4_11
  · exact lay_4_12, tyX4_ok, nmX4, by decide +kernel⟩
theorem tb_179 : Cond.instantiable RX4 (aN 4) ∈ aTb := tm_1_22 (List.mem_of_getElem? (i := 3) rfl) rfl
theorem lay_5_0 : u_lay RX5 TX5 0 ∈ aTb := tm_1_24 (List.mem_of_getElem? (i := 2) rfl) rfl
theorem lay_5_1 : u_lay RX5 TX5 1 ∈ aTb := tm_1_24 (List.mem_of_getElem? (i := 4) rfl) rfl
theorem cl_5 : aCl 5 RX5 TX5 := ⟨rfl, fun w hw => by
  obtain ⟨j, hj, rfl⟩ := List.mem_map.mp hw
  have hj : j < 2 := List.mem_range.mp hj
  rcases (show j = 0 ∨ j = 1 by omega) with rfl | rfl
  · exact lay_5_0
  · exact lay_5_1, tyX5_ok, nmX5, by decide +kernel⟩
theorem tb_185 : Cond.instantiable RX5 (aN 5) ∈ aTb := tm_1_23 (List.mem_of_getElem? (i := 1) rfl) rfl
theorem lay_6_0 : u_lay RX6 TX6 0 ∈ aTb := tm_3_24 (List.mem_of_getElem? (i := 2) rfl) rfl
theorem lay_6_1 : u_lay RX6 TX6 1 ∈ aTb := tm_3_24 (List.mem_of_getElem? (i := 4) rfl) rfl
theorem lay_6_2 : u_lay RX6 TX6 2 ∈ aTb := tm_3_24 (List.mem_of_getElem? (i := 6) rfl) rfl
theorem cl_6 : aCl 6 RX6 TX6 := ⟨rfl, fun w hw => by
  obtain ⟨j, hj, rfl⟩ := List.mem_map.mp hw
  have hj : j < 3 := List.mem_range.mp hj
  rcases (show j = 0 ∨ j = 1 ∨ j = 2 by omega) with rfl | rfl | rfl
  · exact lay_6_0
  · exact lay_6_1
  · exact lay_6_2, tyX6_ok, nmX6, by decide +kernel⟩
theorem tb_649 : Cond.instantiable RX6 (aN 6) ∈ aTb := tm_3_21 (List.mem_of_getElem? (i := 1) rfl) rfl
theorem lay_7_0 : u_lay RX7 TX7 0 ∈ aTb := tm_1_17 (List.mem_of_getElem? (i := 3) rfl) rfl
theorem lay_7_1 : u_lay RX7 TX7 1 ∈ aTb := tm_1_17 (List.mem_of_getElem? (i := 5) rfl) rfl
theorem lay_7_2 : u_lay RX7 TX7 2 ∈ aTb := tm_1_17 (List.mem_of_getElem? (i := 7) rfl) rfl
theorem lay_7_3 : u_lay RX7 TX7 3 ∈ aTb := tm_1_18 (List.mem_of_getElem? (i := 1) rfl) rfl
theorem lay_7_4 : u_lay RX7 TX7 4 ∈ aTb := tm_1_18 (List.mem_of_getElem? (i := 3) rfl) rfl
theorem lay_7_5 : u_lay RX7 TX7 5 ∈ aTb := tm_1_18 (List.mem_of_getElem? (i := 5) rfl) rfl
theorem lay_7_6 : u_lay RX7 TX7 6 ∈ aTb := tm_1_18 (List.mem_of_getElem? (i := 7) rfl) rfl
theorem lay_7_7 : u_lay RX7 TX7 7 ∈ aTb := tm_1_19 (List.mem_of_getElem? (i := 1) rfl) rfl
theorem lay_7_8 : u_lay RX7 TX7 8 ∈ aTb := tm_1_19 (List.mem_of_getElem? (i := 3) rfl) rfl
theorem lay_7_9 : u_lay RX7 TX7 9 ∈ aTb := tm_1_19 (List.mem_of_getElem? (i := 5) rfl) rfl
theorem lay_7_10 : u_lay RX7 TX7 10 ∈ aTb := tm_1_19 (List.mem_of_getElem? (i := 7) rfl) rfl
theorem lay_7_11 : u_lay RX7 TX7 11 ∈ aTb := tm_1_20 (List.mem_of_getElem? (i := 1) rfl) rfl
theorem cl_7 : aCl 7 RX7 TX7 := ⟨rfl, fun w hw => by
  obtain ⟨j, hj, rfl⟩ := List.mem_map.mp hw
  have hj : j < 12 := List.mem_range.mp hj
  rcases (show j = 0 ∨ j = 1 ∨ j = 2 ∨ j = 3 ∨ j = 4 ∨ j = 5 ∨ j = 6 ∨ j = 7 ∨ j = 8 ∨ j = 9 ∨ j = 10 ∨ j = 11 by omega) with rfl | rfl | rfl | rfl | rfl | rfl | rfl | rfl | rfl | rfl | rfl | rfl
  · exact lay_7_0
  · exact lay_7_1
  · exact lay_7_2
  · exact lay_7_3
  · exact lay_7_4
  · exact lay_7_5
  · exact lay_7_6
  · exact lay_7_7
  · exact lay_7_8
  · exact lay_7_9
  · exact lay_7_10
  · exact lay_7_11, tyX7_ok, nmX7, by decide +kernel⟩
theorem tb_121 : Cond.instantiable RX7 (aN 7) ∈ aTb := tm_1_15 (List.mem_of_getElem? (i := 1) rfl) rfl
theorem lay_8_0 : u_lay RX8 TX8 0 ∈ aTb := tm_2_1 (List.mem_of_getElem? (i := 5) rfl) rfl
theorem lay_8_1 : u_lay RX8 TX8 1 ∈ aTb := tm_2_1 (List.mem_of_getElem? (i := 7) rfl) rfl
theorem cl_8 : aCl 8 RX8 TX8 := ⟨rfl, fun w hw => by
  obtain ⟨j, hj, rfl⟩ := List.mem_map.mp hw
  have hj : j < 2 := List.mem_range.mp hj
  rcases (show j = 0 ∨ j = 1 by omega) with rfl | rfl
  · exact lay_8_0
  · exact lay_8_1, tyX8_ok, nmX8, by decide +kernel⟩
theorem tb_246 : Cond.instantiable RX8 (aN 8) ∈ aTb := tm_2_0 (List.mem_of_getElem? (i := 6) rfl) rfl
theorem lay_9_0 : u_lay RX9 TX9 0 ∈ aTb := tm_1_14 (List.mem_of_getElem? (i := 3) rfl) rfl
theorem lay_9_1 : u_lay RX9 TX9 1 ∈ aTb := tm_1_14 (List.mem_of_getElem? (i := 5) rfl) rfl
theorem cl_9 : aCl 9 RX9 TX9 := ⟨rfl, fun w hw => by
  obtain ⟨j, hj, rfl⟩ := List.mem_map.mp hw
  have hj : j < 2 := List.mem_range.mp hj
  rcases (show j = 0 ∨ j = 1 by omega) with rfl | rfl
  · exact lay_9_0
  · exact lay_9_1, tyX9_ok, nmX9, by decide +kernel⟩
theorem tb_106 : Cond.instantiable RX9 (aN 9) ∈ aTb := tm_1_13 (List.mem_of_getElem? (i := 2) rfl) rfl
theorem lay_10_0 : u_lay RX10 TX10 0 ∈ aTb := tm_2_12 (List.mem_of_getElem? (i := 2) rfl) rfl
theorem lay_10_1 : u_lay RX10 TX10 1 ∈ aTb := tm_2_12 (List.mem_of_getElem? (i := 4) rfl) rfl
theorem lay_10_2 : u_lay RX10 TX10 2 ∈ aTb := tm_2_12 (List.mem_of_getElem? (i := 6) rfl) rfl
theorem lay_10_3 : u_lay RX10 TX10 3 ∈ aTb := tm_2_13 (List.mem_of_getElem? (i := 0) rfl) rfl
theorem lay_10_4 : u_lay RX10 TX10 4 ∈ aTb := tm_2_13 (List.mem_of_getElem? (i := 2) rfl) rfl
theorem lay_10_5 : u_lay RX10 TX10 5 ∈ aTb := tm_2_13 (List.mem_of_getElem? (i := 4) rfl) rfl
theorem lay_10_6 : u_lay RX10 TX10 6 ∈ aTb := tm_2_13 (List.mem_of_getElem? (i := 6) rfl) rfl
theorem lay_10_7 : u_lay RX10 TX10 7 ∈ aTb := tm_2_14 (List.mem_of_getElem? (i := 0) rfl) rfl
theorem lay_10_8 : u_lay RX10 TX10 8 ∈ aTb := tm_2_14 (List.mem_of_getElem? (i := 2) rfl) rfl
theorem lay_10_9 : u_lay RX10 TX10 9 ∈ aTb := tm_2_14 (List.mem_of_getElem? (i := 4) rfl) rfl
theorem lay_10_10 : u_lay RX10 TX10 10 ∈ aTb := tm_2_14 (List.mem_of_getElem? (i := 6) rfl) rfl
theorem lay_10_11 : u_lay RX10 TX10 11 ∈ aTb := tm_2_15 (List.mem_of_getElem? (i := 0) rfl) rfl
theorem lay_10_12 : u_lay RX10 TX10 12 ∈ aTb := tm_2_15 (List.mem_of_getElem? (i := 2) rfl) rfl
theorem lay_10_13 : u_lay RX10 TX10 13 ∈ aTb := tm_2_15 (List.mem_of_getElem? (i := 4) rfl) rfl
theorem lay_10_14 : u_lay RX10 TX10 14 ∈ aTb := tm_2_15 (List.mem_of_getElem? (i := 6) rfl) rfl
theorem lay_10_15 : u_lay RX10 TX10 15 ∈ aTb := tm_2_16 (List.mem_of_getElem? (i := 0) rfl) rfl
theorem lay_10_16 : u_lay RX10 TX10 16 ∈ aTb := tm_2_16 (List.mem_of_getElem? (i := 2) rfl) rfl
theorem cl_10 : aCl 10 RX10 TX10 := ⟨rfl, fun w hw => by
  obtain ⟨j, hj, rfl⟩ := List.mem_map.mp hw
  have hj : j < 17 := List.mem_range.mp hj
  rcases (show j = 0 ∨ j = 1 ∨ j = 2 ∨ j = 3 ∨ j = 4 ∨ j = 5 ∨ j = 6 ∨ j = 7 ∨ j = 8 ∨ j = 9 ∨ j = 10 ∨ j = 11 ∨ j = 12 ∨ j = 13 ∨ j = 14 ∨ j = 15 ∨ j = 16 by omega) with rfl | rfl | rfl | rfl | rfl | rfl | rfl | rfl | rfl | rfl | rfl | rfl | rfl | rfl | rfl | rfl | rfl
  · exact lay_10_0
  · exact lay_10_1
  · exact lay_10_2
  · exact lay_10_3
  · exact lay_10_4
  · exact lay_10_5
  · exact lay_10_6
  · exact lay_10_7
  · exact lay_10_8
  · exact lay_10_9
  · exact lay_10_10
  · exact lay_10_11
  · exact lay_10_12
  · exact lay_10_13
  · exact lay_10_14
  · exact lay_10_15
  · exact lay_10_16, tyX10_ok, nmX10, by decide +kernel⟩
theorem tb_22 : Cond.instantiable RX10 (aN 10) ∈ aTb := tm_1_2 (List.mem_of_getElem? (i := 6) rfl) rfl
theorem lay_11_0 : u_lay RX11 TX11 0 ∈ aTb := tm_5_21 (List.mem_of_getElem? (i := 6) rfl) rfl
theorem lay_11_1 : u_lay RX11 TX11 1 ∈ aTb := tm_5_22 (List.mem_of_getElem? (i := 0) rfl) rfl
theorem lay_11_2 : u_lay RX11 TX11 2 ∈ aTb := tm_5_22 (List.mem_of_getElem? (i := 2) rfl) rfl
theorem lay_11_3 : u_lay RX11 TX11 3 ∈ aTb := tm_5_22 (List.mem_of_getElem? (i := 4) rfl) rfl
theorem lay_11_4 : u_lay RX11 TX11 4 ∈ aTb := tm_5_22 (List.mem_of_getElem? (i := 6) rfl) rfl
theorem lay_11_5 : u_lay RX11 TX11 5 ∈ aTb := tm_5_23 (List.mem_of_getElem? (i := 0) rfl) rfl
theorem lay_11_6 : u_lay RX11 TX11 6 ∈ aTb := tm_5_23 (List.mem_of_getElem? (i := 2) rfl) rfl
theorem lay_11_7 : u_lay RX11 TX11 7 ∈ aTb := tm_5_23 (List.mem_of_getElem? (i := 4) rfl) rfl
theorem lay_11_8 : u_lay RX11 TX11 8 ∈ aTb := tm_5_23 (List.mem_of_getElem? (i := 6) rfl) rfl
theorem lay_11_9 : u_lay RX11 TX11 9 ∈ aTb := tm_5_24 (List.mem_of_getElem? (i := 0) rfl) rfl
theorem lay_11_10 : u_lay RX11 TX11 10 ∈ aTb := tm_5_24 (List.mem_of_getElem? (i := 2) rfl) rfl
theorem lay_11_11 : u_lay RX11 TX11 11 ∈ aTb := tm_5_24 (List.mem_of_getElem? (i := 4) rfl) rfl
theorem lay_11_12 : u_lay RX11 TX11 12 ∈ aTb := tm_5_24 (List.mem_of_getElem? (i := 6) rfl) rfl
theorem lay_11_13 : u_lay RX11 TX11 13 ∈ aTb := tm_5_25 (List.mem_of_getElem? (i := 0) rfl) rfl
theorem lay_11_14 : u_lay RX11 TX11 14 ∈ aTb := tm_5_25 (List.mem_of_getElem? (i := 2) rfl) rfl
theorem lay_11_15 : u_lay RX11 TX11 15 ∈ aTb := tm_5_25 (List.mem_of_getElem? (i := 4) rfl) rfl
theorem lay_11_16 : u_lay RX11 TX11 16 ∈ aTb := tm_5_25 (List.mem_of_getElem? (i := 6) rfl) rfl
theorem lay_11_17 : u_lay RX11 TX11 17 ∈ aTb := tm_5_26 (List.mem_of_getElem? (i := 0) rfl) rfl
theorem lay_11_18 : u_lay RX11 TX11 18 ∈ aTb := tm_5_26 (List.mem_of_getElem? (i := 2) rfl) rfl
theorem lay_11_19 : u_lay RX11 TX11 19 ∈ aTb := tm_5_26 (List.mem_of_getElem? (i := 4) rfl) rfl
theorem lay_11_20 : u_lay RX11 TX11 20 ∈ aTb := tm_5_26 (List.mem_of_getElem? (i := 6) rfl) rfl
theorem lay_11_21 : u_lay RX11 TX11 21 ∈ aTb := tm_5_27 (List.mem_of_getElem? (i := 0) rfl) rfl
theorem lay_11_22 : u_lay RX11 TX11 22 ∈ aTb := tm_5_27 (List.mem_of_getElem? (i := 2) rfl) rfl
theorem lay_11_23 : u_lay RX11 TX11 23 ∈ aTb := tm_5_27 (List.mem_of_getElem? (i := 4) rfl) rfl
theorem lay_11_24 : u_lay RX11 TX11 24 ∈ aTb := tm_5_27 (List.mem_of_getElem? (i := 6) rfl) rfl
theorem lay_11_25 : u_lay RX11 TX11 25 ∈ aTb := tm_5_28 (List.mem_of_getElem? (i := 0) rfl) rfl
theorem lay_11_26 : u_lay RX11 TX11 26 ∈ aTb := tm_5_28 (List.mem_of_getElem? (i := 2) rfl) rfl
theorem lay_11_27 : u_lay RX11 TX11 27 ∈ aTb := tm_5_28 (List.mem_of_getElem? (i := 4) rfl) rfl
theorem lay_11_28 : u_lay RX11 TX11 28 ∈ aTb := tm_5_28 (List.mem_of_getElem? (i := 6) rfl) rfl
theorem lay_11_29 : u_lay RX11 TX11 29 ∈ aTb := tm_5_29 (List.mem_of_getElem? (i := 0) rfl) rfl
theorem lay_11_30 : u_lay RX11 TX11 30 ∈ aTb := tm_5_29 (List.mem_of_getElem? (i := 2) rfl) rfl
theorem lay_11_31 : u_lay RX11 TX11 31 ∈ aTb := tm_5_29 (List.mem_of_getElem? (i := 4) rfl) rfl
theorem lay_11_32 : u_lay RX11 TX11 32 ∈ aTb := tm_5_29 (List.mem_of_getElem? (i := 6) rfl) rfl
theorem lay_11_33 : u_lay RX11 TX11 33 ∈ aTb := tm_6_0 (List.mem_of_getElem? (i := 0) rfl) rfl
theorem lay_11_34 : u_lay RX11 TX11 34 ∈ aTb := tm_6_0 (List.mem_of_getElem? (i := 2) rfl) rfl
theorem lay_11_35 : u_lay RX11 TX11 35 ∈ aTb := tm_6_0 (List.mem_of_getElem? (i := 4) rfl) rfl
theorem lay_11_36 : u_lay RX11 TX11 36 ∈ aTb := tm_6_0 (List.mem_of_getElem? (i := 6) rfl) rfl
theorem lay_11_37 : u_lay RX11 TX11 37 ∈ aTb := tm_6_1 (List.mem_of_getElem? (i := 0) rfl) rfl
theorem lay_11_38 : u_lay RX11 TX11 38 ∈ aTb := tm_6_1 (List.mem_of_getElem? (i := 2) rfl) rfl
theorem lay_11_39 : u_lay RX11 TX11 39 ∈ aTb := tm_6_1 (List.mem_of_getElem? (i := 4) rfl) rfl
theorem lay_11_40 : u_lay RX11 TX11 40 ∈ aTb := tm_6_1 (List.mem_of_getElem? (i := 6) rfl) rfl
theorem lay_11_41 : u_lay RX11 TX11 41 ∈ aTb := tm_6_2 (List.mem_of_getElem? (i := 0) rfl) rfl
theorem cl_11 : aCl 11 RX11 TX11 := ⟨rfl, fun w hw => by
  obtain ⟨j, hj, rfl⟩ := List.mem_map.mp hw
  have hj : j < 42 := List.mem_range.mp hj
  rcases (show j = 0 ∨ j = 1 ∨ j = 2 ∨ j = 3 ∨ j = 4 ∨ j = 5 ∨ j = 6 ∨ j = 7 ∨ j = 8 ∨ j = 9 ∨ j = 10 ∨ j = 11 ∨ j = 12 ∨ j = 13 ∨ j = 14 ∨ j = 15 ∨ j = 16 ∨ j = 17 ∨ j = 18 ∨ j = 19 ∨ j = 20 ∨ j = 21 ∨ j = 22 ∨ j = 23 ∨ j = 24 ∨ j = 25 ∨ j = 26 ∨ j = 27 ∨ j = 28 ∨ j = 29 ∨ j = 30 ∨ j = 31 ∨ j = 32 ∨ j = 33 ∨ j = 34 ∨ j = 35 ∨ j = 36 ∨ j = 37 ∨ j = 38 ∨ j = 39 ∨ j = 40 ∨ j = 41 by omega) with rfl | rfl | rfl | rfl | rfl | rfl | rfl | rfl | rfl | rfl | rfl | rfl | rfl | rfl | rfl | rfl | rfl | rfl | rfl | rfl | rfl | rfl | rfl | rfl | rfl | rfl | rfl | rfl | rfl | rfl | rfl | rfl | rfl | rfl | rfl | rfl | rfl | rfl | rfl | rfl | rfl | rfl
  · exact lay_11_0
  · exact lay_11_1
  · exact lay_11_2
  · exact lay_11_3
  · exact lay_11_4
  · exact lay_11_5
  · exact lay_11_6
  · exact lay_11_7
  · exact lay_11_8
  · exact lay_11_9
  · exact lay_11_10
  · exact lay_11_11
  · exact lay_11_12
  · exact lay_11_13
  · exact lay_11_14
  · exact lay_11_15
  · exact lay_11_16
  · exact lay_11_17
  · exact lay_11_18
  · exact lay_11_19
  · exact lay_11_20
  · exact lay_11_21
  · exact lay_11_22
  · exact lay_11_23
  · exact lay_11_24
  · exact lay_11_25
  · exact lay_11_26
  · exact lay_11_27
  · exact lay_11_28
  · exact lay_11_29
  · exact lay_11_30
  · exact lay_11_31
  · exact lay_11_32
  · exact lay_11_33
  · exact lay_11_34
  · exact lay_11_35
  · exact lay_11_36
  · exact lay_11_37
  · exact lay_11_38
  · exact lay_11_39
  · exact lay_11_40
  · exact lay_11_41, tyX11_ok, nmX11, by decide +kernel⟩
theorem tb_1083 : Cond.instantiable RX11 (aN 11) ∈ aTb := tm_5_15 (List.mem_of_getElem? (i := 3) rfl) rfl
theorem tb_1 : Cond.initialized RX10 ∈ aTb := tm_1_0 (List.mem_of_getElem? (i := 1) rfl) rfl
theorem tb_2 : Cond.initialized RX1 ∈ aTb := tm_1_0 (List.mem_of_getElem? (i := 2) rfl) rfl
theorem tb_3 : Cond.initialized RJ7 ∈ aTb := tm_1_0 (List.mem_of_getElem? (i := 3) rfl) rfl
theorem tb_4 : Cond.initialized RX9 ∈ aTb := tm_1_0 (List.mem_of_getElem? (i := 4) rfl) rfl
theorem tb_5 : Cond.initialized RX7 ∈ aTb := tm_1_0 (List.mem_of_getElem? (i := 5) rfl) rfl
theorem tb_6 : Cond.initialized RX0 ∈ aTb := tm_1_0 (List.mem_of_getElem? (i := 6) rfl) rfl
theorem tb_7 : Cond.initialized RX4 ∈ aTb := tm_1_0 (List.mem_of_getElem? (i := 7) rfl) rfl
theorem tb_8 : Cond.initialized RX5 ∈ aTb := tm_1_1 (List.mem_of_getElem? (i := 0) rfl) rfl
theorem tb_9 : Cond.initialized RX8 ∈ aTb := tm_1_1 (List.mem_of_getElem? (i := 1) rfl) rfl
theorem tb_10 : Cond.initialized RX3 ∈ aTb := tm_1_1 (List.mem_of_getElem? (i := 2) rfl) rfl
theorem tb_11 : Cond.initialized RX2 ∈ aTb := tm_1_1 (List.mem_of_getElem? (i := 3) rfl) rfl
theorem tb_12 : Cond.initialized RX11 ∈ aTb := tm_1_1 (List.mem_of_getElem? (i := 4) rfl) rfl
theorem tb_13 : Cond.initialized RJ9 ∈ aTb := tm_1_1 (List.mem_of_getElem? (i := 5) rfl) rfl
theorem tb_14 : Cond.initialized RJ0 ∈ aTb := tm_1_1 (List.mem_of_getElem? (i := 6) rfl) rfl
theorem tb_15 : Cond.initialized RJ1 ∈ aTb := tm_1_1 (List.mem_of_getElem? (i := 7) rfl) rfl
theorem tb_16 : Cond.initialized RJ3 ∈ aTb := tm_1_2 (List.mem_of_getElem? (i := 0) rfl) rfl
theorem tb_18 : Cond.initialized RX6 ∈ aTb := tm_1_2 (List.mem_of_getElem? (i := 2) rfl) rfl
theorem tb_19 : Cond.initialized RJ10 ∈ aTb := tm_1_2 (List.mem_of_getElem? (i := 3) rfl) rfl
theorem tb_20 : Cond.initialized RJ6 ∈ aTb := tm_1_2 (List.mem_of_getElem? (i := 4) rfl) rfl
theorem tb_21 : Cond.classLink RL 7 RX10 ∈ aTb := tm_1_2 (List.mem_of_getElem? (i := 5) rfl) rfl
theorem tb_23 : Cond.methodLink RL 9 yX10_init ∈ aTb := tm_1_2 (List.mem_of_getElem? (i := 7) rfl) rfl
theorem tb_24 : Cond.instanceMethod yX10_init ∈ aTb := tm_1_3 (List.mem_of_getElem? (i := 0) rfl) rfl
theorem tb_26 : Cond.methodLink RX10 1 objectInit ∈ aTb := tm_1_3 (List.mem_of_getElem? (i := 2) rfl) rfl
theorem tb_27 : Cond.instanceMethod objectInit ∈ aTb := tm_1_3 (List.mem_of_getElem? (i := 3) rfl) rfl
theorem tb_28 : Cond.code objectInit ⟨#[0xb1]⟩ 1 none ∈ aTb := tm_1_3 (List.mem_of_getElem? (i := 4) rfl) rfl
theorem tb_29 : Cond.classLink RX10 7 RX1 ∈ aTb := tm_1_3 (List.mem_of_getElem? (i := 5) rfl) rfl
theorem tb_31 : Cond.methodLink RX10 9 yX1_init ∈ aTb := tm_1_3 (List.mem_of_getElem? (i := 7) rfl) rfl
theorem tb_32 : Cond.instanceMethod yX1_init ∈ aTb := tm_1_4 (List.mem_of_getElem? (i := 0) rfl) rfl
theorem tb_34 : Cond.methodLink RX1 3 objectInit ∈ aTb := tm_1_4 (List.mem_of_getElem? (i := 2) rfl) rfl
theorem tb_35 : Cond.classLink RX1 18 RX6 ∈ aTb := tm_1_4 (List.mem_of_getElem? (i := 3) rfl) rfl
theorem tb_37 : Cond.methodLink RX1 37 yJ7_fill_53178 ∈ aTb := tm_1_4 (List.mem_of_getElem? (i := 5) rfl) rfl
theorem tb_38 : Cond.static yJ7_fill_53178 ∈ aTb := tm_1_4 (List.mem_of_getElem? (i := 6) rfl) rfl
theorem tb_40 : Cond.fieldLink RX1 9 "LitCoast$Coast" "oil" "[I" ∈ aTb := tm_1_5 (List.mem_of_getElem? (i := 0) rfl) rfl
theorem tb_41 : Cond.fieldLink RX10 99 "LitCoast$Coast" "oil" "[I" ∈ aTb := tm_1_5 (List.mem_of_getElem? (i := 1) rfl) rfl
theorem tb_42 : Cond.fieldLink RX4 149 "LitCoast$Coast" "oil" "[I" ∈ aTb := tm_1_5 (List.mem_of_getElem? (i := 2) rfl) rfl
theorem tb_43 : Cond.fieldLink RX1 15 "LitCoast$Coast" "code" "[I" ∈ aTb := tm_1_5 (List.mem_of_getElem? (i := 3) rfl) rfl
theorem tb_44 : Cond.fieldLink RX3 78 "LitCoast$Coast" "code" "[I" ∈ aTb := tm_1_5 (List.mem_of_getElem? (i := 4) rfl) rfl
theorem tb_45 : Cond.fieldLink RX8 47 "LitCoast$Coast" "code" "[I" ∈ aTb := tm_1_5 (List.mem_of_getElem? (i := 5) rfl) rfl
theorem tb_46 : Cond.fieldLink RX4 70 "LitCoast$Coast" "code" "[I" ∈ aTb := tm_1_5 (List.mem_of_getElem? (i := 6) rfl) rfl
theorem tb_47 : Cond.fieldLink RX10 137 "LitCoast$Coast" "code" "[I" ∈ aTb := tm_1_5 (List.mem_of_getElem? (i := 7) rfl) rfl
theorem tb_48 : Cond.fieldLink RX1 20 "LitCoast$Coast" "laws" "[LLitCoast$Law;" ∈ aTb := tm_1_6 (List.mem_of_getElem? (i := 0) rfl) rfl
theorem tb_49 : Cond.fieldLink RX10 177 "LitCoast$Coast" "laws" "[LLitCoast$Law;" ∈ aTb := tm_1_6 (List.mem_of_getElem? (i := 1) rfl) rfl
theorem tb_50 : Cond.fieldLink RX1 24 "LitCoast$Coast" "log" "[I" ∈ aTb := tm_1_6 (List.mem_of_getElem? (i := 2) rfl) rfl
theorem tb_51 : Cond.fieldLink RX10 247 "LitCoast$Coast" "log" "[I" ∈ aTb := tm_1_6 (List.mem_of_getElem? (i := 3) rfl) rfl
theorem tb_52 : Cond.fieldLink RX1 27 "LitCoast$Coast" "wanted" "[I" ∈ aTb := tm_1_6 (List.mem_of_getElem? (i := 4) rfl) rfl
theorem tb_53 : Cond.fieldLink RX3 81 "LitCoast$Coast" "wanted" "[I" ∈ aTb := tm_1_6 (List.mem_of_getElem? (i := 5) rfl) rfl
theorem tb_54 : Cond.fieldLink RX10 278 "LitCoast$Coast" "wanted" "[I" ∈ aTb := tm_1_6 (List.mem_of_getElem? (i := 6) rfl) rfl
theorem tb_55 : Cond.fieldLink RX1 30 "LitCoast$Coast" "lamps" "I" ∈ aTb := tm_1_6 (List.mem_of_getElem? (i := 7) rfl) rfl
theorem tb_56 : Cond.fieldLink RX10 93 "LitCoast$Coast" "lamps" "I" ∈ aTb := tm_1_7 (List.mem_of_getElem? (i := 0) rfl) rfl
theorem tb_57 : Cond.fieldLink RX3 71 "LitCoast$Coast" "lamps" "I" ∈ aTb := tm_1_7 (List.mem_of_getElem? (i := 1) rfl) rfl
theorem tb_58 : Cond.fieldLink RX0 64 "LitCoast$Coast" "lamps" "I" ∈ aTb := tm_1_7 (List.mem_of_getElem? (i := 2) rfl) rfl
theorem tb_59 : Cond.fieldLink RX4 146 "LitCoast$Coast" "lamps" "I" ∈ aTb := tm_1_7 (List.mem_of_getElem? (i := 3) rfl) rfl
theorem tb_60 : Cond.fieldLink RX1 34 "LitCoast$Coast" "news" "I" ∈ aTb := tm_1_7 (List.mem_of_getElem? (i := 4) rfl) rfl
theorem tb_61 : Cond.fieldLink RX0 42 "LitCoast$Coast" "news" "I" ∈ aTb := tm_1_7 (List.mem_of_getElem? (i := 5) rfl) rfl
theorem tb_62 : Cond.fieldLink RX10 117 "LitCoast$Coast" "news" "I" ∈ aTb := tm_1_7 (List.mem_of_getElem? (i := 6) rfl) rfl
theorem tb_63 : Cond.fieldLink RX8 53 "LitCoast$Coast" "news" "I" ∈ aTb := tm_1_7 (List.mem_of_getElem? (i := 7) rfl) rfl
theorem tb_64 : Cond.fieldLink RX4 83 "LitCoast$Coast" "news" "I" ∈ aTb := tm_1_8 (List.mem_of_getElem? (i := 0) rfl) rfl
theorem tb_65 : Cond.fieldLink RX10 96 "LitCoast$Coast" "broken" "I" ∈ aTb := tm_1_8 (List.mem_of_getElem? (i := 1) rfl) rfl
theorem tb_66 : Cond.fieldLink RX3 84 "LitCoast$Coast" "broken" "I" ∈ aTb := tm_1_8 (List.mem_of_getElem? (i := 2) rfl) rfl
theorem tb_67 : Cond.fieldLink RX4 79 "LitCoast$Coast" "broken" "I" ∈ aTb := tm_1_8 (List.mem_of_getElem? (i := 3) rfl) rfl
theorem tb_68 : Cond.fieldLink RX1 47 "LitCoast$Coast" "broken" "I" ∈ aTb := tm_1_8 (List.mem_of_getElem? (i := 4) rfl) rfl
theorem tb_69 : Cond.fieldLink RX1 58 "LitCoast$Coast" "state" "I" ∈ aTb := tm_1_8 (List.mem_of_getElem? (i := 5) rfl) rfl
theorem tb_70 : Cond.fieldLink RX10 236 "LitCoast$Coast" "state" "I" ∈ aTb := tm_1_8 (List.mem_of_getElem? (i := 6) rfl) rfl
theorem tb_71 : Cond.fieldLink RX10 170 "LitCoast$Coast" "lawCount" "I" ∈ aTb := tm_1_8 (List.mem_of_getElem? (i := 7) rfl) rfl
theorem tb_72 : Cond.fieldLink RX1 73 "LitCoast$Coast" "lawCount" "I" ∈ aTb := tm_1_9 (List.mem_of_getElem? (i := 0) rfl) rfl
theorem tb_73 : Cond.fieldLink RX1 61 "LitCoast$Coast" "logCount" "I" ∈ aTb := tm_1_9 (List.mem_of_getElem? (i := 1) rfl) rfl
theorem tb_74 : Cond.fieldLink RX10 239 "LitCoast$Coast" "logCount" "I" ∈ aTb := tm_1_9 (List.mem_of_getElem? (i := 2) rfl) rfl
theorem tb_75 : Cond.fieldLink RX3 68 "LitCoast$Coast" "wantedCount" "I" ∈ aTb := tm_1_9 (List.mem_of_getElem? (i := 3) rfl) rfl
theorem tb_76 : Cond.fieldLink RX1 64 "LitCoast$Coast" "wantedCount" "I" ∈ aTb := tm_1_9 (List.mem_of_getElem? (i := 4) rfl) rfl
theorem tb_77 : Cond.fieldLink RX10 275 "LitCoast$Coast" "wantedCount" "I" ∈ aTb := tm_1_9 (List.mem_of_getElem? (i := 5) rfl) rfl
theorem tb_103 : Cond.arrayClass .int ∈ aTb := tm_1_12 (List.mem_of_getElem? (i := 7) rfl) rfl
theorem tb_105 : Cond.classLink RX10 20 RX9 ∈ aTb := tm_1_13 (List.mem_of_getElem? (i := 1) rfl) rfl
theorem tb_108 : Cond.instanceMethod yX9_init ∈ aTb := tm_1_13 (List.mem_of_getElem? (i := 4) rfl) rfl
theorem tb_110 : Cond.methodLink RX9 3 objectInit ∈ aTb := tm_1_13 (List.mem_of_getElem? (i := 6) rfl) rfl
theorem tb_111 : Cond.fieldLink RX9 9 "LitCoast$Tape" "bytes" "[I" ∈ aTb := tm_1_13 (List.mem_of_getElem? (i := 7) rfl) rfl
theorem tb_112 : Cond.fieldLink RX9 15 "LitCoast$Tape" "length" "I" ∈ aTb := tm_1_14 (List.mem_of_getElem? (i := 0) rfl) rfl
theorem tb_113 : Cond.fieldLink RX10 148 "LitCoast$Tape" "length" "I" ∈ aTb := tm_1_14 (List.mem_of_getElem? (i := 1) rfl) rfl
theorem tb_114 : Cond.fieldLink RX7 128 "LitCoast$Tape" "length" "I" ∈ aTb := tm_1_14 (List.mem_of_getElem? (i := 2) rfl) rfl
theorem tb_120 : Cond.classLink RX10 27 RX7 ∈ aTb := tm_1_15 (List.mem_of_getElem? (i := 0) rfl) rfl
theorem tb_122 : Cond.methodLink RX10 29 yX7_init ∈ aTb := tm_1_15 (List.mem_of_getElem? (i := 2) rfl) rfl
theorem tb_123 : Cond.instanceMethod yX7_init ∈ aTb := tm_1_15 (List.mem_of_getElem? (i := 3) rfl) rfl
