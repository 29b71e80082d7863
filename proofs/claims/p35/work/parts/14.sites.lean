def aSX (own : String) (idx : Nat) (M : aM) (n : Nat) : Prop := aSb own idx M n ∧ Cond.instanceMethod M.1 ∈ aTb ∧ Cond.selects M.1.cls M.1 M.1 ∈ aTb ∧ M.1.cls = "java/lang/String"
theorem aTb_of {w : Cond} (hm : w ∈ tables_1) (hg : goodWord w = true) : w ∈ aTb := List.mem_filter.mpr ⟨List.mem_append_right _ hm, hg⟩
theorem aTb_sel {y : MethodName} (i : Nat) (h : lw_privs[i]?.map (fun q => q.1) = some y) (hg : goodWord (Cond.selects y.cls y y) = true) : Cond.selects y.cls y y ∈ aTb := by
  obtain ⟨q, hq, rfl⟩ := Option.map_eq_some_iff.mp h
  exact List.mem_filter.mpr ⟨List.mem_append_left _ (List.mem_map.mpr ⟨q, List.mem_of_getElem? hq, rfl⟩), hg⟩
theorem tm_1_0 {w : Cond} (h : w ∈ tg_1_0) (hg : goodWord w = true) : w ∈ aTb := aTb_of (tq_1_0 h) hg
theorem tm_1_1 {w : Cond} (h : w ∈ tg_1_1) (hg : goodWord w = true) : w ∈ aTb := aTb_of (tq_1_1 h) hg
theorem tm_1_2 {w : Cond} (h : w ∈ tg_1_2) (hg : goodWord w = true) : w ∈ aTb := aTb_of (tq_1_2 h) hg
theorem tm_1_3 {w : Cond} (h : w ∈ tg_1_3) (hg : goodWord w = true) : w ∈ aTb := aTb_of (tq_1_3 h) hg
theorem tm_1_4 {w : Cond} (h : w ∈ tg_1_4) (hg : goodWord w = true) : w ∈ aTb := aTb_of (tq_1_4 h) hg
theorem tm_1_5 {w : Cond} (h : w ∈ tg_1_5) (hg : goodWord w = true) : w ∈ aTb := aTb_of (tq_1_5 h) hg
theorem tm_1_6 {w : Cond} (h : w ∈ tg_1_6) (hg : goodWord w = true) : w ∈ aTb := aTb_of (tq_1_6 h) hg
theorem tm_1_7 {w : Cond} (h : w ∈ tg_1_7) (hg : goodWord w = true) : w ∈ aTb := aTb_of (tq_1_7 h) hg
theorem tm_1_8 {w : Cond} (h : w ∈ tg_1_8) (hg : goodWord w = true) : w ∈ aTb := aTb_of (tq_1_8 h) hg
theorem tm_1_9 {w : Cond} (h : w ∈ tg_1_9) (hg : goodWord w = true) : w ∈ aTb := aTb_of (tq_1_9 h) hg
theorem tm_1_10 {w : Cond} (h : w ∈ tg_1_10) (hg : goodWord w = true) : w ∈ aTb := aTb_of (tq_1_10 h) hg
theorem tm_1_11 {w : Cond} (h : w ∈ tg_1_11) (hg : goodWord w = true) : w ∈ aTb := aTb_of (tq_1_11 h) hg
theorem tm_1_12 {w : Cond} (h : w ∈ tg_1_12) (hg : goodWord w = true) : w ∈ aTb := aTb_of (tq_1_12 h) hg
theorem tm_1_13 {w : Cond} (h : w ∈ tg_1_13) (hg : goodWord w = true) : w ∈ aTb := aTb_of (tq_1_13 h) hg
theorem tm_1_14 {w : Cond} (h : w ∈ tg_1_14) (hg : goodWord w = true) : w ∈ aTb := aTb_of (tq_1_14 h) hg
theorem tm_1_15 {w : Cond} (h : w ∈ tg_1_15) (hg : goodWord w = true) : w ∈ aTb := aTb_of (tq_1_15 h) hg
theorem tm_1_16 {w : Cond} (h : w ∈ tg_1_16) (hg : goodWord w = true) : w ∈ aTb := aTb_of (tq_1_16 h) hg
theorem tm_1_17 {w : Cond} (h : w ∈ tg_1_17) (hg : goodWord w = true) : w ∈ aTb := aTb_of (tq_1_17 h) hg
theorem tm_1_18 {w : Cond} (h : w ∈ tg_1_18) (hg : goodWord w = true) : w ∈ aTb := aTb_of (tq_1_18 h) hg
theorem tm_1_19 {w : Cond} (h : w ∈ tg_1_19) (hg : goodWord w = true) : w ∈ aTb := aTb_of (tq_1_19 h) hg
theorem tm_1_20 {w : Cond} (h : w ∈ tg_1_20) (hg : goodWord w = true) : w ∈ aTb := aTb_of (tq_1_20 h) hg
theorem tm_1_21 {w : Cond} (h : w ∈ tg_1_21) (hg : goodWord w = true) : w ∈ aTb := aTb_of (tq_1_21 h) hg
theorem tm_1_22 {w : Cond} (h : w ∈ tg_1_22) (hg : goodWord w = true) : w ∈ aTb := aTb_of (tq_1_22 h) hg
theorem tm_1_23 {w : Cond} (h : w ∈ tg_1_23) (hg : goodWord w = true) : w ∈ aTb := aTb_of (tq_1_23 h) hg
theorem tm_1_24 {w : Cond} (h : w ∈ tg_1_24) (hg : goodWord w = true) : w ∈ aTb := aTb_of (tq_1_24 h) hg
theorem tm_1_25 {w : Cond} (h : w ∈ tg_1_25) (hg : goodWord w = true) : w ∈ aTb := aTb_of (tq_1_25 h) hg
theorem tm_1_26 {w : Cond} (h : w ∈ tg_1_26) (hg : goodWord w = true) : w ∈ aTb := aTb_of (tq_1_26 h) hg
theorem tm_1_27 {w : Cond} (h : w ∈ tg_1_27) (hg : goodWord w = true) : w ∈ aTb := aTb_of (tq_1_27 h) hg
theorem tm_1_28 {w : Cond} (h : w ∈ tg_1_28) (hg : goodWord w = true) : w ∈ aTb := aTb_of (tq_1_28 h) hg
theorem tm_1_29 {w : Cond} (h : w ∈ tg_1_29) (hg : goodWord w = true) : w ∈ aTb := aTb_of (tq_1_29 h) hg
theorem tm_2_0 {w : Cond} (h : w ∈ tg_2_0) (hg : goodWord w = true) : w ∈ aTb := aTb_of (tq_2_0 h) hg
theorem tm_2_1 {w : Cond} (h : w ∈ tg_2_1) (hg : goodWord w = true) : w ∈ aTb := aTb_of (tq_2_1 h) hg
theorem tm_2_2 {w : Cond} (h : w ∈ tg_2_2) (hg : goodWord w = true) : w ∈ aTb := aTb_of (tq_2_2 h) hg
theorem tm_2_3 {w : Cond} (h : w ∈ tg_2_3) (hg : goodWord w = true) : w ∈ aTb := aTb_of (tq_2_3 h) hg
theorem tm_2_4 {w : Cond} (h : w ∈ tg_2_4) (hg : goodWord w = true) : w ∈ aTb := aTb_of (tq_2_4 h) hg
theorem tm_2_5 {w : Cond} (h : w ∈ tg_2_5) (hg : goodWord w = true) : w ∈ aTb := aTb_of (tq_2_5 h) hg
theorem tm_2_6 {w : Cond} (h : w ∈ tg_2_6) (hg : goodWord w = true) : w ∈ aTb := aTb_of (tq_2_6 h) hg
theorem tm_2_7 {w : Cond} (h : w ∈ tg_2_7) (hg : goodWord w = true) : w ∈ aTb := aTb_of (tq_2_7 h) hg
theorem tm_2_8 {w : Cond} (h : w ∈ tg_2_8) (hg : goodWord w = true) : w ∈ aTb := aTb_of (tq_2_8 h) hg
theorem tm_2_9 {w : Cond} (h : w ∈ tg_2_9) (hg : goodWord w = true) : w ∈ aTb := aTb_of (tq_2_9 h) hg
theorem tm_2_10 {w : Cond} (h : w ∈ tg_2_10) (hg : goodWord w = true) : w ∈ aTb := aTb_of (tq_2_10 h) hg
theorem tm_2_11 {w : Cond} (h : w ∈ tg_2_11) (hg : goodWord w = true) : w ∈ aTb := aTb_of (tq_2_11 h) hg
theorem tm_2_12 {w : Cond} (h : w ∈ tg_2_12) (hg : goodWord w = true) : w ∈ aTb := aTb_of (tq_2_12 h) hg
theorem tm_2_13 {w : Cond} (h : w ∈ tg_2_13) (hg : goodWord w = true) : w ∈ aTb := aTb_of (tq_2_13 h) hg
theorem tm_2_14 {w : Cond} (h : w ∈ tg_2_14) (hg : goodWord w = true) : w ∈ aTb := aTb_of (tq_2_14 h) hg
theorem tm_2_15 {w : Cond} (h : w ∈ tg_2_15) (hg : goodWord w = true) : w ∈ aTb := aTb_of (tq_2_15 h) hg
theorem tm_2_16 {w : Cond} (h : w ∈ tg_2_16) (hg : goodWord w = true) : w ∈ aTb := aTb_of (tq_2_16 h) hg
theorem tm_2_17 {w : Cond} (h : w ∈ tg_2_17) (hg : goodWord w = true) : w ∈ aTb := aTb_of (tq_2_17 h) hg
theorem tm_2_18 {w : Cond} (h : w ∈ tg_2_18) (hg : goodWord w = true) : w ∈ aTb := aTb_of (tq_2_18 h) hg
theorem tm_2_19 {w : Cond} (h : w ∈ tg_2_19) (hg : goodWord w = true) : w ∈ aTb := aTb_of (tq_2_19 h) hg
theorem tm_2_20 {w : Cond} (h : w ∈ tg_2_20) (hg : goodWord w = true) : w ∈ aTb := aTb_of (tq_2_20 h) hg
theorem tm_2_21 {w : Cond} (h : w ∈ tg_2_21) (hg : goodWord w = true) : w ∈ aTb := aTb_of (tq_2_21 h) hg
theorem tm_2_22 {w : Cond} (h : w ∈ tg_2_22) (hg : goodWord w = true) : w ∈ aTb := aTb_of (tq_2_22 h) hg
theorem tm_2_23 {w : Cond} (h : w ∈ tg_2_23) (hg : goodWord w = true) : w ∈ aTb := aTb_of (tq_2_23 h) hg
theorem tm_2_24 {w : Cond} (h : w ∈ tg_2_24) (hg : goodWord w = true) : w ∈ aTb := aTb_of (tq_2_24 h) hg
theorem tm_2_25 {w : Cond} (h : w ∈ tg_2_25) (hg : goodWord w = true) : w ∈ aTb := aTb_of (tq_2_25 h) hg
theorem tm_2_26 {w : Cond} (h : w ∈ tg_2_26) (hg : goodWord w = true) : w ∈ aTb := aTb_of (tq_2_26 h) hg
theorem tm_2_27 {w : Cond} (h : w ∈ tg_2_27) (hg : goodWord w = true) : w ∈ aTb := aTb_of (tq_2_27 h) hg
theorem tm_2_28 {w : Cond} (h : w ∈ tg_2_28) (hg : goodWord w = true) : w ∈ aTb := aTb_of (tq_2_28 h) hg
theorem tm_2_29 {w : Cond} (h : w ∈ tg_2_29) (hg : goodWord w = true) : w ∈ aTb := aTb_of (tq_2_29 h) hg
theorem tm_3_0 {w : Cond} (h : w ∈ tg_3_0) (hg : goodWord w = true) : w ∈ aTb := aTb_of (tq_3_0 h) hg
theorem tm_3_1 {w : Cond} (h : w ∈ tg_3_1) (hg : goodWord w = true) : w ∈ aTb := aTb_of (tq_3_1 h) hg
theorem tm_3_2 {w : Cond} (h : w ∈ tg_3_2) (hg : goodWord w = true) : w ∈ aTb := aTb_of (tq_3_2 h) hg
theorem tm_3_3 {w : Cond} (h : w ∈ tg_3_3) (hg : goodWord w = true) : w ∈ aTb := aTb_of (tq_3_3 h) hg
theorem tm_3_4 {w : Cond} (h : w ∈ tg_3_4) (hg : goodWord w = true) : w ∈ aTb := aTb_of (tq_3_4 h) hg
theorem tm_3_5 {w : Cond} (h : w ∈ tg_3_5) (hg : goodWord w = true) : w ∈ aTb := aTb_of (tq_3_5 h) hg
theorem tm_3_6 {w : Cond} (h : w ∈ tg_3_6) (hg : goodWord w = true) : w ∈ aTb := aTb_of (tq_3_6 h) hg
theorem tm_3_7 {w : Cond} (h : w ∈ tg_3_7) (hg : goodWord w = true) : w ∈ aTb := aTb_of (tq_3_7 h) hg
theorem tm_3_10 {w : Cond} (h : w ∈ tg_3_10) (hg : goodWord w = true) : w ∈ aTb := aTb_of (tq_3_10 h) hg
theorem tm_3_11 {w : Cond} (h : w ∈ tg_3_11) (hg : goodWord w = true) : w ∈ aTb := aTb_of (tq_3_11 h) hg
theorem tm_3_12 {w : Cond} (h : w ∈ tg_3_12) (hg : goodWord w = true) : w ∈ aTb := aTb_of (tq_3_12 h) hg
theorem tm_3_13 {w : Cond} (h : w ∈ tg_3_13) (hg : goodWord w = true) : w ∈ aTb := aTb_of (tq_3_13 h) hg
theorem tm_3_14 {w : Cond} (h : w ∈ tg_3_14) (hg : goodWord w = true) : w ∈ aTb := aTb_of (tq_3_14 h) hg
theorem tm_3_15 {w : Cond} (h : w ∈ tg_3_15) (hg : goodWord w = true) : w ∈ aTb := aTb_of (tq_3_15 h) hg
theorem tm_3_16 {w : Cond} (h : w ∈ tg_3_16) (hg : goodWord w = true) : w ∈ aTb := aTb_of (tq_3_16 h) hg
theorem tm_3_17 {w : Cond} (h : w ∈ tg_3_17) (hg : goodWord w = true) : w ∈ aTb := aTb_of (tq_3_17 h) hg
theorem tm_3_18 {w : Cond} (h : w ∈ tg_3_18) (hg : goodWord w = true) : w ∈ aTb := aTb_of (tq_3_18 h) hg
theorem tm_3_19 {w : Cond} (h : w ∈ tg_3_19) (hg : goodWord w = true) : w ∈ aTb := aTb_of (tq_3_19 h) hg
theorem tm_3_20 {w : Cond} (h : w ∈ tg_3_20) (hg : goodWord w = true) : w ∈ aTb := aTb_of (tq_3_20 h) hg
theorem tm_3_21 {w : Cond} (h : w ∈ tg_3_21) (hg : goodWord w = true) : w ∈ aTb := aTb_of (tq_3_21 h) hg
theorem tm_3_22 {w : Cond} (h : w ∈ tg_3_22) (hg : goodWord w = true) : w ∈ aTb := aTb_of (tq_3_22 h) hg
theorem tm_3_23 {w : Cond} (h : w ∈ tg_3_23) (hg : goodWord w = true) : w ∈ aTb := aTb_of (tq_3_23 h) hg
theorem tm_3_24 {w : Cond} (h : w ∈ tg_3_24) (hg : goodWord w = true) : w ∈ aTb := aTb_of (tq_3_24 h) hg
theorem tm_3_25 {w : Cond} (h : w ∈ tg_3_25) (hg : goodWord w = true) : w ∈ aTb := aTb_of (tq_3_25 h) hg
theorem tm_3_26 {w : Cond} (h : w ∈ tg_3_26) (hg : goodWord w = true) : w ∈ aTb := aTb_of (tq_3_26 h) hg
theorem tm_3_27 {w : Cond} (h : w ∈ tg_3_27) (hg : goodWord w = true) : w ∈ aTb := aTb_of (tq_3_27 h) hg
theorem tm_3_28 {w : Cond} (h : w ∈ tg_3_28) (hg : goodWord w = true) : w ∈ aTb := aTb_of (tq_3_28 h) hg
theorem tm_3_29 {w : Cond} (h : w ∈ tg_3_29) (hg : goodWord w = true) : w ∈ aTb := aTb_of (tq_3_29 h) hg
theorem tm_4_0 {w : Cond} (h : w ∈ tg_4_0) (hg : goodWord w = true) : w ∈ aTb := aTb_of (tq_4_0 h) hg
theorem tm_4_1 {w : Cond} (h : w ∈ tg_4_1) (hg : goodWord w = true) : w ∈ aTb := aTb_of (tq_4_1 h) hg
theorem tm_4_2 {w : Cond} (h : w ∈ tg_4_2) (hg : goodWord w = true) : w ∈ aTb := aTb_of (tq_4_2 h) hg
theorem tm_4_3 {w : Cond} (h : w ∈ tg_4_3) (hg : goodWord w = true) : w ∈ aTb := aTb_of (tq_4_3 h) hg
theorem tm_4_4 {w : Cond} (h : w ∈ tg_4_4) (hg : goodWord w = true) : w ∈ aTb := aTb_of (tq_4_4 h) hg
theorem tm_4_5 {w : Cond} (h : w ∈ tg_4_5) (hg : goodWord w = true) : w ∈ aTb := aTb_of (tq_4_5 h) hg
theorem tm_4_6 {w : Cond} (h : w ∈ tg_4_6) (hg : goodWord w = true) : w ∈ aTb := aTb_of (tq_4_6 h) hg
theorem tm_4_7 {w : Cond} (h : w ∈ tg_4_7) (hg : goodWord w = true) : w ∈ aTb := aTb_of (tq_4_7 h) hg
theorem tm_4_8 {w : Cond} (h : w ∈ tg_4_8) (hg : goodWord w = true) : w ∈ aTb := aTb_of (tq_4_8 h) hg
theorem tm_4_9 {w : Cond} (h : w ∈ tg_4_9) (hg : goodWord w = true) : w ∈ aTb := aTb_of (tq_4_9 h) hg
theorem tm_4_10 {w : Cond} (h : w ∈ tg_4_10) (hg : goodWord w = true) : w ∈ aTb := aTb_of (tq_4_10 h) hg
theorem tm_4_11 {w : Cond} (h : w ∈ tg_4_11) (hg : goodWord w = true) : w ∈ aTb := aTb_of (tq_4_11 h) hg
theorem tm_4_12 {w : Cond} (h : w ∈ tg_4_12) (hg : goodWord w = true) : w ∈ aTb := aTb_of (tq_4_12 h) hg
theorem tm_4_13 {w : Cond} (h : w ∈ tg_4_13) (hg : goodWord w = true) : w ∈ aTb := aTb_of (tq_4_13 h) hg
theorem tm_4_14 {w : Cond} (h : w ∈ tg_4_14) (hg : goodWord w = true) : w ∈ aTb := aTb_of (tq_4_14 h) hg
theorem tm_4_15 {w : Cond} (h : w ∈ tg_4_15) (hg : goodWord w = true) : w ∈ aTb := aTb_of (tq_4_15 h) hg
theorem tm_4_16 {w : Cond} (h : w ∈ tg_4_16) (hg : goodWord w = true) : w ∈ aTb := aTb_of (tq_4_16 h) hg
theorem tm_4_17 {w : Cond} (h : w ∈ tg_4_17) (hg : goodWord w = true) : w ∈ aTb := aTb_of (tq_4_17 h) hg
theorem tm_4_18 {w : Cond} (h : w ∈ tg_4_18) (hg : goodWord w = true) : w ∈ aTb := aTb_of (tq_4_18 h) hg
theorem tm_4_19 {w : Cond} (h : w ∈ tg_4_19) (hg : goodWord w = true) : w ∈ aTb := aTb_of (tq_4_19 h) hg
theorem tm_4_20 {w : Cond} (h : w ∈ tg_4_20) (hg : goodWord w = true) : w ∈ aTb := aTb_of (tq_4_20 h) hg
theorem tm_4_21 {w : Cond} (h : w ∈ tg_4_21) (hg : goodWord w = true) : w ∈ aTb := aTb_of (tq_4_21 h) hg
theorem tm_4_22 {w : Cond} (h : w ∈ tg_4_22) (hg : goodWord w = true) : w ∈ aTb := aTb_of (tq_4_22 h) hg
theorem tm_4_23 {w : Cond} (h : w ∈ tg_4_23) (hg : goodWord w = true) : w ∈ aTb := aTb_of (tq_4_23 h) hg
theorem tm_4_24 {w : Cond} (h : w ∈ tg_4_24) (hg : goodWord w = true) : w ∈ aTb := aTb_of (tq_4_24 h) hg
theorem tm_4_25 {w : Cond} (h : w ∈ tg_4_25) (hg : goodWord w = true) : w ∈ aTb := aTb_of (tq_4_25 h) hg
theorem tm_4_26 {w : Cond} (h : w ∈ tg_4_26) (hg : goodWord w = true) : w ∈ aTb := aTb_of (tq_4_26 h) hg
theorem tm_4_27 {w : Cond} (h : w ∈ tg_4_27) (hg : goodWord w = true) : w ∈ aTb := aTb_of (tq_4_27 h) hg
theorem tm_4_28 {w : Cond} (h : w ∈ tg_4_28) (hg : goodWord w = true) : w ∈ aTb := aTb_of (tq_4_28 h) hg
theorem tm_4_29 {w : Cond} (h : w ∈ tg_4_29) (hg : goodWord w = true) : w ∈ aTb := aTb_of (tq_4_29 h) hg
theorem tm_5_0 {w : Cond} (h : w ∈ tg_5_0) (hg : goodWord w = true) : w ∈ aTb := aTb_of (tq_5_0 h) hg
theorem tm_5_1 {w : Cond} (h : w ∈ tg_5_1) (hg : goodWord w = true) : w ∈ aTb := aTb_of (tq_5_1 h) hg
theorem tm_5_2 {w : Cond} (h : w ∈ tg_5_2) (hg : goodWord w = true) : w ∈ aTb := aTb_of (tq_5_2 h) hg
theorem tm_5_3 {w : Cond} (h : w ∈ tg_5_3) (hg : goodWord w = true) : w ∈ aTb := aTb_of (tq_5_3 h) hg
theorem tm_5_4 {w : Cond} (h : w ∈ tg_5_4) (hg : goodWord w = true) : w ∈ aTb := aTb_of (tq_5_4 h) hg
theorem tm_5_5 {w : Cond} (h : w ∈ tg_5_5) (hg : goodWord w = true) : w ∈ aTb := aTb_of (tq_5_5 h) hg
theorem tm_5_6 {w : Cond} (h : w ∈ tg_5_6) (hg : goodWord w = true) : w ∈ aTb := aTb_of (tq_5_6 h) hg
theorem tm_5_7 {w : Cond} (h : w ∈ tg_5_7) (hg : goodWord w = true) : w ∈ aTb := aTb_of (tq_5_7 h) hg
theorem tm_5_8 {w : Cond} (h : w ∈ tg_5_8) (hg : goodWord w = true) : w ∈ aTb := aTb_of (tq_5_8 h) hg
theorem tm_5_9 {w : Cond} (h : w ∈ tg_5_9) (hg : goodWord w = true) : w ∈ aTb := aTb_of (tq_5_9 h) hg
theorem tm_5_10 {w : Cond} (h : w ∈ tg_5_10) (hg : goodWord w = true) : w ∈ aTb := aTb_of (tq_5_10 h) hg
theorem tm_5_11 {w : Cond} (h : w ∈ tg_5_11) (hg : goodWord w = true) : w ∈ aTb := aTb_of (tq_5_11 h) hg
theorem tm_5_12 {w : Cond} (h : w ∈ tg_5_12) (hg : goodWord w = true) : w ∈ aTb := aTb_of (tq_5_12 h) hg
theorem tm_5_13 {w : Cond} (h : w ∈ tg_5_13) (hg : goodWord w = true) : w ∈ aTb := aTb_of (tq_5_13 h) hg
theorem tm_5_14 {w : Cond} (h : w ∈ tg_5_14) (hg : goodWord w = true) : w ∈ aTb := aTb_of (tq_5_14 h) hg
theorem tm_5_15 {w : Cond} (h : w ∈ tg_5_15) (hg : goodWord w = true) : w ∈ aTb := aTb_of (tq_5_15 h) hg
theorem tm_5_16 {w : Cond} (h : w ∈ tg_5_16) (hg : goodWord w = true) : w ∈ aTb := aTb_of (tq_5_16 h) hg
theorem tm_5_17 {w : Cond} (h : w ∈ tg_5_17) (hg : goodWord w = true) : w ∈ aTb := aTb_of (tq_5_17 h) hg
theorem tm_5_18 {w : Cond} (h : w ∈ tg_5_18) (hg : goodWord w = true) : w ∈ aTb := aTb_of (tq_5_18 h) hg
theorem tm_5_19 {w : Cond} (h : w ∈ tg_5_19) (hg : goodWord w = true) : w ∈ aTb := aTb_of (tq_5_19 h) hg
theorem tm_5_20 {w : Cond} (h : w ∈ tg_5_20) (hg : goodWord w = true) : w ∈ aTb := aTb_of (tq_5_20 h) hg
theorem tm_5_21 {w : Cond} (h : w ∈ tg_5_21) (hg : goodWord w = true) : w ∈ aTb := aTb_of (tq_5_21 h) hg
theorem tm_5_22 {w : Cond} (h : w ∈ tg_5_22) (hg : goodWord w = true) : w ∈ aTb := aTb_of (tq_5_22 h) hg
theorem tm_5_23 {w : Cond} (h : w ∈ tg_5_23) (hg : goodWord w = true) : w ∈ aTb := aTb_of (tq_5_23 h) hg
theorem tm_5_24 {w : Cond} (h : w ∈ tg_5_24) (hg : goodWord w = true) : w ∈ aTb := aTb_of (tq_5_24 h) hg
theorem tm_5_25 {w : Cond} (h : w ∈ tg_5_25) (hg : goodWord w = true) : w ∈ aTb := aTb_of (tq_5_25 h) hg
theorem tm_5_26 {w : Cond} (h : w ∈ tg_5_26) (hg : goodWord w = true) : w ∈ aTb := aTb_of (tq_5_26 h) hg
theorem tm_5_27 {w : Cond} (h : w ∈ tg_5_27) (hg : goodWord w = true) : w ∈ aTb := aTb_of (tq_5_27 h) hg
theorem tm_5_28 {w : Cond} (h : w ∈ tg_5_28) (hg : goodWord w = true) : w ∈ aTb := aTb_of (tq_5_28 h) hg
theorem tm_5_29 {w : Cond} (h : w ∈ tg_5_29) (hg : goodWord w = true) : w ∈ aTb := aTb_of (tq_5_29 h) hg
theorem tm_6_0 {w : Cond} (h : w ∈ tg_6_0) (hg : goodWord w = true) : w ∈ aTb := aTb_of (tq_6_0 h) hg
theorem tm_6_1 {w : Cond} (h : w ∈ tg_6_1) (hg : goodWord w = true) : w ∈ aTb := aTb_of (tq_6_1 h) hg
theorem tm_6_2 {w : Cond} (h : w ∈ tg_6_2) (hg : goodWord w = true) : w ∈ aTb := aTb_of (tq_6_2 h) hg
theorem tm_6_3 {w : Cond} (h : w ∈ tg_6_3) (hg : goodWord w = true) : w ∈ aTb := aTb_of (tq_6_3 h) hg
theorem tm_6_4 {w : Cond} (h : w ∈ tg_6_4) (hg : goodWord w = true) : w ∈ aTb := aTb_of (tq_6_4 h) hg
theorem tm_6_5 {w : Cond} (h : w ∈ tg_6_5) (hg : goodWord w = true) : w ∈ aTb := aTb_of (tq_6_5 h) hg
theorem tm_6_6 {w : Cond} (h : w ∈ tg_6_6) (hg : goodWord w = true) : w ∈ aTb := aTb_of (tq_6_6 h) hg
theorem tm_6_7 {w : Cond} (h : w ∈ tg_6_7) (hg : goodWord w = true) : w ∈ aTb := aTb_of (tq_6_7 h) hg
theorem tm_6_8 {w : Cond} (h : w ∈ tg_6_8) (hg : goodWord w = true) : w ∈ aTb := aTb_of (tq_6_8 h) hg
theorem tm_6_9 {w : Cond} (h : w ∈ tg_6_9) (hg : goodWord w = true) : w ∈ aTb := aTb_of (tq_6_9 h) hg
theorem tm_6_10 {w : Cond} (h : w ∈ tg_6_10) (hg : goodWord w = true) : w ∈ aTb := aTb_of (tq_6_10 h) hg
theorem tm_6_11 {w : Cond} (h : w ∈ tg_6_11) (hg : goodWord w = true) : w ∈ aTb := aTb_of (tq_6_11 h) hg
theorem tm_6_12 {w : Cond} (h : w ∈ tg_6_12) (hg : goodWord w = true) : w ∈ aTb := aTb_of (tq_6_12 h) hg
theorem tm_6_13 {w : Cond} (h : w ∈ tg_6_13) (hg : goodWord w = true) : w ∈ aTb := aTb_of (tq_6_13 h) hg
theorem tm_6_14 {w : Cond} (h : w ∈ tg_6_14) (hg : goodWord w = true) : w ∈ aTb := aTb_of (tq_6_14 h) hg
theorem tm_6_15 {w : Cond} (h : w ∈ tg_6_15) (hg : goodWord w = true) : w ∈ aTb := aTb_of (tq_6_15 h) hg
theorem tm_6_16 {w : Cond} (h : w ∈ tg_6_16) (hg : goodWord w = true) : w ∈ aTb := aTb_of (tq_6_16 h) hg
theorem tm_6_17 {w : Cond} (h : w ∈ tg_6_17) (hg : goodWord w = true) : w ∈ aTb := aTb_of (tq_6_17 h) hg
theorem tm_6_18 {w : Cond} (h : w ∈ tg_6_18) (hg : goodWord w = true) : w ∈ aTb := aTb_of (tq_6_18 h) hg
theorem tm_6_19 {w : Cond} (h : w ∈ tg_6_19) (hg : goodWord w = true) : w ∈ aTb := aTb_of (tq_6_19 h) hg
theorem tm_6_20 {w : Cond} (h : w ∈ tg_6_20) (hg : goodWord w = true) : w ∈ aTb := aTb_of (tq_6_20 h) hg
theorem tm_6_21 {w : Cond} (h : w ∈ tg_6_21) (hg : goodWord w = true) : w ∈ aTb := aTb_of (tq_6_21 h) hg
theorem tm_6_22 {w : Cond} (h : w ∈ tg_6_22) (hg : goodWord w = true) : w ∈ aTb := aTb_of (tq_6_22 h) hg
theorem tm_6_23 {w : Cond} (h : w ∈ tg_6_23) (hg : goodWord w = true) : w ∈ aTb := aTb_of (tq_6_23 h) hg
theorem tm_6_24 {w : Cond} (h : w ∈ tg_6_24) (hg : goodWord w = true) : w ∈ aTb := aTb_of (tq_6_24 h) hg
theorem tm_6_25 {w : Cond} (h : w ∈ tg_6_25) (hg : goodWord w = true) : w ∈ aTb := aTb_of (tq_6_25 h) hg
theorem tm_6_26 {w : Cond} (h : w ∈ tg_6_26) (hg : goodWord w = true) : w ∈ aTb := aTb_of (tq_6_26 h) hg
theorem tm_6_27 {w : Cond} (h : w ∈ tg_6_27) (hg : goodWord w = true) : w ∈ aTb := aTb_of (tq_6_27 h) hg
theorem tm_6_28 {w : Cond} (h : w ∈ tg_6_28) (hg : goodWord w = true) : w ∈ aTb := aTb_of (tq_6_28 h) hg
theorem tm_6_29 {w : Cond} (h : w ∈ tg_6_29) (hg : goodWord w = true) : w ∈ aTb := aTb_of (tq_6_29 h) hg
theorem tm_7_0 {w : Cond} (h : w ∈ tg_7_0) (hg : goodWord w = true) : w ∈ aTb := aTb_of (tq_7_0 h) hg
theorem tm_7_1 {w : Cond} (h : w ∈ tg_7_1) (hg : goodWord w = true) : w ∈ aTb := aTb_of (tq_7_1 h) hg
theorem tm_7_2 {w : Cond} (h : w ∈ tg_7_2) (hg : goodWord w = true) : w ∈ aTb := aTb_of (tq_7_2 h) hg
theorem tm_7_3 {w : Cond} (h : w ∈ tg_7_3) (hg : goodWord w = true) : w ∈ aTb := aTb_of (tq_7_3 h) hg
theorem tm_7_4 {w : Cond} (h : w ∈ tg_7_4) (hg : goodWord w = true) : w ∈ aTb := aTb_of (tq_7_4 h) hg
theorem tm_7_5 {w : Cond} (h : w ∈ tg_7_5) (hg : goodWord w = true) : w ∈ aTb := aTb_of (tq_7_5 h) hg
theorem tm_7_6 {w : Cond} (h : w ∈ tg_7_6) (hg : goodWord w = true) : w ∈ aTb := aTb_of (tq_7_6 h) hg
theorem tm_7_7 {w : Cond} (h : w ∈ tg_7_7) (hg : goodWord w = true) : w ∈ aTb := aTb_of (tq_7_7 h) hg
theorem tm_7_8 {w : Cond} (h : w ∈ tg_7_8) (hg : goodWord w = true) : w ∈ aTb := aTb_of (tq_7_8 h) hg
theorem tm_7_9 {w : Cond} (h : w ∈ tg_7_9) (hg : goodWord w = true) : w ∈ aTb := aTb_of (tq_7_9 h) hg
theorem tm_7_10 {w : Cond} (h : w ∈ tg_7_10) (hg : goodWord w = true) : w ∈ aTb := aTb_of (tq_7_10 h) hg
theorem tm_7_11 {w : Cond} (h : w ∈ tg_7_11) (hg : goodWord w = true) : w ∈ aTb := aTb_of (tq_7_11 h) hg
theorem tm_7_12 {w : Cond} (h : w ∈ tg_7_12) (hg : goodWord w = true) : w ∈ aTb := aTb_of (tq_7_12 h) hg
theorem tm_7_13 {w : Cond} (h : w ∈ tg_7_13) (hg : goodWord w = true) : w ∈ aTb := aTb_of (tq_7_13 h) hg
theorem tm_7_14 {w : Cond} (h : w ∈ tg_7_14) (hg : goodWord w = true) : w ∈ aTb := aTb_of (tq_7_14 h) hg
theorem tm_7_15 {w : Cond} (h : w ∈ tg_7_15) (hg : goodWord w = true) : w ∈ aTb := aTb_of (tq_7_15 h) hg
theorem tm_7_16 {w : Cond} (h : w ∈ tg_7_16) (hg : goodWord w = true) : w ∈ aTb := aTb_of (tq_7_16 h) hg
theorem tm_7_17 {w : Cond} (h : w ∈ tg_7_17) (hg : goodWord w = true) : w ∈ aTb := aTb_of (tq_7_17 h) hg
theorem tm_7_18 {w : Cond} (h : w ∈ tg_7_18) (hg : goodWord w = true) : w ∈ aTb := aTb_of (tq_7_18 h) hg
theorem tm_7_19 {w : Cond} (h : w ∈ tg_7_19) (hg : goodWord w = true) : w ∈ aTb := aTb_of (tq_7_19 h) hg
theorem tm_7_20 {w : Cond} (h : w ∈ tg_7_20) (hg : goodWord w = true) : w ∈ aTb := aTb_of (tq_7_20 h) hg
theorem tm_7_21 {w : Cond} (h : w ∈ tg_7_21) (hg : goodWord w = true) : w ∈ aTb := aTb_of (tq_7_21 h) hg
theorem tm_7_22 {w : Cond} (h : w ∈ tg_7_22) (hg : goodWord w = true) : w ∈ aTb := aTb_of (tq_7_22 h) hg
theorem tm_7_23 {w : Cond} (h : w ∈ tg_7_23) (hg : goodWord w = true) : w ∈ aTb := aTb_of (tq_7_23 h) hg
theorem lay_0_0 : u_lay RX0 TX0 0 ∈ aTb := tm_1_21 (List.mem_of_getElem? (i := 4) rfl) rfl
theorem lay_0_1 : u_lay RX0 TX0 1 ∈ aTb := tm_1_21 (List.mem_of_getElem? (i := 6) rfl) rfl
theorem cl_0 : aCl 0 RX0 TX0 := ⟨rfl, fun w hw => by
  obtain ⟨j, hj, rfl⟩ := List.mem_map.mp hw
  have hj : j < 2 := List.mem_range.mp hj
  rcases (show j = 0 ∨ j = 1 by omega) with rfl | rfl
  · exact lay_0_0
  · exact lay_0_1, tyX0_ok, nmX0, by decide +kernel⟩
theorem tb_165 : Cond.instantiable RX0 (aN 0) ∈ aTb := tm_1_20 (List.mem_of_getElem? (i := 5) rfl) rfl
theorem lay_1_0 : u_lay RX1 TX1 0 ∈ aTb := tm_1_9 (List.mem_of_getElem? (i := 6) rfl) rfl
theorem lay_1_1 : u_lay RX1 TX1 1 ∈ aTb := tm_1_10 (List.mem_of_getElem? (i := 0) rfl) rfl
theorem lay_1_2 : u_lay RX1 TX1 2 ∈ aTb := tm_1_10 (List.mem_of_getElem? (i := 2) rfl) rfl
theorem lay_1_3 : u_lay RX1 TX1 3 ∈ aTb := tm_1_10 (List.mem_of_getElem? (i := 4) rfl) rfl
theorem lay_1_4 : u_lay RX1 TX1 4 ∈ aTb := tm_1_10 (List.mem_of_getElem? (i := 6) rfl) rfl
theorem lay_1_5 : u_lay RX1 TX1 5 ∈ aTb := tm_1_11 (List.mem_of_getElem? (i := 0) rfl) rfl
theorem lay_1_6 : u_lay RX1 TX1 6 ∈ aTb := tm_1_11 (List.mem_of_getElem? (i := 2) rfl) rfl
theorem lay_1_7 : u_lay RX1 TX1 7 ∈ aTb := tm_1_11 (List.mem_of_getElem? (i := 4) rfl) rfl
theorem lay_1_8 : u_lay RX1 TX1 8 ∈ aTb := tm_1_11 (List.mem_of_getElem? (i := 6) rfl) rfl
theorem lay_1_9 : u_lay RX1 TX1 9 ∈ aTb := tm_1_12 (List.mem_of_getElem? (i := 0) rfl) rfl
theorem lay_1_10 : u_lay RX1 TX1 10 ∈ aTb := tm_1_12 (List.mem_of_getElem? (i := 2) rfl) rfl
theorem lay_1_11 : u_lay RX1 TX1 11 ∈ aTb := tm_1_12 (List.mem_of_getElem? (i := 4) rfl) rfl
theorem cl_1 : aCl 1 RX1 TX1 := ⟨rfl, fun w hw => by
  obtain ⟨j, hj, rfl⟩ := List.mem_map.mp hw
  have hj : j < 12 := List.mem_range.mp hj
  rcases (show j = 0 ∨ j = 1 ∨ j = 2 ∨ j = 3 ∨ j = 4 ∨ j = 5 ∨ j = 6 ∨ j = 7 ∨ j = 8 ∨ j = 9 ∨ j = 10 ∨ j = 11 by omega) with rfl | rfl | rfl | rfl | rfl | rfl | rfl | rfl | rfl | rfl | rfl | rfl
  · exact lay_1_0
  · exact lay_1_1
  · exact lay_1_2
  · exact lay_1_3
  · exact lay_1_4
  · exact lay_1_5
  · exact lay_1_6
  · exact lay_1_7
  · exact lay_1_8
  · exact lay_1_9
  · exact lay_1_10
  · exact lay_1_11, tyX1_ok, nmX1, by decide +kernel⟩
theorem tb_30 : Cond.instantiable RX1 (aN 1) ∈ aTb := tm_1_3 (List.mem_of_getElem? (i := 6) rfl) rfl
theorem lay_2_0 : u_lay RX2 TX2 0 ∈ aTb := tm_2_8 (List.mem_of_getElem? (i := 3) rfl) rfl
theorem lay_2_1 : u_lay RX2 TX2 1 ∈ aTb := tm_2_8 (List.mem_of_getElem? (i := 5) rfl) rfl
theorem lay_2_2 : u_lay RX2 TX2 2 ∈ aTb := tm_2_8 (List.mem_of_getElem? (i := 7) rfl) rfl
theorem lay_2_3 : u_lay RX2 TX2 3 ∈ aTb := tm_2_9 (List.mem_of_getElem? (i := 1) rfl) rfl
theorem lay_2_4 : u_lay RX2 TX2 4 ∈ aTb := tm_2_9 (List.mem_of_getElem? (i := 3) rfl) rfl
theorem lay_2_5 : u_lay RX2 TX2 5 ∈ aTb := tm_2_9 (List.mem_of_getElem? (i := 5) rfl) rfl
theorem cl_2 : aCl 2 RX2 TX2 := ⟨rfl, fun w hw => by
  obtain ⟨j, hj, rfl⟩ := List.mem_map.mp hw
  have hj : j < 6 := List.mem_range.mp hj
  rcases (show j = 0 ∨ j = 1 ∨ j = 2 ∨ j = 3 ∨ j = 4 ∨ j = 5 by omega) with rfl | rfl | rfl | rfl | rfl | rfl
  · exact lay_2_0
  · exact lay_2_1
  · exact lay_2_2
  · exact lay_2_3
  · exact lay_2_4
  · exact lay_2_5, tyX2_ok, nmX2, by decide +kernel⟩
theorem tb_294 : Cond.instantiable RX2 (aN 2) ∈ aTb := tm_2_6 (List.mem_of_getElem? (i := 6) rfl) rfl
theorem lay_3_0 : u_lay RX3 TX3 0 ∈ aTb := tm_2_4 (List.mem_of_getElem? (i := 4) rfl) rfl
theorem lay_3_1 : u_lay RX3 TX3 1 ∈ aTb := tm_2_4 (List.mem_of_getElem? (i := 6) rfl) rfl
theorem lay_3_2 : u_lay RX3 TX3 2 ∈ aTb := tm_2_5 (List.mem_of_getElem? (i := 0) rfl) rfl
theorem lay_3_3 : u_lay RX3 TX3 3 ∈ aTb := tm_2_5 (List.mem_of_getElem? (i := 2) rfl) rfl
theorem lay_3_4 : u_lay RX3 TX3 4 ∈ aTb := tm_2_5 (List.mem_of_getElem? (i := 4) rfl) rfl
theorem lay_3_5 : u_lay RX3 TX3 5 ∈ aTb := tm_2_5 (List.mem_of_getElem? (i := 6) rfl) rfl
theorem lay_3_6 : u_lay RX3 TX3 6 ∈ aTb := tm_2_6 (List.mem_of_getElem? (i := 0) rfl) rfl
theorem lay_3_7 : u_lay RX3 TX3 7 ∈ aTb := tm_2_6 (List.mem_of_getElem? (i := 2) rfl) rfl
theorem cl_3 : aCl 3 RX3 TX3 := ⟨rfl, fun w hw => by
  obtain ⟨j, hj, rfl⟩ := List.mem_map.mp hw
  have hj : j < 8 := List.mem_range.mp hj
  rcases (show j = 0 ∨ j = 1 ∨ j = 2 ∨ j = 3 ∨ j = 4 ∨ j = 5 ∨ j = 6 ∨ j = 7 by omega) with rfl | rfl | rfl | rfl | rfl | rfl | rfl | rfl
  · exact lay_3_0
  · exact lay_3_1
  · exact lay_3_2
  · exact lay_3_3
  · exact lay_3_4
  · exact lay_3_5
  · exact lay_3_6
  · exact lay_3_7, tyX3_ok, nmX3, by decide +kernel⟩
theorem tb_259 : Cond.instantiable RX3 (aN 3) ∈ aTb := tm_2_2 (List.mem_of_getElem? (i := 3) rfl) rfl
theorem lay_4_0 : u_lay RX4 TX4 0 ∈ aTb := tm_1_27 (List.mem_of_getElem? (i := 2) rfl) rfl
theorem lay_4_1 : u_lay RX4 TX4 1 ∈ aTb := tm_1_27 (List.mem_of_getElem? (i := 4) rfl) rfl
theorem lay_4_2 : u_lay RX4 TX4 2 ∈ aTb := tm_1_27 (List.mem_of_getElem? (i := 6) rfl) rfl
theorem lay_4_3 : u_lay RX4 TX4 3 ∈ aTb := tm_1_28 (List.mem_of_getElem? (i := 0) rfl) rfl
theorem lay_4_4 : u_lay RX4 TX4 4 ∈ aTb := tm_1_28 (List.mem_of_getElem? (i := 2) rfl) rfl
theorem lay_4_5 : u_lay RX4 TX4 5 ∈ aTb := tm_1_28 (List.mem_of_getElem? (i := 4) rfl) rfl
theorem lay_4_6 : u_lay RX4 TX4 6 ∈ aTb := tm_1_28 (List.mem_of_getElem? (i := 6) rfl) rfl
theorem lay_4_7 : u_lay RX4 TX4 7 ∈ aTb := tm_1_29 (List.mem_of_getElem? (i := 0) rfl) rfl
theorem lay_4_8 : u_lay RX4 TX4 8 ∈ aTb := tm_1_29 (List.mem_of_getElem? (i := 2) rfl) rfl
theorem lay_4_9 : u_lay RX4 TX4 9 ∈ aTb := tm_1_29 (List.mem_of_getElem? (i := 4) rfl) rfl
theorem lay_4_10 : u_lay RX4 TX4 10 ∈ aTb := tm_1_29 (List.mem_of_getElem? (i := 6) rfl) rfl
theorem lay_4_11 : u_lay RX4 TX4 11 ∈ aTb := tm_2_0 (List.mem_of_getElem? (i := 0) rfl) rfl
theorem lay_4_12 : u_lay RX4 TX4 12 ∈ aTb := tm_2_0 (List.mem_of_getElem? (i := 2) rfl) rfl
theorem cl_4 : aCl 4 RX4 TX4 := ⟨rfl, fun w hw => by
  obtain ⟨j, hj, rfl⟩ := List.mem_map.mp hw
  have hj : j < 13 := List.mem_range.mp hj
  rcases (show j = 0 ∨ j = 1 ∨ j = 2 ∨ j = 3 ∨ j = 4 ∨ j = 5 ∨ j = 6 ∨ j = 7 ∨ j = 8 ∨ j = 9 ∨ j = 10 ∨ j = 11 ∨ j = 12 by omega) with rfl | rfl | rfl | rfl | rfl | rfl | rfl | rfl | rfl | rfl | rfl | rfl | rfl
  · exact lay_4_0
  · exact lay_4_1
  · exact lay_4_2
  · exact lay_4_3
  · exact lay_4_4
  · exact lay_4_5
  · exact lay_4_6
  · exact lay_4_7
  · exact lay_4_8
  · exact lay_4_9
  · exact lay_4_10
  · exact lay_4_11
  · exact lay_4_12, tyX4_ok, nmX4, by decide +kernel⟩
theorem tb_179 : Cond.instantiable RX4 (aN 4) ∈ aTb := tm_1_22 (List.mem_of_getElem? (i := 3) rfl) rfl
theorem lay_5_0 : u_lay RX5 TX5 0 ∈ aTb := tm_1_24 (List.mem_of_getElem? (i := 2) rfl) rfl
theorem lay_5_1 : u_lay RX5 TX5 1 ∈ aTb := tm_1_24 (List.mem_of_getElem? (i := 4) rfl) rfl
theorem cl_5 : aCl 5 RX5 TX5 := ⟨rfl, fun w hw => by
  obtain ⟨j, hj, rfl⟩ := List.mem_map.mp hw
  have hj : j < 2 := List.mem_range.mp hj
  rcases (show j = 0 ∨ j = 1 by omega) with rfl | rfl
  · exact lay_5_0
  · exact lay_5_1, tyX5_ok, nmX5, by decide +kernel⟩
theorem tb_185 : Cond.instantiable RX5 (aN 5) ∈ aTb := tm_1_23 (List.mem_of_getElem? (i := 1) rfl) rfl
theorem lay_6_0 : u_lay RX6 TX6 0 ∈ aTb := tm_3_24 (List.mem_of_getElem? (i := 2) rfl) rfl
theorem lay_6_1 : u_lay RX6 TX6 1 ∈ aTb := tm_3_24 (List.mem_of_getElem? (i := 4) rfl) rfl
theorem lay_6_2 : u_lay RX6 TX6 2 ∈ aTb := tm_3_24 (List.mem_of_getElem? (i := 6) rfl) rfl
theorem cl_6 : aCl 6 RX6 TX6 := ⟨rfl, fun w hw => by
  obtain ⟨j, hj, rfl⟩ := List.mem_map.mp hw
  have hj : j < 3 := List.mem_range.mp hj
  rcases (show j = 0 ∨ j = 1 ∨ j = 2 by omega) with rfl | rfl | rfl
  · exact lay_6_0
  · exact lay_6_1
  · exact lay_6_2, tyX6_ok, nmX6, by decide +kernel⟩
theorem tb_649 : Cond.instantiable RX6 (aN 6) ∈ aTb := tm_3_21 (List.mem_of_getElem? (i := 1) rfl) rfl
theorem lay_7_0 : u_lay RX7 TX7 0 ∈ aTb := tm_1_17 (List.mem_of_getElem? (i := 3) rfl) rfl
theorem lay_7_1 : u_lay RX7 TX7 1 ∈ aTb := tm_1_17 (List.mem_of_getElem? (i := 5) rfl) rfl
theorem lay_7_2 : u_lay RX7 TX7 2 ∈ aTb := tm_1_17 (List.mem_of_getElem? (i := 7) rfl) rfl
theorem lay_7_3 : u_lay RX7 TX7 3 ∈ aTb := tm_1_18 (List.mem_of_getElem? (i := 1) rfl) rfl
theorem lay_7_4 : u_lay RX7 TX7 4 ∈ aTb := tm_1_18 (List.mem_of_getElem? (i := 3) rfl) rfl
theorem lay_7_5 : u_lay RX7 TX7 5 ∈ aTb := tm_1_18 (List.mem_of_getElem? (i := 5) rfl) rfl
theorem lay_7_6 : u_lay RX7 TX7 6 ∈ aTb := tm_1_18 (List.mem_of_getElem? (i := 7) rfl) rfl
theorem lay_7_7 : u_lay RX7 TX7 7 ∈ aTb := tm_1_19 (List.mem_of_getElem? (i := 1) rfl) rfl
theorem lay_7_8 : u_lay RX7 TX7 8 ∈ aTb := tm_1_19 (List.mem_of_getElem? (i := 3) rfl) rfl
theorem lay_7_9 : u_lay RX7 TX7 9 ∈ aTb := tm_1_19 (List.mem_of_getElem? (i := 5) rfl) rfl
theorem lay_7_10 : u_lay RX7 TX7 10 ∈ aTb := tm_1_19 (List.mem_of_getElem? (i := 7) rfl) rfl
theorem lay_7_11 : u_lay RX7 TX7 11 ∈ aTb := tm_1_20 (List.mem_of_getElem? (i := 1) rfl) rfl
theorem cl_7 : aCl 7 RX7 TX7 := ⟨rfl, fun w hw => by
  obtain ⟨j, hj, rfl⟩ := List.mem_map.mp hw
  have hj : j < 12 := List.mem_range.mp hj
  rcases (show j = 0 ∨ j = 1 ∨ j = 2 ∨ j = 3 ∨ j = 4 ∨ j = 5 ∨ j = 6 ∨ j = 7 ∨ j = 8 ∨ j = 9 ∨ j = 10 ∨ j = 11 by omega) with rfl | rfl | rfl | rfl | rfl | rfl | rfl | rfl | rfl | rfl | rfl | rfl
  · exact lay_7_0
  · exact lay_7_1
  · exact lay_7_2
  · exact lay_7_3
  · exact lay_7_4
  · exact lay_7_5
  · exact lay_7_6
  · exact lay_7_7
  · exact lay_7_8
  · exact lay_7_9
  · exact lay_7_10
  · exact lay_7_11, tyX7_ok, nmX7, by decide +kernel⟩
theorem tb_121 : Cond.instantiable RX7 (aN 7) ∈ aTb := tm_1_15 (List.mem_of_getElem? (i := 1) rfl) rfl
theorem lay_8_0 : u_lay RX8 TX8 0 ∈ aTb := tm_2_1 (List.mem_of_getElem? (i := 5) rfl) rfl
theorem lay_8_1 : u_lay RX8 TX8 1 ∈ aTb := tm_2_1 (List.mem_of_getElem? (i := 7) rfl) rfl
theorem cl_8 : aCl 8 RX8 TX8 := ⟨rfl, fun w hw => by
  obtain ⟨j, hj, rfl⟩ := List.mem_map.mp hw
  have hj : j < 2 := List.mem_range.mp hj
  rcases (show j = 0 ∨ j = 1 by omega) with rfl | rfl
  · exact lay_8_0
  · exact lay_8_1, tyX8_ok, nmX8, by decide +kernel⟩
theorem tb_246 : Cond.instantiable RX8 (aN 8) ∈ aTb := tm_2_0 (List.mem_of_getElem? (i := 6) rfl) rfl
theorem lay_9_0 : u_lay RX9 TX9 0 ∈ aTb := tm_1_14 (List.mem_of_getElem? (i := 3) rfl) rfl
theorem lay_9_1 : u_lay RX9 TX9 1 ∈ aTb := tm_1_14 (List.mem_of_getElem? (i := 5) rfl) rfl
theorem cl_9 : aCl 9 RX9 TX9 := ⟨rfl, fun w hw => by
  obtain ⟨j, hj, rfl⟩ := List.mem_map.mp hw
  have hj : j < 2 := List.mem_range.mp hj
  rcases (show j = 0 ∨ j = 1 by omega) with rfl | rfl
  · exact lay_9_0
  · exact lay_9_1, tyX9_ok, nmX9, by decide +kernel⟩
theorem tb_106 : Cond.instantiable RX9 (aN 9) ∈ aTb := tm_1_13 (List.mem_of_getElem? (i := 2) rfl) rfl
theorem lay_10_0 : u_lay RX10 TX10 0 ∈ aTb := tm_2_12 (List.mem_of_getElem? (i := 2) rfl) rfl
theorem lay_10_1 : u_lay RX10 TX10 1 ∈ aTb := tm_2_12 (List.mem_of_getElem? (i := 4) rfl) rfl
theorem lay_10_2 : u_lay RX10 TX10 2 ∈ aTb := tm_2_12 (List.mem_of_getElem? (i := 6) rfl) rfl
theorem lay_10_3 : u_lay RX10 TX10 3 ∈ aTb := tm_2_13 (List.mem_of_getElem? (i := 0) rfl) rfl
theorem lay_10_4 : u_lay RX10 TX10 4 ∈ aTb := tm_2_13 (List.mem_of_getElem? (i := 2) rfl) rfl
theorem lay_10_5 : u_lay RX10 TX10 5 ∈ aTb := tm_2_13 (List.mem_of_getElem? (i := 4) rfl) rfl
theorem lay_10_6 : u_lay RX10 TX10 6 ∈ aTb := tm_2_13 (List.mem_of_getElem? (i := 6) rfl) rfl
theorem lay_10_7 : u_lay RX10 TX10 7 ∈ aTb := tm_2_14 (List.mem_of_getElem? (i := 0) rfl) rfl
theorem lay_10_8 : u_lay RX10 TX10 8 ∈ aTb := tm_2_14 (List.mem_of_getElem? (i := 2) rfl) rfl
theorem lay_10_9 : u_lay RX10 TX10 9 ∈ aTb := tm_2_14 (List.mem_of_getElem? (i := 4) rfl) rfl
theorem lay_10_10 : u_lay RX10 TX10 10 ∈ aTb := tm_2_14 (List.mem_of_getElem? (i := 6) rfl) rfl
theorem lay_10_11 : u_lay RX10 TX10 11 ∈ aTb := tm_2_15 (List.mem_of_getElem? (i := 0) rfl) rfl
theorem lay_10_12 : u_lay RX10 TX10 12 ∈ aTb := tm_2_15 (List.mem_of_getElem? (i := 2) rfl) rfl
theorem lay_10_13 : u_lay RX10 TX10 13 ∈ aTb := tm_2_15 (List.mem_of_getElem? (i := 4) rfl) rfl
theorem lay_10_14 : u_lay RX10 TX10 14 ∈ aTb := tm_2_15 (List.mem_of_getElem? (i := 6) rfl) rfl
theorem lay_10_15 : u_lay RX10 TX10 15 ∈ aTb := tm_2_16 (List.mem_of_getElem? (i := 0) rfl) rfl
theorem lay_10_16 : u_lay RX10 TX10 16 ∈ aTb := tm_2_16 (List.mem_of_getElem? (i := 2) rfl) rfl
theorem cl_10 : aCl 10 RX10 TX10 := ⟨rfl, fun w hw => by
  obtain ⟨j, hj, rfl⟩ := List.mem_map.mp hw
  have hj : j < 17 := List.mem_range.mp hj
  rcases (show j = 0 ∨ j = 1 ∨ j = 2 ∨ j = 3 ∨ j = 4 ∨ j = 5 ∨ j = 6 ∨ j = 7 ∨ j = 8 ∨ j = 9 ∨ j = 10 ∨ j = 11 ∨ j = 12 ∨ j = 13 ∨ j = 14 ∨ j = 15 ∨ j = 16 by omega) with rfl | rfl | rfl | rfl | rfl | rfl | rfl | rfl | rfl | rfl | rfl | rfl | rfl | rfl | rfl | rfl | rfl
  · exact lay_10_0
  · exact lay_10_1
  · exact lay_10_2
  · exact lay_10_3
  · exact lay_10_4
  · exact lay_10_5
  · exact lay_10_6
  · exact lay_10_7
  · exact lay_10_8
  · exact lay_10_9
  · exact lay_10_10
  · exact lay_10_11
  · exact lay_10_12
  · exact lay_10_13
  · exact lay_10_14
  · exact lay_10_15
  · exact lay_10_16, tyX10_ok, nmX10, by decide +kernel⟩
theorem tb_22 : Cond.instantiable RX10 (aN 10) ∈ aTb := tm_1_2 (List.mem_of_getElem? (i := 6) rfl) rfl
theorem lay_11_0 : u_lay RX11 TX11 0 ∈ aTb := tm_5_21 (List.mem_of_getElem? (i := 6) rfl) rfl
theorem lay_11_1 : u_lay RX11 TX11 1 ∈ aTb := tm_5_22 (List.mem_of_getElem? (i := 0) rfl) rfl
theorem lay_11_2 : u_lay RX11 TX11 2 ∈ aTb := tm_5_22 (List.mem_of_getElem? (i := 2) rfl) rfl
theorem lay_11_3 : u_lay RX11 TX11 3 ∈ aTb := tm_5_22 (List.mem_of_getElem? (i := 4) rfl) rfl
theorem lay_11_4 : u_lay RX11 TX11 4 ∈ aTb := tm_5_22 (List.mem_of_getElem? (i := 6) rfl) rfl
theorem lay_11_5 : u_lay RX11 TX11 5 ∈ aTb := tm_5_23 (List.mem_of_getElem? (i := 0) rfl) rfl
theorem lay_11_6 : u_lay RX11 TX11 6 ∈ aTb := tm_5_23 (List.mem_of_getElem? (i := 2) rfl) rfl
theorem lay_11_7 : u_lay RX11 TX11 7 ∈ aTb := tm_5_23 (List.mem_of_getElem? (i := 4) rfl) rfl
theorem lay_11_8 : u_lay RX11 TX11 8 ∈ aTb := tm_5_23 (List.mem_of_getElem? (i := 6) rfl) rfl
theorem lay_11_9 : u_lay RX11 TX11 9 ∈ aTb := tm_5_24 (List.mem_of_getElem? (i := 0) rfl) rfl
theorem lay_11_10 : u_lay RX11 TX11 10 ∈ aTb := tm_5_24 (List.mem_of_getElem? (i := 2) rfl) rfl
theorem lay_11_11 : u_lay RX11 TX11 11 ∈ aTb := tm_5_24 (List.mem_of_getElem? (i := 4) rfl) rfl
theorem lay_11_12 : u_lay RX11 TX11 12 ∈ aTb := tm_5_24 (List.mem_of_getElem? (i := 6) rfl) rfl
theorem lay_11_13 : u_lay RX11 TX11 13 ∈ aTb := tm_5_25 (List.mem_of_getElem? (i := 0) rfl) rfl
theorem lay_11_14 : u_lay RX11 TX11 14 ∈ aTb := tm_5_25 (List.mem_of_getElem? (i := 2) rfl) rfl
theorem lay_11_15 : u_lay RX11 TX11 15 ∈ aTb := tm_5_25 (List.mem_of_getElem? (i := 4) rfl) rfl
theorem lay_11_16 : u_lay RX11 TX11 16 ∈ aTb := tm_5_25 (List.mem_of_getElem? (i := 6) rfl) rfl
theorem lay_11_17 : u_lay RX11 TX11 17 ∈ aTb := tm_5_26 (List.mem_of_getElem? (i := 0) rfl) rfl
theorem lay_11_18 : u_lay RX11 TX11 18 ∈ aTb := tm_5_26 (List.mem_of_getElem? (i := 2) rfl) rfl
theorem lay_11_19 : u_lay RX11 TX11 19 ∈ aTb := tm_5_26 (List.mem_of_getElem? (i := 4) rfl) rfl
theorem lay_11_20 : u_lay RX11 TX11 20 ∈ aTb := tm_5_26 (List.mem_of_getElem? (i := 6) rfl) rfl
theorem lay_11_21 : u_lay RX11 TX11 21 ∈ aTb := tm_5_27 (List.mem_of_getElem? (i := 0) rfl) rfl
theorem lay_11_22 : u_lay RX11 TX11 22 ∈ aTb := tm_5_27 (List.mem_of_getElem? (i := 2) rfl) rfl
theorem lay_11_23 : u_lay RX11 TX11 23 ∈ aTb := tm_5_27 (List.mem_of_getElem? (i := 4) rfl) rfl
theorem lay_11_24 : u_lay RX11 TX11 24 ∈ aTb := tm_5_27 (List.mem_of_getElem? (i := 6) rfl) rfl
theorem lay_11_25 : u_lay RX11 TX11 25 ∈ aTb := tm_5_28 (List.mem_of_getElem? (i := 0) rfl) rfl
theorem lay_11_26 : u_lay RX11 TX11 26 ∈ aTb := tm_5_28 (List.mem_of_getElem? (i := 2) rfl) rfl
theorem lay_11_27 : u_lay RX11 TX11 27 ∈ aTb := tm_5_28 (List.mem_of_getElem? (i := 4) rfl) rfl
theorem lay_11_28 : u_lay RX11 TX11 28 ∈ aTb := tm_5_28 (List.mem_of_getElem? (i := 6) rfl) rfl
theorem lay_11_29 : u_lay RX11 TX11 29 ∈ aTb := tm_5_29 (List.mem_of_getElem? (i := 0) rfl) rfl
theorem lay_11_30 : u_lay RX11 TX11 30 ∈ aTb := tm_5_29 (List.mem_of_getElem? (i := 2) rfl) rfl
theorem lay_11_31 : u_lay RX11 TX11 31 ∈ aTb := tm_5_29 (List.mem_of_getElem? (i := 4) rfl) rfl
theorem lay_11_32 : u_lay RX11 TX11 32 ∈ aTb := tm_5_29 (List.mem_of_getElem? (i := 6) rfl) rfl
theorem lay_11_33 : u_lay RX11 TX11 33 ∈ aTb := tm_6_0 (List.mem_of_getElem? (i := 0) rfl) rfl
theorem lay_11_34 : u_lay RX11 TX11 34 ∈ aTb := tm_6_0 (List.mem_of_getElem? (i := 2) rfl) rfl
theorem lay_11_35 : u_lay RX11 TX11 35 ∈ aTb := tm_6_0 (List.mem_of_getElem? (i := 4) rfl) rfl
theorem lay_11_36 : u_lay RX11 TX11 36 ∈ aTb := tm_6_0 (List.mem_of_getElem? (i := 6) rfl) rfl
theorem lay_11_37 : u_lay RX11 TX11 37 ∈ aTb := tm_6_1 (List.mem_of_getElem? (i := 0) rfl) rfl
theorem lay_11_38 : u_lay RX11 TX11 38 ∈ aTb := tm_6_1 (List.mem_of_getElem? (i := 2) rfl) rfl
theorem lay_11_39 : u_lay RX11 TX11 39 ∈ aTb := tm_6_1 (List.mem_of_getElem? (i := 4) rfl) rfl
theorem lay_11_40 : u_lay RX11 TX11 40 ∈ aTb := tm_6_1 (List.mem_of_getElem? (i := 6) rfl) rfl
theorem lay_11_41 : u_lay RX11 TX11 41 ∈ aTb := tm_6_2 (List.mem_of_getElem? (i := 0) rfl) rfl
theorem cl_11 : aCl 11 RX11 TX11 := ⟨rfl, fun w hw => by
  obtain ⟨j, hj, rfl⟩ := List.mem_map.mp hw
  have hj : j < 42 := List.mem_range.mp hj
  rcases (show j = 0 ∨ j = 1 ∨ j = 2 ∨ j = 3 ∨ j = 4 ∨ j = 5 ∨ j = 6 ∨ j = 7 ∨ j = 8 ∨ j = 9 ∨ j = 10 ∨ j = 11 ∨ j = 12 ∨ j = 13 ∨ j = 14 ∨ j = 15 ∨ j = 16 ∨ j = 17 ∨ j = 18 ∨ j = 19 ∨ j = 20 ∨ j = 21 ∨ j = 22 ∨ j = 23 ∨ j = 24 ∨ j = 25 ∨ j = 26 ∨ j = 27 ∨ j = 28 ∨ j = 29 ∨ j = 30 ∨ j = 31 ∨ j = 32 ∨ j = 33 ∨ j = 34 ∨ j = 35 ∨ j = 36 ∨ j = 37 ∨ j = 38 ∨ j = 39 ∨ j = 40 ∨ j = 41 by omega) with rfl | rfl | rfl | rfl | rfl | rfl | rfl | rfl | rfl | rfl | rfl | rfl | rfl | rfl | rfl | rfl | rfl | rfl | rfl | rfl | rfl | rfl | rfl | rfl | rfl | rfl | rfl | rfl | rfl | rfl | rfl | rfl | rfl | rfl | rfl | rfl | rfl | rfl | rfl | rfl | rfl | rfl
  · exact lay_11_0
  · exact lay_11_1
  · exact lay_11_2
  · exact lay_11_3
  · exact lay_11_4
  · exact lay_11_5
  · exact lay_11_6
  · exact lay_11_7
  · exact lay_11_8
  · exact lay_11_9
  · exact lay_11_10
  · exact lay_11_11
  · exact lay_11_12
  · exact lay_11_13
  · exact lay_11_14
  · exact lay_11_15
  · exact lay_11_16
  · exact lay_11_17
  · exact lay_11_18
  · exact lay_11_19
  · exact lay_11_20
  · exact lay_11_21
  · exact lay_11_22
  · exact lay_11_23
  · exact lay_11_24
  · exact lay_11_25
  · exact lay_11_26
  · exact lay_11_27
  · exact lay_11_28
  · exact lay_11_29
  · exact lay_11_30
  · exact lay_11_31
  · exact lay_11_32
  · exact lay_11_33
  · exact lay_11_34
  · exact lay_11_35
  · exact lay_11_36
  · exact lay_11_37
  · exact lay_11_38
  · exact lay_11_39
  · exact lay_11_40
  · exact lay_11_41, tyX11_ok, nmX11, by decide +kernel⟩
theorem tb_1083 : Cond.instantiable RX11 (aN 11) ∈ aTb := tm_5_15 (List.mem_of_getElem? (i := 3) rfl) rfl
theorem tb_1 : Cond.initialized RX10 ∈ aTb := tm_1_0 (List.mem_of_getElem? (i := 1) rfl) rfl
theorem tb_2 : Cond.initialized RX1 ∈ aTb := tm_1_0 (List.mem_of_getElem? (i := 2) rfl) rfl
theorem tb_3 : Cond.initialized RJ7 ∈ aTb := tm_1_0 (List.mem_of_getElem? (i := 3) rfl) rfl
theorem tb_4 : Cond.initialized RX9 ∈ aTb := tm_1_0 (List.mem_of_getElem? (i := 4) rfl) rfl
theorem tb_5 : Cond.initialized RX7 ∈ aTb := tm_1_0 (List.mem_of_getElem? (i := 5) rfl) rfl
theorem tb_6 : Cond.initialized RX0 ∈ aTb := tm_1_0 (List.mem_of_getElem? (i := 6) rfl) rfl
theorem tb_7 : Cond.initialized RX4 ∈ aTb := tm_1_0 (List.mem_of_getElem? (i := 7) rfl) rfl
theorem tb_8 : Cond.initialized RX5 ∈ aTb := tm_1_1 (List.mem_of_getElem? (i := 0) rfl) rfl
theorem tb_9 : Cond.initialized RX8 ∈ aTb := tm_1_1 (List.mem_of_getElem? (i := 1) rfl) rfl
theorem tb_10 : Cond.initialized RX3 ∈ aTb := tm_1_1 (List.mem_of_getElem? (i := 2) rfl) rfl
theorem tb_11 : Cond.initialized RX2 ∈ aTb := tm_1_1 (List.mem_of_getElem? (i := 3) rfl) rfl
theorem tb_12 : Cond.initialized RX11 ∈ aTb := tm_1_1 (List.mem_of_getElem? (i := 4) rfl) rfl
theorem tb_13 : Cond.initialized RJ9 ∈ aTb := tm_1_1 (List.mem_of_getElem? (i := 5) rfl) rfl
theorem tb_14 : Cond.initialized RJ0 ∈ aTb := tm_1_1 (List.mem_of_getElem? (i := 6) rfl) rfl
theorem tb_15 : Cond.initialized RJ1 ∈ aTb := tm_1_1 (List.mem_of_getElem? (i := 7) rfl) rfl
theorem tb_16 : Cond.initialized RJ3 ∈ aTb := tm_1_2 (List.mem_of_getElem? (i := 0) rfl) rfl
theorem tb_18 : Cond.initialized RX6 ∈ aTb := tm_1_2 (List.mem_of_getElem? (i := 2) rfl) rfl
theorem tb_19 : Cond.initialized RJ10 ∈ aTb := tm_1_2 (List.mem_of_getElem? (i := 3) rfl) rfl
theorem tb_20 : Cond.initialized RJ6 ∈ aTb := tm_1_2 (List.mem_of_getElem? (i := 4) rfl) rfl
theorem tb_21 : Cond.classLink RL 7 RX10 ∈ aTb := tm_1_2 (List.mem_of_getElem? (i := 5) rfl) rfl
theorem tb_23 : Cond.methodLink RL 9 yX10_init ∈ aTb := tm_1_2 (List.mem_of_getElem? (i := 7) rfl) rfl
theorem tb_24 : Cond.instanceMethod yX10_init ∈ aTb := tm_1_3 (List.mem_of_getElem? (i := 0) rfl) rfl
theorem tb_26 : Cond.methodLink RX10 1 objectInit ∈ aTb := tm_1_3 (List.mem_of_getElem? (i := 2) rfl) rfl
theorem tb_27 : Cond.instanceMethod objectInit ∈ aTb := tm_1_3 (List.mem_of_getElem? (i := 3) rfl) rfl
theorem tb_28 : Cond.code objectInit ⟨#[0xb1]⟩ 1 none ∈ aTb := tm_1_3 (List.mem_of_getElem? (i := 4) rfl) rfl
theorem tb_29 : Cond.classLink RX10 7 RX1 ∈ aTb := tm_1_3 (List.mem_of_getElem? (i := 5) rfl) rfl
theorem tb_31 : Cond.methodLink RX10 9 yX1_init ∈ aTb := tm_1_3 (List.mem_of_getElem? (i := 7) rfl) rfl
theorem tb_32 : Cond.instanceMethod yX1_init ∈ aTb := tm_1_4 (List.mem_of_getElem? (i := 0) rfl) rfl
theorem tb_34 : Cond.methodLink RX1 3 objectInit ∈ aTb := tm_1_4 (List.mem_of_getElem? (i := 2) rfl) rfl
theorem tb_35 : Cond.classLink RX1 18 RX6 ∈ aTb := tm_1_4 (List.mem_of_getElem? (i := 3) rfl) rfl
theorem tb_37 : Cond.methodLink RX1 37 yJ7_fill_53178 ∈ aTb := tm_1_4 (List.mem_of_getElem? (i := 5) rfl) rfl
theorem tb_38 : Cond.static yJ7_fill_53178 ∈ aTb := tm_1_4 (List.mem_of_getElem? (i := 6) rfl) rfl
theorem tb_40 : Cond.fieldLink RX1 9 "LitCoast$Coast" "oil" "[I" ∈ aTb := tm_1_5 (List.mem_of_getElem? (i := 0) rfl) rfl
theorem tb_41 : Cond.fieldLink RX10 99 "LitCoast$Coast" "oil" "[I" ∈ aTb := tm_1_5 (List.mem_of_getElem? (i := 1) rfl) rfl
theorem tb_42 : Cond.fieldLink RX4 149 "LitCoast$Coast" "oil" "[I" ∈ aTb := tm_1_5 (List.mem_of_getElem? (i := 2) rfl) rfl
theorem tb_43 : Cond.fieldLink RX1 15 "LitCoast$Coast" "code" "[I" ∈ aTb := tm_1_5 (List.mem_of_getElem? (i := 3) rfl) rfl
theorem tb_44 : Cond.fieldLink RX3 78 "LitCoast$Coast" "code" "[I" ∈ aTb := tm_1_5 (List.mem_of_getElem? (i := 4) rfl) rfl
theorem tb_45 : Cond.fieldLink RX8 47 "LitCoast$Coast" "code" "[I" ∈ aTb := tm_1_5 (List.mem_of_getElem? (i := 5) rfl) rfl
theorem tb_46 : Cond.fieldLink RX4 70 "LitCoast$Coast" "code" "[I" ∈ aTb := tm_1_5 (List.mem_of_getElem? (i := 6) rfl) rfl
theorem tb_47 : Cond.fieldLink RX10 137 "LitCoast$Coast" "code" "[I" ∈ aTb := tm_1_5 (List.mem_of_getElem? (i := 7) rfl) rfl
theorem tb_48 : Cond.fieldLink RX1 20 "LitCoast$Coast" "laws" "[LLitCoast$Law;" ∈ aTb := tm_1_6 (List.mem_of_getElem? (i := 0) rfl) rfl
theorem tb_49 : Cond.fieldLink RX10 177 "LitCoast$Coast" "laws" "[LLitCoast$Law;" ∈ aTb := tm_1_6 (List.mem_of_getElem? (i := 1) rfl) rfl
theorem tb_50 : Cond.fieldLink RX1 24 "LitCoast$Coast" "log" "[I" ∈ aTb := tm_1_6 (List.mem_of_getElem? (i := 2) rfl) rfl
theorem tb_51 : Cond.fieldLink RX10 247 "LitCoast$Coast" "log" "[I" ∈ aTb := tm_1_6 (List.mem_of_getElem? (i := 3) rfl) rfl
theorem tb_52 : Cond.fieldLink RX1 27 "LitCoast$Coast" "wanted" "[I" ∈ aTb := tm_1_6 (List.mem_of_getElem? (i := 4) rfl) rfl
theorem tb_53 : Cond.fieldLink RX3 81 "LitCoast$Coast" "wanted" "[I" ∈ aTb := tm_1_6 (List.mem_of_getElem? (i := 5) rfl) rfl
theorem tb_54 : Cond.fieldLink RX10 278 "LitCoast$Coast" "wanted" "[I" ∈ aTb := tm_1_6 (List.mem_of_getElem? (i := 6) rfl) rfl
theorem tb_55 : Cond.fieldLink RX1 30 "LitCoast$Coast" "lamps" "I" ∈ aTb := tm_1_6 (List.mem_of_getElem? (i := 7) rfl) rfl
theorem tb_56 : Cond.fieldLink RX10 93 "LitCoast$Coast" "lamps" "I" ∈ aTb := tm_1_7 (List.mem_of_getElem? (i := 0) rfl) rfl
theorem tb_57 : Cond.fieldLink RX3 71 "LitCoast$Coast" "lamps" "I" ∈ aTb := tm_1_7 (List.mem_of_getElem? (i := 1) rfl) rfl
theorem tb_58 : Cond.fieldLink RX0 64 "LitCoast$Coast" "lamps" "I" ∈ aTb := tm_1_7 (List.mem_of_getElem? (i := 2) rfl) rfl
theorem tb_59 : Cond.fieldLink RX4 146 "LitCoast$Coast" "lamps" "I" ∈ aTb := tm_1_7 (List.mem_of_getElem? (i := 3) rfl) rfl
theorem tb_60 : Cond.fieldLink RX1 34 "LitCoast$Coast" "news" "I" ∈ aTb := tm_1_7 (List.mem_of_getElem? (i := 4) rfl) rfl
theorem tb_61 : Cond.fieldLink RX0 42 "LitCoast$Coast" "news" "I" ∈ aTb := tm_1_7 (List.mem_of_getElem? (i := 5) rfl) rfl
theorem tb_62 : Cond.fieldLink RX10 117 "LitCoast$Coast" "news" "I" ∈ aTb := tm_1_7 (List.mem_of_getElem? (i := 6) rfl) rfl
theorem tb_63 : Cond.fieldLink RX8 53 "LitCoast$Coast" "news" "I" ∈ aTb := tm_1_7 (List.mem_of_getElem? (i := 7) rfl) rfl
theorem tb_64 : Cond.fieldLink RX4 83 "LitCoast$Coast" "news" "I" ∈ aTb := tm_1_8 (List.mem_of_getElem? (i := 0) rfl) rfl
theorem tb_65 : Cond.fieldLink RX10 96 "LitCoast$Coast" "broken" "I" ∈ aTb := tm_1_8 (List.mem_of_getElem? (i := 1) rfl) rfl
theorem tb_66 : Cond.fieldLink RX3 84 "LitCoast$Coast" "broken" "I" ∈ aTb := tm_1_8 (List.mem_of_getElem? (i := 2) rfl) rfl
theorem tb_67 : Cond.fieldLink RX4 79 "LitCoast$Coast" "broken" "I" ∈ aTb := tm_1_8 (List.mem_of_getElem? (i := 3) rfl) rfl
theorem tb_68 : Cond.fieldLink RX1 47 "LitCoast$Coast" "broken" "I" ∈ aTb := tm_1_8 (List.mem_of_getElem? (i := 4) rfl) rfl
theorem tb_69 : Cond.fieldLink RX1 58 "LitCoast$Coast" "state" "I" ∈ aTb := tm_1_8 (List.mem_of_getElem? (i := 5) rfl) rfl
theorem tb_70 : Cond.fieldLink RX10 236 "LitCoast$Coast" "state" "I" ∈ aTb := tm_1_8 (List.mem_of_getElem? (i := 6) rfl) rfl
theorem tb_71 : Cond.fieldLink RX10 170 "LitCoast$Coast" "lawCount" "I" ∈ aTb := tm_1_8 (List.mem_of_getElem? (i := 7) rfl) rfl
theorem tb_72 : Cond.fieldLink RX1 73 "LitCoast$Coast" "lawCount" "I" ∈ aTb := tm_1_9 (List.mem_of_getElem? (i := 0) rfl) rfl
theorem tb_73 : Cond.fieldLink RX1 61 "LitCoast$Coast" "logCount" "I" ∈ aTb := tm_1_9 (List.mem_of_getElem? (i := 1) rfl) rfl
theorem tb_74 : Cond.fieldLink RX10 239 "LitCoast$Coast" "logCount" "I" ∈ aTb := tm_1_9 (List.mem_of_getElem? (i := 2) rfl) rfl
theorem tb_75 : Cond.fieldLink RX3 68 "LitCoast$Coast" "wantedCount" "I" ∈ aTb := tm_1_9 (List.mem_of_getElem? (i := 3) rfl) rfl
theorem tb_76 : Cond.fieldLink RX1 64 "LitCoast$Coast" "wantedCount" "I" ∈ aTb := tm_1_9 (List.mem_of_getElem? (i := 4) rfl) rfl
theorem tb_77 : Cond.fieldLink RX10 275 "LitCoast$Coast" "wantedCount" "I" ∈ aTb := tm_1_9 (List.mem_of_getElem? (i := 5) rfl) rfl
theorem tb_103 : Cond.arrayClass .int ∈ aTb := tm_1_12 (List.mem_of_getElem? (i := 7) rfl) rfl
theorem tb_105 : Cond.classLink RX10 20 RX9 ∈ aTb := tm_1_13 (List.mem_of_getElem? (i := 1) rfl) rfl
theorem tb_108 : Cond.instanceMethod yX9_init ∈ aTb := tm_1_13 (List.mem_of_getElem? (i := 4) rfl) rfl
theorem tb_110 : Cond.methodLink RX9 3 objectInit ∈ aTb := tm_1_13 (List.mem_of_getElem? (i := 6) rfl) rfl
theorem tb_111 : Cond.fieldLink RX9 9 "LitCoast$Tape" "bytes" "[I" ∈ aTb := tm_1_13 (List.mem_of_getElem? (i := 7) rfl) rfl
theorem tb_112 : Cond.fieldLink RX9 15 "LitCoast$Tape" "length" "I" ∈ aTb := tm_1_14 (List.mem_of_getElem? (i := 0) rfl) rfl
theorem tb_113 : Cond.fieldLink RX10 148 "LitCoast$Tape" "length" "I" ∈ aTb := tm_1_14 (List.mem_of_getElem? (i := 1) rfl) rfl
theorem tb_114 : Cond.fieldLink RX7 128 "LitCoast$Tape" "length" "I" ∈ aTb := tm_1_14 (List.mem_of_getElem? (i := 2) rfl) rfl
theorem tb_120 : Cond.classLink RX10 27 RX7 ∈ aTb := tm_1_15 (List.mem_of_getElem? (i := 0) rfl) rfl
theorem tb_122 : Cond.methodLink RX10 29 yX7_init ∈ aTb := tm_1_15 (List.mem_of_getElem? (i := 2) rfl) rfl
theorem tb_123 : Cond.instanceMethod yX7_init ∈ aTb := tm_1_15 (List.mem_of_getElem? (i := 3) rfl) rfl
theorem tb_125 : Cond.methodLink RX7 3 objectInit ∈ aTb := tm_1_15 (List.mem_of_getElem? (i := 5) rfl) rfl
theorem tb_126 : Cond.fieldLink RX7 9 "LitCoast$LawReader" "faultPlace" "I" ∈ aTb := tm_1_15 (List.mem_of_getElem? (i := 6) rfl) rfl
theorem tb_127 : Cond.fieldLink RX10 181 "LitCoast$LawReader" "faultPlace" "I" ∈ aTb := tm_1_15 (List.mem_of_getElem? (i := 7) rfl) rfl
theorem tb_128 : Cond.fieldLink RX7 28 "LitCoast$LawReader" "tape" "LLitCoast$Tape;" ∈ aTb := tm_1_16 (List.mem_of_getElem? (i := 0) rfl) rfl
theorem tb_129 : Cond.fieldLink RX7 15 "LitCoast$LawReader" "kinds" "[I" ∈ aTb := tm_1_16 (List.mem_of_getElem? (i := 1) rfl) rfl
theorem tb_130 : Cond.fieldLink RX7 19 "LitCoast$LawReader" "places" "[I" ∈ aTb := tm_1_16 (List.mem_of_getElem? (i := 2) rfl) rfl
theorem tb_131 : Cond.fieldLink RX7 22 "LitCoast$LawReader" "steps" "[I" ∈ aTb := tm_1_16 (List.mem_of_getElem? (i := 3) rfl) rfl
theorem tb_132 : Cond.fieldLink RX7 25 "LitCoast$LawReader" "marks" "[I" ∈ aTb := tm_1_16 (List.mem_of_getElem? (i := 4) rfl) rfl
theorem tb_133 : Cond.fieldLink RX7 116 "LitCoast$LawReader" "tokenCount" "I" ∈ aTb := tm_1_16 (List.mem_of_getElem? (i := 5) rfl) rfl
theorem tb_134 : Cond.fieldLink RX7 35 "LitCoast$LawReader" "token" "I" ∈ aTb := tm_1_16 (List.mem_of_getElem? (i := 6) rfl) rfl
theorem tb_135 : Cond.fieldLink RX7 38 "LitCoast$LawReader" "kind" "I" ∈ aTb := tm_1_16 (List.mem_of_getElem? (i := 7) rfl) rfl
theorem tb_136 : Cond.fieldLink RX7 41 "LitCoast$LawReader" "stepCount" "I" ∈ aTb := tm_1_17 (List.mem_of_getElem? (i := 0) rfl) rfl
theorem tb_137 : Cond.fieldLink RX7 44 "LitCoast$LawReader" "partCount" "I" ∈ aTb := tm_1_17 (List.mem_of_getElem? (i := 1) rfl) rfl
theorem tb_138 : Cond.fieldLink RX7 47 "LitCoast$LawReader" "clauseCount" "I" ∈ aTb := tm_1_17 (List.mem_of_getElem? (i := 2) rfl) rfl
theorem tb_164 : Cond.classLink RX10 36 RX0 ∈ aTb := tm_1_20 (List.mem_of_getElem? (i := 4) rfl) rfl
theorem tb_167 : Cond.instanceMethod yX0_init ∈ aTb := tm_1_20 (List.mem_of_getElem? (i := 7) rfl) rfl
theorem tb_169 : Cond.methodLink RX0 3 objectInit ∈ aTb := tm_1_21 (List.mem_of_getElem? (i := 1) rfl) rfl
theorem tb_170 : Cond.fieldLink RX0 11 "LitCoast$Asker" "words" "[I" ∈ aTb := tm_1_21 (List.mem_of_getElem? (i := 2) rfl) rfl
theorem tb_171 : Cond.fieldLink RX0 17 "LitCoast$Asker" "stack" "[J" ∈ aTb := tm_1_21 (List.mem_of_getElem? (i := 3) rfl) rfl
theorem tb_177 : Cond.arrayClass .long ∈ aTb := tm_1_22 (List.mem_of_getElem? (i := 1) rfl) rfl
theorem tb_178 : Cond.classLink RX10 43 RX4 ∈ aTb := tm_1_22 (List.mem_of_getElem? (i := 2) rfl) rfl
theorem tb_180 : Cond.methodLink RX10 45 yX4_init ∈ aTb := tm_1_22 (List.mem_of_getElem? (i := 4) rfl) rfl
theorem tb_181 : Cond.instanceMethod yX4_init ∈ aTb := tm_1_22 (List.mem_of_getElem? (i := 5) rfl) rfl
theorem tb_183 : Cond.methodLink RX4 3 objectInit ∈ aTb := tm_1_22 (List.mem_of_getElem? (i := 7) rfl) rfl
theorem tb_184 : Cond.classLink RX4 21 RX5 ∈ aTb := tm_1_23 (List.mem_of_getElem? (i := 0) rfl) rfl
theorem tb_186 : Cond.methodLink RX4 23 yX5_init ∈ aTb := tm_1_23 (List.mem_of_getElem? (i := 2) rfl) rfl
theorem tb_187 : Cond.instanceMethod yX5_init ∈ aTb := tm_1_23 (List.mem_of_getElem? (i := 3) rfl) rfl
theorem tb_189 : Cond.methodLink RX5 3 objectInit ∈ aTb := tm_1_23 (List.mem_of_getElem? (i := 5) rfl) rfl
theorem tb_190 : Cond.fieldLink RX5 15 "LitCoast$Lasting" "of" "[I" ∈ aTb := tm_1_23 (List.mem_of_getElem? (i := 6) rfl) rfl
theorem tb_191 : Cond.fieldLink RX4 67 "LitCoast$Lasting" "of" "[I" ∈ aTb := tm_1_23 (List.mem_of_getElem? (i := 7) rfl) rfl
theorem tb_192 : Cond.fieldLink RX2 63 "LitCoast$Lasting" "of" "[I" ∈ aTb := tm_1_24 (List.mem_of_getElem? (i := 0) rfl) rfl
theorem tb_193 : Cond.fieldLink RX5 9 "LitCoast$Lasting" "best" "[I" ∈ aTb := tm_1_24 (List.mem_of_getElem? (i := 1) rfl) rfl
theorem tb_199 : Cond.fieldLink RX3 26 "LitCoast$Keeper" "coast" "LLitCoast$Coast;" ∈ aTb := tm_1_24 (List.mem_of_getElem? (i := 7) rfl) rfl
theorem tb_200 : Cond.fieldLink RX4 47 "LitCoast$Keeper" "coast" "LLitCoast$Coast;" ∈ aTb := tm_1_25 (List.mem_of_getElem? (i := 0) rfl) rfl
theorem tb_201 : Cond.fieldLink RX8 43 "LitCoast$Keeper" "coast" "LLitCoast$Coast;" ∈ aTb := tm_1_25 (List.mem_of_getElem? (i := 1) rfl) rfl
theorem tb_202 : Cond.fieldLink RX4 9 "LitCoast$Keeper" "oilTable" "[I" ∈ aTb := tm_1_25 (List.mem_of_getElem? (i := 2) rfl) rfl
theorem tb_203 : Cond.fieldLink RX3 87 "LitCoast$Keeper" "oilTable" "[I" ∈ aTb := tm_1_25 (List.mem_of_getElem? (i := 3) rfl) rfl
theorem tb_204 : Cond.fieldLink RX4 15 "LitCoast$Keeper" "failingNews" "[I" ∈ aTb := tm_1_25 (List.mem_of_getElem? (i := 4) rfl) rfl
theorem tb_205 : Cond.fieldLink RX10 219 "LitCoast$Keeper" "failingNews" "[I" ∈ aTb := tm_1_25 (List.mem_of_getElem? (i := 5) rfl) rfl
theorem tb_206 : Cond.fieldLink RX4 18 "LitCoast$Keeper" "chosen" "[I" ∈ aTb := tm_1_25 (List.mem_of_getElem? (i := 6) rfl) rfl
theorem tb_207 : Cond.fieldLink RX8 57 "LitCoast$Keeper" "chosen" "[I" ∈ aTb := tm_1_25 (List.mem_of_getElem? (i := 7) rfl) rfl
theorem tb_208 : Cond.fieldLink RX4 26 "LitCoast$Keeper" "lasting" "LLitCoast$Lasting;" ∈ aTb := tm_1_26 (List.mem_of_getElem? (i := 0) rfl) rfl
theorem tb_209 : Cond.fieldLink RX4 30 "LitCoast$Keeper" "hurtLasting" "LLitCoast$Lasting;" ∈ aTb := tm_1_26 (List.mem_of_getElem? (i := 1) rfl) rfl
theorem tb_210 : Cond.fieldLink RX4 33 "LitCoast$Keeper" "meanTable" "[J" ∈ aTb := tm_1_26 (List.mem_of_getElem? (i := 2) rfl) rfl
theorem tb_211 : Cond.fieldLink RX4 37 "LitCoast$Keeper" "richest" "[J" ∈ aTb := tm_1_26 (List.mem_of_getElem? (i := 3) rfl) rfl
theorem tb_212 : Cond.fieldLink RX4 40 "LitCoast$Keeper" "newsAtDistance" "[I" ∈ aTb := tm_1_26 (List.mem_of_getElem? (i := 4) rfl) rfl
theorem tb_213 : Cond.fieldLink RX4 43 "LitCoast$Keeper" "meanUnit" "J" ∈ aTb := tm_1_26 (List.mem_of_getElem? (i := 5) rfl) rfl
theorem tb_214 : Cond.fieldLink RX4 51 "LitCoast$Keeper" "oilFresh" "Z" ∈ aTb := tm_1_26 (List.mem_of_getElem? (i := 6) rfl) rfl
theorem tb_215 : Cond.fieldLink RX10 124 "LitCoast$Keeper" "oilFresh" "Z" ∈ aTb := tm_1_26 (List.mem_of_getElem? (i := 7) rfl) rfl
theorem tb_216 : Cond.fieldLink RX4 55 "LitCoast$Keeper" "lastingFresh" "Z" ∈ aTb := tm_1_27 (List.mem_of_getElem? (i := 0) rfl) rfl
theorem tb_217 : Cond.fieldLink RX4 58 "LitCoast$Keeper" "meanFresh" "Z" ∈ aTb := tm_1_27 (List.mem_of_getElem? (i := 1) rfl) rfl
theorem tb_245 : Cond.classLink RX10 52 RX8 ∈ aTb := tm_2_0 (List.mem_of_getElem? (i := 5) rfl) rfl
theorem tb_247 : Cond.methodLink RX10 54 yX8_init ∈ aTb := tm_2_0 (List.mem_of_getElem? (i := 7) rfl) rfl
theorem tb_248 : Cond.instanceMethod yX8_init ∈ aTb := tm_2_1 (List.mem_of_getElem? (i := 0) rfl) rfl
theorem tb_250 : Cond.methodLink RX8 3 objectInit ∈ aTb := tm_2_1 (List.mem_of_getElem? (i := 2) rfl) rfl
theorem tb_251 : Cond.fieldLink RX8 15 "LitCoast$RowCounter" "keeper" "LLitCoast$Keeper;" ∈ aTb := tm_2_1 (List.mem_of_getElem? (i := 3) rfl) rfl
theorem tb_252 : Cond.fieldLink RX8 9 "LitCoast$RowCounter" "many" "[J" ∈ aTb := tm_2_1 (List.mem_of_getElem? (i := 4) rfl) rfl
theorem tb_258 : Cond.classLink RX10 61 RX3 ∈ aTb := tm_2_2 (List.mem_of_getElem? (i := 2) rfl) rfl
theorem tb_260 : Cond.methodLink RX10 63 yX3_init ∈ aTb := tm_2_2 (List.mem_of_getElem? (i := 4) rfl) rfl
theorem tb_261 : Cond.instanceMethod yX3_init ∈ aTb := tm_2_2 (List.mem_of_getElem? (i := 5) rfl) rfl
theorem tb_263 : Cond.methodLink RX3 3 objectInit ∈ aTb := tm_2_2 (List.mem_of_getElem? (i := 7) rfl) rfl
theorem tb_264 : Cond.fieldLink RX3 9 "LitCoast$Errand" "states" "[I" ∈ aTb := tm_2_3 (List.mem_of_getElem? (i := 0) rfl) rfl
theorem tb_265 : Cond.fieldLink RX10 290 "LitCoast$Errand" "states" "[I" ∈ aTb := tm_2_3 (List.mem_of_getElem? (i := 1) rfl) rfl
theorem tb_266 : Cond.fieldLink RX3 46 "LitCoast$Errand" "least" "I" ∈ aTb := tm_2_3 (List.mem_of_getElem? (i := 2) rfl) rfl
theorem tb_267 : Cond.fieldLink RX10 284 "LitCoast$Errand" "least" "I" ∈ aTb := tm_2_3 (List.mem_of_getElem? (i := 3) rfl) rfl
theorem tb_268 : Cond.fieldLink RX3 98 "LitCoast$Errand" "manyWays" "I" ∈ aTb := tm_2_3 (List.mem_of_getElem? (i := 4) rfl) rfl
theorem tb_269 : Cond.fieldLink RX10 287 "LitCoast$Errand" "manyWays" "I" ∈ aTb := tm_2_3 (List.mem_of_getElem? (i := 5) rfl) rfl
theorem tb_270 : Cond.fieldLink RX3 33 "LitCoast$Errand" "fresh" "Z" ∈ aTb := tm_2_3 (List.mem_of_getElem? (i := 6) rfl) rfl
theorem tb_271 : Cond.fieldLink RX10 128 "LitCoast$Errand" "fresh" "Z" ∈ aTb := tm_2_3 (List.mem_of_getElem? (i := 7) rfl) rfl
theorem tb_272 : Cond.fieldLink RX3 22 "LitCoast$Errand" "keeper" "LLitCoast$Keeper;" ∈ aTb := tm_2_4 (List.mem_of_getElem? (i := 0) rfl) rfl
theorem tb_273 : Cond.fieldLink RX3 32 "LitCoast$Errand" "coast" "LLitCoast$Coast;" ∈ aTb := tm_2_4 (List.mem_of_getElem? (i := 1) rfl) rfl
theorem tb_274 : Cond.fieldLink RX3 15 "LitCoast$Errand" "ways" "[J" ∈ aTb := tm_2_4 (List.mem_of_getElem? (i := 2) rfl) rfl
theorem tb_275 : Cond.fieldLink RX3 19 "LitCoast$Errand" "open" "[I" ∈ aTb := tm_2_4 (List.mem_of_getElem? (i := 3) rfl) rfl
theorem tb_293 : Cond.classLink RX10 68 RX2 ∈ aTb := tm_2_6 (List.mem_of_getElem? (i := 5) rfl) rfl
theorem tb_296 : Cond.instanceMethod yX2_init ∈ aTb := tm_2_7 (List.mem_of_getElem? (i := 0) rfl) rfl
theorem tb_298 : Cond.methodLink RX2 3 objectInit ∈ aTb := tm_2_7 (List.mem_of_getElem? (i := 2) rfl) rfl
theorem tb_299 : Cond.classLink RX2 9 RX5 ∈ aTb := tm_2_7 (List.mem_of_getElem? (i := 3) rfl) rfl
theorem tb_300 : Cond.methodLink RX2 11 yX5_init ∈ aTb := tm_2_7 (List.mem_of_getElem? (i := 4) rfl) rfl
theorem tb_301 : Cond.fieldLink RX2 14 "LitCoast$CodeSearch" "lasting" "LLitCoast$Lasting;" ∈ aTb := tm_2_7 (List.mem_of_getElem? (i := 5) rfl) rfl
theorem tb_302 : Cond.fieldLink RX2 18 "LitCoast$CodeSearch" "row" "[I" ∈ aTb := tm_2_7 (List.mem_of_getElem? (i := 6) rfl) rfl
theorem tb_303 : Cond.fieldLink RX2 22 "LitCoast$CodeSearch" "peak" "[I" ∈ aTb := tm_2_7 (List.mem_of_getElem? (i := 7) rfl) rfl
theorem tb_304 : Cond.fieldLink RX2 25 "LitCoast$CodeSearch" "counts" "[I" ∈ aTb := tm_2_8 (List.mem_of_getElem? (i := 0) rfl) rfl
theorem tb_305 : Cond.fieldLink RX2 28 "LitCoast$CodeSearch" "firsts" "[I" ∈ aTb := tm_2_8 (List.mem_of_getElem? (i := 1) rfl) rfl
theorem tb_306 : Cond.fieldLink RX2 31 "LitCoast$CodeSearch" "searched" "[Z" ∈ aTb := tm_2_8 (List.mem_of_getElem? (i := 2) rfl) rfl
theorem tb_320 : Cond.arrayClass .boolean ∈ aTb := tm_2_10 (List.mem_of_getElem? (i := 0) rfl) rfl
theorem tb_321 : Cond.fieldLink RX10 10 "LitCoast" "coast" "LLitCoast$Coast;" ∈ aTb := tm_2_10 (List.mem_of_getElem? (i := 1) rfl) rfl
theorem tb_322 : Cond.fieldLink RX10 16 "LitCoast" "images" "[LLitCoast$Coast;" ∈ aTb := tm_2_10 (List.mem_of_getElem? (i := 2) rfl) rfl
theorem tb_323 : Cond.fieldLink RX10 23 "LitCoast" "tape" "LLitCoast$Tape;" ∈ aTb := tm_2_10 (List.mem_of_getElem? (i := 3) rfl) rfl
theorem tb_324 : Cond.fieldLink RX10 32 "LitCoast" "lawReader" "LLitCoast$LawReader;" ∈ aTb := tm_2_10 (List.mem_of_getElem? (i := 4) rfl) rfl
theorem tb_325 : Cond.fieldLink RX10 39 "LitCoast" "asker" "LLitCoast$Asker;" ∈ aTb := tm_2_10 (List.mem_of_getElem? (i := 5) rfl) rfl
theorem tb_326 : Cond.fieldLink RX10 48 "LitCoast" "keeper" "LLitCoast$Keeper;" ∈ aTb := tm_2_10 (List.mem_of_getElem? (i := 6) rfl) rfl
theorem tb_327 : Cond.fieldLink RX10 57 "LitCoast" "rowCounter" "LLitCoast$RowCounter;" ∈ aTb := tm_2_10 (List.mem_of_getElem? (i := 7) rfl) rfl
theorem tb_328 : Cond.fieldLink RX10 64 "LitCoast" "errand" "LLitCoast$Errand;" ∈ aTb := tm_2_11 (List.mem_of_getElem? (i := 0) rfl) rfl
theorem tb_329 : Cond.fieldLink RX10 71 "LitCoast" "codeSearch" "LLitCoast$CodeSearch;" ∈ aTb := tm_2_11 (List.mem_of_getElem? (i := 1) rfl) rfl
theorem tb_330 : Cond.fieldLink RX10 75 "LitCoast" "trailStates" "[I" ∈ aTb := tm_2_11 (List.mem_of_getElem? (i := 2) rfl) rfl
theorem tb_331 : Cond.fieldLink RX10 79 "LitCoast" "drawnStates" "[I" ∈ aTb := tm_2_11 (List.mem_of_getElem? (i := 3) rfl) rfl
theorem tb_332 : Cond.fieldLink RX10 82 "LitCoast" "refusals" "[I" ∈ aTb := tm_2_11 (List.mem_of_getElem? (i := 4) rfl) rfl
theorem tb_333 : Cond.fieldLink RX10 256 "LitCoast" "trailCount" "I" ∈ aTb := tm_2_11 (List.mem_of_getElem? (i := 5) rfl) rfl
theorem tb_334 : Cond.fieldLink RX10 298 "LitCoast" "drawnCount" "I" ∈ aTb := tm_2_11 (List.mem_of_getElem? (i := 6) rfl) rfl
theorem tb_335 : Cond.fieldLink RX10 85 "LitCoast" "unsent" "I" ∈ aTb := tm_2_11 (List.mem_of_getElem? (i := 7) rfl) rfl
theorem tb_336 : Cond.fieldLink RX10 164 "LitCoast" "tornBytes" "I" ∈ aTb := tm_2_12 (List.mem_of_getElem? (i := 0) rfl) rfl
theorem tb_337 : Cond.fieldLink RX10 304 "LitCoast" "latest" "I" ∈ aTb := tm_2_12 (List.mem_of_getElem? (i := 1) rfl) rfl
theorem tb_373 : Cond.methodLink RL 13 yX10_lamps ∈ aTb := tm_2_16 (List.mem_of_getElem? (i := 5) rfl) rfl
theorem tb_374 : Cond.instanceMethod yX10_lamps ∈ aTb := tm_2_16 (List.mem_of_getElem? (i := 6) rfl) rfl
theorem tb_375 : Cond.selects RX10 yX10_lamps yX10_lamps ∈ aTb := tm_2_16 (List.mem_of_getElem? (i := 7) rfl) rfl
theorem tb_377 : Cond.methodLink RX10 89 yX10_refuse ∈ aTb := tm_2_17 (List.mem_of_getElem? (i := 1) rfl) rfl
theorem tb_379 : Cond.instanceMethod yX10_refuse ∈ aTb := tm_2_17 (List.mem_of_getElem? (i := 3) rfl) rfl
theorem tb_381 : Cond.methodLink RX10 102 yJ7_fill_53178 ∈ aTb := tm_2_17 (List.mem_of_getElem? (i := 5) rfl) rfl
theorem tb_382 : Cond.methodLink RX10 108 yX1_forget ∈ aTb := tm_2_17 (List.mem_of_getElem? (i := 6) rfl) rfl
theorem tb_383 : Cond.instanceMethod yX1_forget ∈ aTb := tm_2_17 (List.mem_of_getElem? (i := 7) rfl) rfl
theorem tb_384 : Cond.selects RX1 yX1_forget yX1_forget ∈ aTb := tm_2_18 (List.mem_of_getElem? (i := 0) rfl) rfl
theorem tb_386 : Cond.methodLink RX10 111 yX10_codeChanged ∈ aTb := tm_2_18 (List.mem_of_getElem? (i := 2) rfl) rfl
theorem tb_388 : Cond.instanceMethod yX10_codeChanged ∈ aTb := tm_2_18 (List.mem_of_getElem? (i := 4) rfl) rfl
theorem tb_390 : Cond.methodLink RX10 307 yX4_forgetTables ∈ aTb := tm_2_18 (List.mem_of_getElem? (i := 6) rfl) rfl
theorem tb_391 : Cond.instanceMethod yX4_forgetTables ∈ aTb := tm_2_18 (List.mem_of_getElem? (i := 7) rfl) rfl
theorem tb_392 : Cond.selects RX4 yX4_forgetTables yX4_forgetTables ∈ aTb := tm_2_19 (List.mem_of_getElem? (i := 0) rfl) rfl
theorem tb_394 : Cond.methodLink RX10 114 yX10_accept ∈ aTb := tm_2_19 (List.mem_of_getElem? (i := 2) rfl) rfl
theorem tb_396 : Cond.instanceMethod yX10_accept ∈ aTb := tm_2_19 (List.mem_of_getElem? (i := 4) rfl) rfl
theorem tb_398 : Cond.methodLink RL 18 yX10_news ∈ aTb := tm_2_19 (List.mem_of_getElem? (i := 6) rfl) rfl
theorem tb_399 : Cond.instanceMethod yX10_news ∈ aTb := tm_2_19 (List.mem_of_getElem? (i := 7) rfl) rfl
theorem tb_400 : Cond.selects RX10 yX10_news yX10_news ∈ aTb := tm_2_20 (List.mem_of_getElem? (i := 0) rfl) rfl
theorem tb_402 : Cond.methodLink RL 22 yX10_oil ∈ aTb := tm_2_20 (List.mem_of_getElem? (i := 2) rfl) rfl
theorem tb_403 : Cond.instanceMethod yX10_oil ∈ aTb := tm_2_20 (List.mem_of_getElem? (i := 3) rfl) rfl
theorem tb_404 : Cond.selects RX10 yX10_oil yX10_oil ∈ aTb := tm_2_20 (List.mem_of_getElem? (i := 4) rfl) rfl
theorem tb_406 : Cond.methodLink RX10 120 yX1_isLamp ∈ aTb := tm_2_20 (List.mem_of_getElem? (i := 6) rfl) rfl
theorem tb_407 : Cond.instanceMethod yX1_isLamp ∈ aTb := tm_2_20 (List.mem_of_getElem? (i := 7) rfl) rfl
theorem tb_408 : Cond.selects RX1 yX1_isLamp yX1_isLamp ∈ aTb := tm_2_21 (List.mem_of_getElem? (i := 0) rfl) rfl
theorem tb_410 : Cond.methodLink RL 27 yX10_broken ∈ aTb := tm_2_21 (List.mem_of_getElem? (i := 2) rfl) rfl
theorem tb_411 : Cond.instanceMethod yX10_broken ∈ aTb := tm_2_21 (List.mem_of_getElem? (i := 3) rfl) rfl
theorem tb_412 : Cond.selects RX10 yX10_broken yX10_broken ∈ aTb := tm_2_21 (List.mem_of_getElem? (i := 4) rfl) rfl
theorem tb_414 : Cond.methodLink RL 31 yX10_read ∈ aTb := tm_2_21 (List.mem_of_getElem? (i := 6) rfl) rfl
theorem tb_415 : Cond.instanceMethod yX10_read ∈ aTb := tm_2_21 (List.mem_of_getElem? (i := 7) rfl) rfl
theorem tb_416 : Cond.selects RX10 yX10_read yX10_read ∈ aTb := tm_2_22 (List.mem_of_getElem? (i := 0) rfl) rfl
theorem tb_418 : Cond.methodLink RX10 131 yX1_isState ∈ aTb := tm_2_22 (List.mem_of_getElem? (i := 2) rfl) rfl
theorem tb_419 : Cond.instanceMethod yX1_isState ∈ aTb := tm_2_22 (List.mem_of_getElem? (i := 3) rfl) rfl
theorem tb_420 : Cond.selects RX1 yX1_isState yX1_isState ∈ aTb := tm_2_22 (List.mem_of_getElem? (i := 4) rfl) rfl
theorem tb_422 : Cond.methodLink RX1 43 yX1_full ∈ aTb := tm_2_22 (List.mem_of_getElem? (i := 6) rfl) rfl
theorem tb_423 : Cond.instanceMethod yX1_full ∈ aTb := tm_2_22 (List.mem_of_getElem? (i := 7) rfl) rfl
theorem tb_424 : Cond.selects RX1 yX1_full yX1_full ∈ aTb := tm_2_23 (List.mem_of_getElem? (i := 0) rfl) rfl
theorem tb_426 : Cond.methodLink RX10 134 yX1_isNews ∈ aTb := tm_2_23 (List.mem_of_getElem? (i := 2) rfl) rfl
theorem tb_427 : Cond.instanceMethod yX1_isNews ∈ aTb := tm_2_23 (List.mem_of_getElem? (i := 3) rfl) rfl
theorem tb_428 : Cond.selects RX1 yX1_isNews yX1_isNews ∈ aTb := tm_2_23 (List.mem_of_getElem? (i := 4) rfl) rfl
theorem tb_430 : Cond.methodLink RL 35 yX10_of ∈ aTb := tm_2_23 (List.mem_of_getElem? (i := 6) rfl) rfl
theorem tb_431 : Cond.instanceMethod yX10_of ∈ aTb := tm_2_23 (List.mem_of_getElem? (i := 7) rfl) rfl
theorem tb_432 : Cond.selects RX10 yX10_of yX10_of ∈ aTb := tm_2_24 (List.mem_of_getElem? (i := 0) rfl) rfl
theorem tb_434 : Cond.methodLink RL 39 yX10_feed ∈ aTb := tm_2_24 (List.mem_of_getElem? (i := 2) rfl) rfl
theorem tb_435 : Cond.instanceMethod yX10_feed ∈ aTb := tm_2_24 (List.mem_of_getElem? (i := 3) rfl) rfl
theorem tb_436 : Cond.selects RX10 yX10_feed yX10_feed ∈ aTb := tm_2_24 (List.mem_of_getElem? (i := 4) rfl) rfl
theorem tb_438 : Cond.methodLink RX10 140 yX9_hasRoom ∈ aTb := tm_2_24 (List.mem_of_getElem? (i := 6) rfl) rfl
theorem tb_439 : Cond.instanceMethod yX9_hasRoom ∈ aTb := tm_2_24 (List.mem_of_getElem? (i := 7) rfl) rfl
theorem tb_440 : Cond.selects RX9 yX9_hasRoom yX9_hasRoom ∈ aTb := tm_2_25 (List.mem_of_getElem? (i := 0) rfl) rfl
theorem tb_442 : Cond.methodLink RX10 144 yX9_put ∈ aTb := tm_2_25 (List.mem_of_getElem? (i := 2) rfl) rfl
theorem tb_443 : Cond.instanceMethod yX9_put ∈ aTb := tm_2_25 (List.mem_of_getElem? (i := 3) rfl) rfl
theorem tb_444 : Cond.selects RX9 yX9_put yX9_put ∈ aTb := tm_2_25 (List.mem_of_getElem? (i := 4) rfl) rfl
theorem tb_446 : Cond.methodLink RL 44 yX10_end ∈ aTb := tm_2_25 (List.mem_of_getElem? (i := 6) rfl) rfl
theorem tb_447 : Cond.instanceMethod yX10_end ∈ aTb := tm_2_25 (List.mem_of_getElem? (i := 7) rfl) rfl
theorem tb_448 : Cond.selects RX10 yX10_end yX10_end ∈ aTb := tm_2_26 (List.mem_of_getElem? (i := 0) rfl) rfl
theorem tb_450 : Cond.methodLink RL 48 yX10_row ∈ aTb := tm_2_26 (List.mem_of_getElem? (i := 2) rfl) rfl
theorem tb_451 : Cond.instanceMethod yX10_row ∈ aTb := tm_2_26 (List.mem_of_getElem? (i := 3) rfl) rfl
theorem tb_452 : Cond.selects RX10 yX10_row yX10_row ∈ aTb := tm_2_26 (List.mem_of_getElem? (i := 4) rfl) rfl
theorem tb_454 : Cond.methodLink RX10 151 yX1_full ∈ aTb := tm_2_26 (List.mem_of_getElem? (i := 6) rfl) rfl
theorem tb_455 : Cond.methodLink RX10 155 yX9_byteAt ∈ aTb := tm_2_26 (List.mem_of_getElem? (i := 7) rfl) rfl
theorem tb_456 : Cond.instanceMethod yX9_byteAt ∈ aTb := tm_2_27 (List.mem_of_getElem? (i := 0) rfl) rfl
theorem tb_457 : Cond.selects RX9 yX9_byteAt yX9_byteAt ∈ aTb := tm_2_27 (List.mem_of_getElem? (i := 1) rfl) rfl
theorem tb_459 : Cond.methodLink RX10 158 Lib.Math.max.name ∈ aTb := tm_2_27 (List.mem_of_getElem? (i := 3) rfl) rfl
theorem tb_460 : Cond.static Lib.Math.max.name ∈ aTb := tm_2_27 (List.mem_of_getElem? (i := 4) rfl) rfl
theorem tb_461 : Cond.code Lib.Math.max.name Lib.Math.max.code 2 (some .int) ∈ aTb := tm_2_27 (List.mem_of_getElem? (i := 5) rfl) rfl
theorem tb_462 : Cond.methodLink RX10 167 yX1_readCount ∈ aTb := tm_2_27 (List.mem_of_getElem? (i := 6) rfl) rfl
theorem tb_463 : Cond.instanceMethod yX1_readCount ∈ aTb := tm_2_27 (List.mem_of_getElem? (i := 7) rfl) rfl
theorem tb_464 : Cond.selects RX1 yX1_readCount yX1_readCount ∈ aTb := tm_2_28 (List.mem_of_getElem? (i := 0) rfl) rfl
theorem tb_466 : Cond.methodLink RL 53 yX10_torn ∈ aTb := tm_2_28 (List.mem_of_getElem? (i := 2) rfl) rfl
theorem tb_467 : Cond.instanceMethod yX10_torn ∈ aTb := tm_2_28 (List.mem_of_getElem? (i := 3) rfl) rfl
theorem tb_468 : Cond.selects RX10 yX10_torn yX10_torn ∈ aTb := tm_2_28 (List.mem_of_getElem? (i := 4) rfl) rfl
theorem tb_470 : Cond.methodLink RL 57 yX10_law ∈ aTb := tm_2_28 (List.mem_of_getElem? (i := 6) rfl) rfl
theorem tb_471 : Cond.instanceMethod yX10_law ∈ aTb := tm_2_28 (List.mem_of_getElem? (i := 7) rfl) rfl
theorem tb_472 : Cond.selects RX10 yX10_law yX10_law ∈ aTb := tm_2_29 (List.mem_of_getElem? (i := 0) rfl) rfl
theorem tb_474 : Cond.methodLink RX10 173 yX7_understand ∈ aTb := tm_2_29 (List.mem_of_getElem? (i := 2) rfl) rfl
theorem tb_475 : Cond.instanceMethod yX7_understand ∈ aTb := tm_2_29 (List.mem_of_getElem? (i := 3) rfl) rfl
theorem tb_476 : Cond.selects RX7 yX7_understand yX7_understand ∈ aTb := tm_2_29 (List.mem_of_getElem? (i := 4) rfl) rfl
theorem tb_478 : Cond.methodLink RX7 32 yX7_findTokens ∈ aTb := tm_2_29 (List.mem_of_getElem? (i := 6) rfl) rfl
theorem tb_480 : Cond.instanceMethod yX7_findTokens ∈ aTb := tm_3_0 (List.mem_of_getElem? (i := 0) rfl) rfl
theorem tb_482 : Cond.methodLink RX7 125 yX7_skipBlanks ∈ aTb := tm_3_0 (List.mem_of_getElem? (i := 2) rfl) rfl
theorem tb_484 : Cond.instanceMethod yX7_skipBlanks ∈ aTb := tm_3_0 (List.mem_of_getElem? (i := 4) rfl) rfl
theorem tb_486 : Cond.methodLink RX7 139 yX9_byteAt ∈ aTb := tm_3_0 (List.mem_of_getElem? (i := 6) rfl) rfl
theorem tb_487 : Cond.methodLink RX7 133 yX7_stopOf ∈ aTb := tm_3_0 (List.mem_of_getElem? (i := 7) rfl) rfl
theorem tb_489 : Cond.instanceMethod yX7_stopOf ∈ aTb := tm_3_1 (List.mem_of_getElem? (i := 1) rfl) rfl
theorem tb_491 : Cond.methodLink RX7 142 yX7_isLetter ∈ aTb := tm_3_1 (List.mem_of_getElem? (i := 3) rfl) rfl
theorem tb_492 : Cond.static yX7_isLetter ∈ aTb := tm_3_1 (List.mem_of_getElem? (i := 4) rfl) rfl
theorem tb_494 : Cond.methodLink RX7 145 yX7_isDigit ∈ aTb := tm_3_1 (List.mem_of_getElem? (i := 6) rfl) rfl
theorem tb_495 : Cond.static yX7_isDigit ∈ aTb := tm_3_1 (List.mem_of_getElem? (i := 7) rfl) rfl
theorem tb_497 : Cond.methodLink RX7 136 yX7_kindOf ∈ aTb := tm_3_2 (List.mem_of_getElem? (i := 1) rfl) rfl
theorem tb_499 : Cond.instanceMethod yX7_kindOf ∈ aTb := tm_3_2 (List.mem_of_getElem? (i := 3) rfl) rfl
theorem tb_501 : Cond.methodLink RX7 148 yX7_wordKind ∈ aTb := tm_3_2 (List.mem_of_getElem? (i := 5) rfl) rfl
theorem tb_503 : Cond.instanceMethod yX7_wordKind ∈ aTb := tm_3_2 (List.mem_of_getElem? (i := 7) rfl) rfl
theorem tb_506 : Cond.methodLink RX7 156 yX9_spells ∈ aTb := tm_3_3 (List.mem_of_getElem? (i := 2) rfl) rfl
theorem tb_507 : Cond.instanceMethod yX9_spells ∈ aTb := tm_3_3 (List.mem_of_getElem? (i := 3) rfl) rfl
theorem tb_508 : Cond.selects RX9 yX9_spells yX9_spells ∈ aTb := tm_3_3 (List.mem_of_getElem? (i := 4) rfl) rfl
theorem tb_510 : Cond.methodLink RX9 19 yJ0_length_8abf5 ∈ aTb := tm_3_3 (List.mem_of_getElem? (i := 6) rfl) rfl
theorem tb_511 : Cond.instanceMethod yJ0_length_8abf5 ∈ aTb := tm_3_3 (List.mem_of_getElem? (i := 7) rfl) rfl
theorem tb_512 : Cond.selects RJ0 yJ0_length_8abf5 yJ0_length_8abf5 ∈ aTb := tm_3_4 (List.mem_of_getElem? (i := 0) rfl) rfl
theorem tb_514 : Cond.methodLink RJ0 335 yJ0_coder_7d493 ∈ aTb := tm_3_4 (List.mem_of_getElem? (i := 2) rfl) rfl
theorem tb_515 : Cond.instanceMethod yJ0_coder_7d493 ∈ aTb := tm_3_4 (List.mem_of_getElem? (i := 3) rfl) rfl
theorem tb_516 : Cond.selects RJ0 yJ0_coder_7d493 yJ0_coder_7d493 ∈ aTb := tm_3_4 (List.mem_of_getElem? (i := 4) rfl) rfl
theorem tb_518 : Cond.fieldLink RJ0 38 "java/lang/String" "COMPACT_STRINGS" "Z" ∈ aTb := tm_3_4 (List.mem_of_getElem? (i := 6) rfl) rfl
theorem tb_520 : Cond.methodLink RX9 24 yJ0_charAt_5068e ∈ aTb := tm_3_5 (List.mem_of_getElem? (i := 0) rfl) rfl
theorem tb_521 : Cond.instanceMethod yJ0_charAt_5068e ∈ aTb := tm_3_5 (List.mem_of_getElem? (i := 1) rfl) rfl
theorem tb_522 : Cond.selects RJ0 yJ0_charAt_5068e yJ0_charAt_5068e ∈ aTb := tm_3_5 (List.mem_of_getElem? (i := 2) rfl) rfl
theorem tb_524 : Cond.methodLink RJ0 492 yJ0_isLatin1_aae02 ∈ aTb := tm_3_5 (List.mem_of_getElem? (i := 4) rfl) rfl
theorem tb_525 : Cond.instanceMethod yJ0_isLatin1_aae02 ∈ aTb := tm_3_5 (List.mem_of_getElem? (i := 5) rfl) rfl
theorem tb_526 : Cond.selects RJ0 yJ0_isLatin1_aae02 yJ0_isLatin1_aae02 ∈ aTb := tm_3_5 (List.mem_of_getElem? (i := 6) rfl) rfl
theorem tb_528 : Cond.methodLink RJ0 495 yJ1_charAt_3b067 ∈ aTb := tm_3_6 (List.mem_of_getElem? (i := 0) rfl) rfl
theorem tb_529 : Cond.static yJ1_charAt_3b067 ∈ aTb := tm_3_6 (List.mem_of_getElem? (i := 1) rfl) rfl
theorem tb_531 : Cond.methodLink RJ1 9 yJ0_checkIndex_df160 ∈ aTb := tm_3_6 (List.mem_of_getElem? (i := 3) rfl) rfl
theorem tb_532 : Cond.static yJ0_checkIndex_df160 ∈ aTb := tm_3_6 (List.mem_of_getElem? (i := 4) rfl) rfl
theorem tb_534 : Cond.fieldLink RJ0 1053 "jdk/internal/util/Preconditions" "SIOOBE_FORMATTER" "Ljava/util/function/BiFunction;" ∈ aTb := tm_3_6 (List.mem_of_getElem? (i := 6) rfl) rfl
theorem tb_536 : Cond.methodLink RJ0 1059 yJ3_checkIndex_8e157 ∈ aTb := tm_3_7 (List.mem_of_getElem? (i := 0) rfl) rfl
theorem tb_537 : Cond.static yJ3_checkIndex_8e157 ∈ aTb := tm_3_7 (List.mem_of_getElem? (i := 1) rfl) rfl
theorem tb_562 : Cond.methodLink RX7 168 yX7_partKind ∈ aTb := tm_3_10 (List.mem_of_getElem? (i := 2) rfl) rfl
theorem tb_564 : Cond.instanceMethod yX7_partKind ∈ aTb := tm_3_10 (List.mem_of_getElem? (i := 4) rfl) rfl
theorem tb_574 : Cond.methodLink RX7 151 yX7_numberAt ∈ aTb := tm_3_11 (List.mem_of_getElem? (i := 6) rfl) rfl
theorem tb_576 : Cond.instanceMethod yX7_numberAt ∈ aTb := tm_3_12 (List.mem_of_getElem? (i := 0) rfl) rfl
theorem tb_578 : Cond.methodLink RX7 119 Lib.Math.min.name ∈ aTb := tm_3_12 (List.mem_of_getElem? (i := 2) rfl) rfl
theorem tb_579 : Cond.static Lib.Math.min.name ∈ aTb := tm_3_12 (List.mem_of_getElem? (i := 3) rfl) rfl
theorem tb_580 : Cond.code Lib.Math.min.name Lib.Math.min.code 2 (some .int) ∈ aTb := tm_3_12 (List.mem_of_getElem? (i := 4) rfl) rfl
theorem tb_581 : Cond.methodLink RX7 50 yX7_takeClauses ∈ aTb := tm_3_12 (List.mem_of_getElem? (i := 5) rfl) rfl
theorem tb_583 : Cond.instanceMethod yX7_takeClauses ∈ aTb := tm_3_12 (List.mem_of_getElem? (i := 7) rfl) rfl
theorem tb_585 : Cond.methodLink RX7 65 yX7_takeClause ∈ aTb := tm_3_13 (List.mem_of_getElem? (i := 1) rfl) rfl
theorem tb_587 : Cond.instanceMethod yX7_takeClause ∈ aTb := tm_3_13 (List.mem_of_getElem? (i := 3) rfl) rfl
theorem tb_589 : Cond.methodLink RX7 68 yX7_fail ∈ aTb := tm_3_13 (List.mem_of_getElem? (i := 5) rfl) rfl
theorem tb_591 : Cond.instanceMethod yX7_fail ∈ aTb := tm_3_13 (List.mem_of_getElem? (i := 7) rfl) rfl
theorem tb_593 : Cond.methodLink RX7 71 yX7_advance ∈ aTb := tm_3_14 (List.mem_of_getElem? (i := 1) rfl) rfl
theorem tb_595 : Cond.instanceMethod yX7_advance ∈ aTb := tm_3_14 (List.mem_of_getElem? (i := 3) rfl) rfl
theorem tb_597 : Cond.methodLink RX7 74 yX7_takeSum ∈ aTb := tm_3_14 (List.mem_of_getElem? (i := 5) rfl) rfl
theorem tb_599 : Cond.instanceMethod yX7_takeSum ∈ aTb := tm_3_14 (List.mem_of_getElem? (i := 7) rfl) rfl
theorem tb_601 : Cond.methodLink RX7 110 yX7_takeTerm ∈ aTb := tm_3_15 (List.mem_of_getElem? (i := 1) rfl) rfl
theorem tb_603 : Cond.instanceMethod yX7_takeTerm ∈ aTb := tm_3_15 (List.mem_of_getElem? (i := 3) rfl) rfl
theorem tb_605 : Cond.methodLink RX7 113 yX7_takePart ∈ aTb := tm_3_15 (List.mem_of_getElem? (i := 5) rfl) rfl
theorem tb_607 : Cond.instanceMethod yX7_takePart ∈ aTb := tm_3_15 (List.mem_of_getElem? (i := 7) rfl) rfl
theorem tb_609 : Cond.methodLink RX7 104 yX7_takeSign ∈ aTb := tm_3_16 (List.mem_of_getElem? (i := 1) rfl) rfl
theorem tb_611 : Cond.instanceMethod yX7_takeSign ∈ aTb := tm_3_16 (List.mem_of_getElem? (i := 3) rfl) rfl
theorem tb_613 : Cond.methodLink RX7 101 yX7_step ∈ aTb := tm_3_16 (List.mem_of_getElem? (i := 5) rfl) rfl
theorem tb_615 : Cond.instanceMethod yX7_step ∈ aTb := tm_3_16 (List.mem_of_getElem? (i := 7) rfl) rfl
theorem tb_617 : Cond.methodLink RX7 107 yX7_stepOf ∈ aTb := tm_3_17 (List.mem_of_getElem? (i := 1) rfl) rfl
theorem tb_618 : Cond.static yX7_stepOf ∈ aTb := tm_3_17 (List.mem_of_getElem? (i := 2) rfl) rfl
theorem tb_620 : Cond.methodLink RX7 78 yX7_takeTest ∈ aTb := tm_3_17 (List.mem_of_getElem? (i := 4) rfl) rfl
theorem tb_622 : Cond.instanceMethod yX7_takeTest ∈ aTb := tm_3_17 (List.mem_of_getElem? (i := 6) rfl) rfl
theorem tb_624 : Cond.methodLink RX7 81 yX7_takeBoth ∈ aTb := tm_3_18 (List.mem_of_getElem? (i := 0) rfl) rfl
theorem tb_626 : Cond.instanceMethod yX7_takeBoth ∈ aTb := tm_3_18 (List.mem_of_getElem? (i := 2) rfl) rfl
theorem tb_628 : Cond.methodLink RX7 92 yX7_takePlain ∈ aTb := tm_3_18 (List.mem_of_getElem? (i := 4) rfl) rfl
theorem tb_630 : Cond.instanceMethod yX7_takePlain ∈ aTb := tm_3_18 (List.mem_of_getElem? (i := 6) rfl) rfl
theorem tb_632 : Cond.methodLink RX7 95 yX7_takeBracketed ∈ aTb := tm_3_19 (List.mem_of_getElem? (i := 0) rfl) rfl
theorem tb_634 : Cond.instanceMethod yX7_takeBracketed ∈ aTb := tm_3_19 (List.mem_of_getElem? (i := 2) rfl) rfl
theorem tb_636 : Cond.methodLink RX7 98 yX7_takeComparison ∈ aTb := tm_3_19 (List.mem_of_getElem? (i := 4) rfl) rfl
theorem tb_638 : Cond.instanceMethod yX7_takeComparison ∈ aTb := tm_3_19 (List.mem_of_getElem? (i := 6) rfl) rfl
theorem tb_640 : Cond.methodLink RX7 84 yX7_openSkip ∈ aTb := tm_3_20 (List.mem_of_getElem? (i := 0) rfl) rfl
theorem tb_642 : Cond.instanceMethod yX7_openSkip ∈ aTb := tm_3_20 (List.mem_of_getElem? (i := 2) rfl) rfl
theorem tb_644 : Cond.methodLink RX7 88 yX7_closeSkip ∈ aTb := tm_3_20 (List.mem_of_getElem? (i := 4) rfl) rfl
theorem tb_646 : Cond.instanceMethod yX7_closeSkip ∈ aTb := tm_3_20 (List.mem_of_getElem? (i := 6) rfl) rfl
theorem tb_648 : Cond.classLink RX7 54 RX6 ∈ aTb := tm_3_21 (List.mem_of_getElem? (i := 0) rfl) rfl
theorem tb_650 : Cond.methodLink RX7 56 yJ7_copyOf_59c91 ∈ aTb := tm_3_21 (List.mem_of_getElem? (i := 2) rfl) rfl
theorem tb_651 : Cond.static yJ7_copyOf_59c91 ∈ aTb := tm_3_21 (List.mem_of_getElem? (i := 3) rfl) rfl
theorem tb_659 : Cond.classLink RJ7 317 "[I" ∈ aTb := tm_3_22 (List.mem_of_getElem? (i := 3) rfl) rfl
theorem tb_660 : Cond.methodLink RJ7 304 Lib.Math.min.name ∈ aTb := tm_3_22 (List.mem_of_getElem? (i := 4) rfl) rfl
theorem tb_661 : Cond.methodLink RJ7 150 arraycopyName ∈ aTb := tm_3_22 (List.mem_of_getElem? (i := 5) rfl) rfl
theorem tb_662 : Cond.static arraycopyName ∈ aTb := tm_3_22 (List.mem_of_getElem? (i := 6) rfl) rfl
theorem tb_663 : Cond.native arraycopyName ∈ aTb := tm_3_22 (List.mem_of_getElem? (i := 7) rfl) rfl
theorem tb_664 : Cond.methodLink RX7 62 yX6_init ∈ aTb := tm_3_23 (List.mem_of_getElem? (i := 0) rfl) rfl
theorem tb_665 : Cond.instanceMethod yX6_init ∈ aTb := tm_3_23 (List.mem_of_getElem? (i := 1) rfl) rfl
theorem tb_667 : Cond.methodLink RX6 1 objectInit ∈ aTb := tm_3_23 (List.mem_of_getElem? (i := 3) rfl) rfl
theorem tb_668 : Cond.fieldLink RX6 7 "LitCoast$Law" "steps" "[I" ∈ aTb := tm_3_23 (List.mem_of_getElem? (i := 4) rfl) rfl
theorem tb_669 : Cond.fieldLink RX0 32 "LitCoast$Law" "steps" "[I" ∈ aTb := tm_3_23 (List.mem_of_getElem? (i := 5) rfl) rfl
theorem tb_670 : Cond.fieldLink RX6 13 "LitCoast$Law" "marks" "[I" ∈ aTb := tm_3_23 (List.mem_of_getElem? (i := 6) rfl) rfl
theorem tb_671 : Cond.fieldLink RX0 29 "LitCoast$Law" "marks" "[I" ∈ aTb := tm_3_23 (List.mem_of_getElem? (i := 7) rfl) rfl
theorem tb_672 : Cond.fieldLink RX6 16 "LitCoast$Law" "clauses" "I" ∈ aTb := tm_3_24 (List.mem_of_getElem? (i := 0) rfl) rfl
theorem tb_673 : Cond.fieldLink RX0 25 "LitCoast$Law" "clauses" "I" ∈ aTb := tm_3_24 (List.mem_of_getElem? (i := 1) rfl) rfl
theorem tb_681 : Cond.arrayClass .byte ∈ aTb := tm_3_25 (List.mem_of_getElem? (i := 1) rfl) rfl
theorem tb_682 : Cond.methodLink RL 61 yX10_fault ∈ aTb := tm_3_25 (List.mem_of_getElem? (i := 2) rfl) rfl
theorem tb_683 : Cond.instanceMethod yX10_fault ∈ aTb := tm_3_25 (List.mem_of_getElem? (i := 3) rfl) rfl
theorem tb_684 : Cond.selects RX10 yX10_fault yX10_fault ∈ aTb := tm_3_25 (List.mem_of_getElem? (i := 4) rfl) rfl
theorem tb_686 : Cond.methodLink RL 65 yX10_learn ∈ aTb := tm_3_25 (List.mem_of_getElem? (i := 6) rfl) rfl
theorem tb_687 : Cond.instanceMethod yX10_learn ∈ aTb := tm_3_25 (List.mem_of_getElem? (i := 7) rfl) rfl
theorem tb_688 : Cond.selects RX10 yX10_learn yX10_learn ∈ aTb := tm_3_26 (List.mem_of_getElem? (i := 0) rfl) rfl
theorem tb_690 : Cond.methodLink RX10 184 yX0_ask ∈ aTb := tm_3_26 (List.mem_of_getElem? (i := 2) rfl) rfl
theorem tb_691 : Cond.instanceMethod yX0_ask ∈ aTb := tm_3_26 (List.mem_of_getElem? (i := 3) rfl) rfl
theorem tb_692 : Cond.selects RX0 yX0_ask yX0_ask ∈ aTb := tm_3_26 (List.mem_of_getElem? (i := 4) rfl) rfl
theorem tb_694 : Cond.methodLink RX0 21 yX0_fillWords ∈ aTb := tm_3_26 (List.mem_of_getElem? (i := 6) rfl) rfl
theorem tb_696 : Cond.instanceMethod yX0_fillWords ∈ aTb := tm_3_27 (List.mem_of_getElem? (i := 0) rfl) rfl
theorem tb_698 : Cond.methodLink RX0 67 yJ6_bitCount_0f7a4 ∈ aTb := tm_3_27 (List.mem_of_getElem? (i := 2) rfl) rfl
theorem tb_699 : Cond.static yJ6_bitCount_0f7a4 ∈ aTb := tm_3_27 (List.mem_of_getElem? (i := 3) rfl) rfl
theorem tb_701 : Cond.constant RJ6 265 (Int32.ofInt (1431655765)) ∈ aTb := tm_3_27 (List.mem_of_getElem? (i := 5) rfl) rfl
theorem tb_702 : Cond.constant RJ6 266 (Int32.ofInt (858993459)) ∈ aTb := tm_3_27 (List.mem_of_getElem? (i := 6) rfl) rfl
theorem tb_703 : Cond.constant RJ6 267 (Int32.ofInt (252645135)) ∈ aTb := tm_3_27 (List.mem_of_getElem? (i := 7) rfl) rfl
theorem tb_704 : Cond.methodLink RX0 35 yX0_isSo ∈ aTb := tm_3_28 (List.mem_of_getElem? (i := 0) rfl) rfl
theorem tb_706 : Cond.instanceMethod yX0_isSo ∈ aTb := tm_3_28 (List.mem_of_getElem? (i := 2) rfl) rfl
theorem tb_708 : Cond.methodLink RX0 39 yX0_works ∈ aTb := tm_3_28 (List.mem_of_getElem? (i := 4) rfl) rfl
theorem tb_710 : Cond.instanceMethod yX0_works ∈ aTb := tm_3_28 (List.mem_of_getElem? (i := 6) rfl) rfl
theorem tb_712 : Cond.methodLink RX0 47 Lib.Math.min.name ∈ aTb := tm_3_29 (List.mem_of_getElem? (i := 0) rfl) rfl
theorem tb_713 : Cond.methodLink RX0 53 Lib.Math.max.name ∈ aTb := tm_3_29 (List.mem_of_getElem? (i := 1) rfl) rfl
theorem tb_714 : Cond.methodLink RX0 56 yX0_join ∈ aTb := tm_3_29 (List.mem_of_getElem? (i := 2) rfl) rfl
theorem tb_716 : Cond.instanceMethod yX0_join ∈ aTb := tm_3_29 (List.mem_of_getElem? (i := 4) rfl) rfl
theorem tb_718 : Cond.constantLong RX0 60 (Int64.ofInt (1000000000)) ∈ aTb := tm_3_29 (List.mem_of_getElem? (i := 6) rfl) rfl
theorem tb_719 : Cond.constantLong RX0 62 (Int64.ofInt (-1000000000)) ∈ aTb := tm_3_29 (List.mem_of_getElem? (i := 7) rfl) rfl
theorem tb_720 : Cond.methodLink RL 69 yX10_next ∈ aTb := tm_4_0 (List.mem_of_getElem? (i := 0) rfl) rfl
theorem tb_721 : Cond.instanceMethod yX10_next ∈ aTb := tm_4_0 (List.mem_of_getElem? (i := 1) rfl) rfl
theorem tb_722 : Cond.selects RX10 yX10_next yX10_next ∈ aTb := tm_4_0 (List.mem_of_getElem? (i := 2) rfl) rfl
theorem tb_724 : Cond.methodLink RX10 188 yX10_isManner ∈ aTb := tm_4_0 (List.mem_of_getElem? (i := 4) rfl) rfl
theorem tb_725 : Cond.static yX10_isManner ∈ aTb := tm_4_0 (List.mem_of_getElem? (i := 5) rfl) rfl
theorem tb_727 : Cond.methodLink RX10 191 yX4_prepare ∈ aTb := tm_4_0 (List.mem_of_getElem? (i := 7) rfl) rfl
theorem tb_728 : Cond.instanceMethod yX4_prepare ∈ aTb := tm_4_1 (List.mem_of_getElem? (i := 0) rfl) rfl
theorem tb_729 : Cond.selects RX4 yX4_prepare yX4_prepare ∈ aTb := tm_4_1 (List.mem_of_getElem? (i := 1) rfl) rfl
theorem tb_731 : Cond.methodLink RX4 61 yX4_fillOil ∈ aTb := tm_4_1 (List.mem_of_getElem? (i := 3) rfl) rfl
theorem tb_732 : Cond.instanceMethod yX4_fillOil ∈ aTb := tm_4_1 (List.mem_of_getElem? (i := 4) rfl) rfl
theorem tb_733 : Cond.selects RX4 yX4_fillOil yX4_fillOil ∈ aTb := tm_4_1 (List.mem_of_getElem? (i := 5) rfl) rfl
theorem tb_735 : Cond.methodLink RX4 64 yX4_fillLasting ∈ aTb := tm_4_1 (List.mem_of_getElem? (i := 7) rfl) rfl
theorem tb_737 : Cond.instanceMethod yX4_fillLasting ∈ aTb := tm_4_2 (List.mem_of_getElem? (i := 1) rfl) rfl
theorem tb_739 : Cond.methodLink RX4 75 yX1_full ∈ aTb := tm_4_2 (List.mem_of_getElem? (i := 3) rfl) rfl
theorem tb_740 : Cond.methodLink RX4 86 yX5_fill ∈ aTb := tm_4_2 (List.mem_of_getElem? (i := 4) rfl) rfl
theorem tb_741 : Cond.instanceMethod yX5_fill ∈ aTb := tm_4_2 (List.mem_of_getElem? (i := 5) rfl) rfl
theorem tb_742 : Cond.selects RX5 yX5_fill yX5_fill ∈ aTb := tm_4_2 (List.mem_of_getElem? (i := 6) rfl) rfl
theorem tb_744 : Cond.methodLink RX5 18 Lib.Math.min.name ∈ aTb := tm_4_3 (List.mem_of_getElem? (i := 0) rfl) rfl
theorem tb_745 : Cond.methodLink RX5 24 yX5_fillBest ∈ aTb := tm_4_3 (List.mem_of_getElem? (i := 1) rfl) rfl
theorem tb_747 : Cond.instanceMethod yX5_fillBest ∈ aTb := tm_4_3 (List.mem_of_getElem? (i := 3) rfl) rfl
theorem tb_749 : Cond.methodLink RX5 28 yJ7_fill_53178 ∈ aTb := tm_4_3 (List.mem_of_getElem? (i := 5) rfl) rfl
theorem tb_750 : Cond.methodLink RX5 34 Lib.Math.max.name ∈ aTb := tm_4_3 (List.mem_of_getElem? (i := 6) rfl) rfl
theorem tb_751 : Cond.methodLink RX4 90 yX4_fillMean ∈ aTb := tm_4_3 (List.mem_of_getElem? (i := 7) rfl) rfl
theorem tb_753 : Cond.instanceMethod yX4_fillMean ∈ aTb := tm_4_4 (List.mem_of_getElem? (i := 1) rfl) rfl
theorem tb_755 : Cond.methodLink RX4 152 yX4_meanOf ∈ aTb := tm_4_4 (List.mem_of_getElem? (i := 3) rfl) rfl
theorem tb_757 : Cond.instanceMethod yX4_meanOf ∈ aTb := tm_4_4 (List.mem_of_getElem? (i := 5) rfl) rfl
theorem tb_759 : Cond.methodLink RX4 156 yX4_fillRichest ∈ aTb := tm_4_4 (List.mem_of_getElem? (i := 7) rfl) rfl
theorem tb_761 : Cond.instanceMethod yX4_fillRichest ∈ aTb := tm_4_5 (List.mem_of_getElem? (i := 1) rfl) rfl
theorem tb_763 : Cond.constantLong RX4 159 (Int64.ofInt (-1)) ∈ aTb := tm_4_5 (List.mem_of_getElem? (i := 3) rfl) rfl
theorem tb_764 : Cond.methodLink RX4 163 yJ7_fill_d0a16 ∈ aTb := tm_4_5 (List.mem_of_getElem? (i := 4) rfl) rfl
theorem tb_765 : Cond.static yJ7_fill_d0a16 ∈ aTb := tm_4_5 (List.mem_of_getElem? (i := 5) rfl) rfl
theorem tb_767 : Cond.methodLink RX4 111 yX1_canLight ∈ aTb := tm_4_5 (List.mem_of_getElem? (i := 7) rfl) rfl
theorem tb_768 : Cond.instanceMethod yX1_canLight ∈ aTb := tm_4_6 (List.mem_of_getElem? (i := 0) rfl) rfl
theorem tb_769 : Cond.selects RX1 yX1_canLight yX1_canLight ∈ aTb := tm_4_6 (List.mem_of_getElem? (i := 1) rfl) rfl
theorem tb_771 : Cond.methodLink RX4 97 Lib.MathLoose.max_long.x ∈ aTb := tm_4_6 (List.mem_of_getElem? (i := 3) rfl) rfl
theorem tb_772 : Cond.static Lib.MathLoose.max_long.x ∈ aTb := tm_4_6 (List.mem_of_getElem? (i := 4) rfl) rfl
theorem tb_773 : Cond.code Lib.MathLoose.max_long.x Lib.MathLoose.max_long.code 4 (some .long) ∈ aTb := tm_4_6 (List.mem_of_getElem? (i := 5) rfl) rfl
theorem tb_774 : Cond.methodLink RX4 161 Lib.Math.max.name ∈ aTb := tm_4_6 (List.mem_of_getElem? (i := 6) rfl) rfl
theorem tb_775 : Cond.methodLink RX10 194 yX4_choose ∈ aTb := tm_4_6 (List.mem_of_getElem? (i := 7) rfl) rfl
theorem tb_776 : Cond.instanceMethod yX4_choose ∈ aTb := tm_4_7 (List.mem_of_getElem? (i := 0) rfl) rfl
theorem tb_777 : Cond.selects RX4 yX4_choose yX4_choose ∈ aTb := tm_4_7 (List.mem_of_getElem? (i := 1) rfl) rfl
theorem tb_779 : Cond.methodLink RX4 102 yX4_chooseAll ∈ aTb := tm_4_7 (List.mem_of_getElem? (i := 3) rfl) rfl
theorem tb_780 : Cond.instanceMethod yX4_chooseAll ∈ aTb := tm_4_7 (List.mem_of_getElem? (i := 4) rfl) rfl
theorem tb_781 : Cond.selects RX4 yX4_chooseAll yX4_chooseAll ∈ aTb := tm_4_7 (List.mem_of_getElem? (i := 5) rfl) rfl
theorem tb_783 : Cond.methodLink RX4 106 yJ7_fill_53178 ∈ aTb := tm_4_7 (List.mem_of_getElem? (i := 7) rfl) rfl
theorem tb_784 : Cond.methodLink RX4 115 yX4_isBetter ∈ aTb := tm_4_8 (List.mem_of_getElem? (i := 0) rfl) rfl
theorem tb_786 : Cond.instanceMethod yX4_isBetter ∈ aTb := tm_4_8 (List.mem_of_getElem? (i := 2) rfl) rfl
theorem tb_788 : Cond.methodLink RX4 138 yJ6_bitCount_0f7a4 ∈ aTb := tm_4_8 (List.mem_of_getElem? (i := 4) rfl) rfl
theorem tb_789 : Cond.methodLink RL 74 yX10_ways ∈ aTb := tm_4_8 (List.mem_of_getElem? (i := 5) rfl) rfl
theorem tb_790 : Cond.instanceMethod yX10_ways ∈ aTb := tm_4_8 (List.mem_of_getElem? (i := 6) rfl) rfl
theorem tb_791 : Cond.selects RX10 yX10_ways yX10_ways ∈ aTb := tm_4_8 (List.mem_of_getElem? (i := 7) rfl) rfl
theorem tb_793 : Cond.methodLink RX10 198 yX1_countWays ∈ aTb := tm_4_9 (List.mem_of_getElem? (i := 1) rfl) rfl
theorem tb_794 : Cond.instanceMethod yX1_countWays ∈ aTb := tm_4_9 (List.mem_of_getElem? (i := 2) rfl) rfl
theorem tb_795 : Cond.selects RX1 yX1_countWays yX1_countWays ∈ aTb := tm_4_9 (List.mem_of_getElem? (i := 3) rfl) rfl
theorem tb_797 : Cond.methodLink RX1 54 yX1_canLight ∈ aTb := tm_4_9 (List.mem_of_getElem? (i := 5) rfl) rfl
theorem tb_798 : Cond.methodLink RL 78 yX10_lasts ∈ aTb := tm_4_9 (List.mem_of_getElem? (i := 6) rfl) rfl
theorem tb_799 : Cond.instanceMethod yX10_lasts ∈ aTb := tm_4_9 (List.mem_of_getElem? (i := 7) rfl) rfl
theorem tb_800 : Cond.selects RX10 yX10_lasts yX10_lasts ∈ aTb := tm_4_10 (List.mem_of_getElem? (i := 0) rfl) rfl
theorem tb_802 : Cond.methodLink RX10 201 yX4_lastingOf ∈ aTb := tm_4_10 (List.mem_of_getElem? (i := 2) rfl) rfl
theorem tb_803 : Cond.instanceMethod yX4_lastingOf ∈ aTb := tm_4_10 (List.mem_of_getElem? (i := 3) rfl) rfl
theorem tb_804 : Cond.selects RX4 yX4_lastingOf yX4_lastingOf ∈ aTb := tm_4_10 (List.mem_of_getElem? (i := 4) rfl) rfl
theorem tb_806 : Cond.methodLink RL 82 yX10_mean ∈ aTb := tm_4_10 (List.mem_of_getElem? (i := 6) rfl) rfl
theorem tb_807 : Cond.instanceMethod yX10_mean ∈ aTb := tm_4_10 (List.mem_of_getElem? (i := 7) rfl) rfl
theorem tb_808 : Cond.selects RX10 yX10_mean yX10_mean ∈ aTb := tm_4_11 (List.mem_of_getElem? (i := 0) rfl) rfl
theorem tb_810 : Cond.constantLong RX10 204 (Int64.ofInt (-1)) ∈ aTb := tm_4_11 (List.mem_of_getElem? (i := 2) rfl) rfl
theorem tb_811 : Cond.methodLink RX10 206 yX4_meanPart ∈ aTb := tm_4_11 (List.mem_of_getElem? (i := 3) rfl) rfl
theorem tb_812 : Cond.instanceMethod yX4_meanPart ∈ aTb := tm_4_11 (List.mem_of_getElem? (i := 4) rfl) rfl
theorem tb_813 : Cond.selects RX4 yX4_meanPart yX4_meanPart ∈ aTb := tm_4_11 (List.mem_of_getElem? (i := 5) rfl) rfl
theorem tb_815 : Cond.methodLink RX4 93 yX4_commonDivisor ∈ aTb := tm_4_11 (List.mem_of_getElem? (i := 7) rfl) rfl
theorem tb_816 : Cond.static yX4_commonDivisor ∈ aTb := tm_4_12 (List.mem_of_getElem? (i := 0) rfl) rfl
theorem tb_818 : Cond.methodLink RL 87 yX10_reached ∈ aTb := tm_4_12 (List.mem_of_getElem? (i := 2) rfl) rfl
theorem tb_819 : Cond.instanceMethod yX10_reached ∈ aTb := tm_4_12 (List.mem_of_getElem? (i := 3) rfl) rfl
theorem tb_820 : Cond.selects RX10 yX10_reached yX10_reached ∈ aTb := tm_4_12 (List.mem_of_getElem? (i := 4) rfl) rfl
theorem tb_822 : Cond.methodLink RX10 210 yX1_countReached ∈ aTb := tm_4_12 (List.mem_of_getElem? (i := 6) rfl) rfl
theorem tb_823 : Cond.instanceMethod yX1_countReached ∈ aTb := tm_4_12 (List.mem_of_getElem? (i := 7) rfl) rfl
theorem tb_824 : Cond.selects RX1 yX1_countReached yX1_countReached ∈ aTb := tm_4_13 (List.mem_of_getElem? (i := 0) rfl) rfl
theorem tb_826 : Cond.methodLink RX1 50 yX1_isReached ∈ aTb := tm_4_13 (List.mem_of_getElem? (i := 2) rfl) rfl
theorem tb_827 : Cond.instanceMethod yX1_isReached ∈ aTb := tm_4_13 (List.mem_of_getElem? (i := 3) rfl) rfl
theorem tb_828 : Cond.selects RX1 yX1_isReached yX1_isReached ∈ aTb := tm_4_13 (List.mem_of_getElem? (i := 4) rfl) rfl
theorem tb_830 : Cond.methodLink RX10 213 yX1_isReached ∈ aTb := tm_4_13 (List.mem_of_getElem? (i := 6) rfl) rfl
theorem tb_831 : Cond.methodLink RL 91 yX10_failing ∈ aTb := tm_4_13 (List.mem_of_getElem? (i := 7) rfl) rfl
theorem tb_832 : Cond.instanceMethod yX10_failing ∈ aTb := tm_4_14 (List.mem_of_getElem? (i := 0) rfl) rfl
theorem tb_833 : Cond.selects RX10 yX10_failing yX10_failing ∈ aTb := tm_4_14 (List.mem_of_getElem? (i := 1) rfl) rfl
theorem tb_835 : Cond.methodLink RX10 216 yX4_findFailing ∈ aTb := tm_4_14 (List.mem_of_getElem? (i := 3) rfl) rfl
theorem tb_836 : Cond.instanceMethod yX4_findFailing ∈ aTb := tm_4_14 (List.mem_of_getElem? (i := 4) rfl) rfl
theorem tb_837 : Cond.selects RX4 yX4_findFailing yX4_findFailing ∈ aTb := tm_4_14 (List.mem_of_getElem? (i := 5) rfl) rfl
theorem tb_839 : Cond.methodLink RX4 127 yX4_lastsBy ∈ aTb := tm_4_14 (List.mem_of_getElem? (i := 7) rfl) rfl
theorem tb_841 : Cond.instanceMethod yX4_lastsBy ∈ aTb := tm_4_15 (List.mem_of_getElem? (i := 1) rfl) rfl
theorem tb_843 : Cond.methodLink RL 95 yX10_hurts ∈ aTb := tm_4_15 (List.mem_of_getElem? (i := 3) rfl) rfl
theorem tb_844 : Cond.instanceMethod yX10_hurts ∈ aTb := tm_4_15 (List.mem_of_getElem? (i := 4) rfl) rfl
theorem tb_845 : Cond.selects RX10 yX10_hurts yX10_hurts ∈ aTb := tm_4_15 (List.mem_of_getElem? (i := 5) rfl) rfl
theorem tb_847 : Cond.methodLink RX10 222 yX4_lastingWithout ∈ aTb := tm_4_15 (List.mem_of_getElem? (i := 7) rfl) rfl
theorem tb_848 : Cond.instanceMethod yX4_lastingWithout ∈ aTb := tm_4_16 (List.mem_of_getElem? (i := 0) rfl) rfl
theorem tb_849 : Cond.selects RX4 yX4_lastingWithout yX4_lastingWithout ∈ aTb := tm_4_16 (List.mem_of_getElem? (i := 1) rfl) rfl
theorem tb_851 : Cond.methodLink RL 99 yX10_codes ∈ aTb := tm_4_16 (List.mem_of_getElem? (i := 3) rfl) rfl
theorem tb_852 : Cond.instanceMethod yX10_codes ∈ aTb := tm_4_16 (List.mem_of_getElem? (i := 4) rfl) rfl
theorem tb_853 : Cond.selects RX10 yX10_codes yX10_codes ∈ aTb := tm_4_16 (List.mem_of_getElem? (i := 5) rfl) rfl
theorem tb_855 : Cond.methodLink RX10 225 yX2_isSearched ∈ aTb := tm_4_16 (List.mem_of_getElem? (i := 7) rfl) rfl
theorem tb_856 : Cond.static yX2_isSearched ∈ aTb := tm_4_17 (List.mem_of_getElem? (i := 0) rfl) rfl
theorem tb_858 : Cond.methodLink RX10 229 yX2_countCodes ∈ aTb := tm_4_17 (List.mem_of_getElem? (i := 2) rfl) rfl
theorem tb_859 : Cond.instanceMethod yX2_countCodes ∈ aTb := tm_4_17 (List.mem_of_getElem? (i := 3) rfl) rfl
theorem tb_860 : Cond.selects RX2 yX2_countCodes yX2_countCodes ∈ aTb := tm_4_17 (List.mem_of_getElem? (i := 4) rfl) rfl
theorem tb_862 : Cond.methodLink RX2 35 yX2_pairOf ∈ aTb := tm_4_17 (List.mem_of_getElem? (i := 6) rfl) rfl
theorem tb_863 : Cond.static yX2_pairOf ∈ aTb := tm_4_17 (List.mem_of_getElem? (i := 7) rfl) rfl
theorem tb_865 : Cond.methodLink RX2 39 yX2_search ∈ aTb := tm_4_18 (List.mem_of_getElem? (i := 1) rfl) rfl
theorem tb_867 : Cond.instanceMethod yX2_search ∈ aTb := tm_4_18 (List.mem_of_getElem? (i := 3) rfl) rfl
theorem tb_869 : Cond.methodLink RX2 53 yJ7_fill_53178 ∈ aTb := tm_4_18 (List.mem_of_getElem? (i := 5) rfl) rfl
theorem tb_870 : Cond.constant RX2 59 (Int32.ofInt (65536)) ∈ aTb := tm_4_18 (List.mem_of_getElem? (i := 6) rfl) rfl
theorem tb_871 : Cond.methodLink RX2 60 yX5_fill ∈ aTb := tm_4_18 (List.mem_of_getElem? (i := 7) rfl) rfl
theorem tb_872 : Cond.methodLink RX2 66 yX2_namings ∈ aTb := tm_4_19 (List.mem_of_getElem? (i := 0) rfl) rfl
theorem tb_873 : Cond.static yX2_namings ∈ aTb := tm_4_19 (List.mem_of_getElem? (i := 1) rfl) rfl
theorem tb_875 : Cond.methodLink RX2 69 yX2_note ∈ aTb := tm_4_19 (List.mem_of_getElem? (i := 3) rfl) rfl
theorem tb_877 : Cond.instanceMethod yX2_note ∈ aTb := tm_4_19 (List.mem_of_getElem? (i := 5) rfl) rfl
theorem tb_879 : Cond.methodLink RX2 47 arraycopyName ∈ aTb := tm_4_19 (List.mem_of_getElem? (i := 7) rfl) rfl
theorem tb_880 : Cond.methodLink RX2 72 yX2_turnOn ∈ aTb := tm_4_20 (List.mem_of_getElem? (i := 0) rfl) rfl
theorem tb_882 : Cond.instanceMethod yX2_turnOn ∈ aTb := tm_4_20 (List.mem_of_getElem? (i := 2) rfl) rfl
theorem tb_884 : Cond.methodLink RX2 76 Lib.Math.min.name ∈ aTb := tm_4_20 (List.mem_of_getElem? (i := 4) rfl) rfl
theorem tb_885 : Cond.methodLink RX2 81 Lib.Math.max.name ∈ aTb := tm_4_20 (List.mem_of_getElem? (i := 5) rfl) rfl
theorem tb_886 : Cond.methodLink RL 103 yX10_make ∈ aTb := tm_4_20 (List.mem_of_getElem? (i := 6) rfl) rfl
theorem tb_887 : Cond.instanceMethod yX10_make ∈ aTb := tm_4_20 (List.mem_of_getElem? (i := 7) rfl) rfl
theorem tb_888 : Cond.selects RX10 yX10_make yX10_make ∈ aTb := tm_4_21 (List.mem_of_getElem? (i := 0) rfl) rfl
theorem tb_890 : Cond.methodLink RX10 232 yX2_copyFirst ∈ aTb := tm_4_21 (List.mem_of_getElem? (i := 2) rfl) rfl
theorem tb_891 : Cond.instanceMethod yX2_copyFirst ∈ aTb := tm_4_21 (List.mem_of_getElem? (i := 3) rfl) rfl
theorem tb_892 : Cond.selects RX2 yX2_copyFirst yX2_copyFirst ∈ aTb := tm_4_21 (List.mem_of_getElem? (i := 4) rfl) rfl
theorem tb_894 : Cond.methodLink RX2 43 yX2_countCodes ∈ aTb := tm_4_21 (List.mem_of_getElem? (i := 6) rfl) rfl
theorem tb_895 : Cond.methodLink RL 107 yX10_send ∈ aTb := tm_4_21 (List.mem_of_getElem? (i := 7) rfl) rfl
theorem tb_896 : Cond.instanceMethod yX10_send ∈ aTb := tm_4_22 (List.mem_of_getElem? (i := 0) rfl) rfl
theorem tb_897 : Cond.selects RX10 yX10_send yX10_send ∈ aTb := tm_4_22 (List.mem_of_getElem? (i := 1) rfl) rfl
theorem tb_899 : Cond.methodLink RX10 242 yJ6_bitCount_0f7a4 ∈ aTb := tm_4_22 (List.mem_of_getElem? (i := 3) rfl) rfl
theorem tb_900 : Cond.methodLink RL 111 yX10_dawn ∈ aTb := tm_4_22 (List.mem_of_getElem? (i := 4) rfl) rfl
theorem tb_901 : Cond.instanceMethod yX10_dawn ∈ aTb := tm_4_22 (List.mem_of_getElem? (i := 5) rfl) rfl
theorem tb_902 : Cond.selects RX10 yX10_dawn yX10_dawn ∈ aTb := tm_4_22 (List.mem_of_getElem? (i := 6) rfl) rfl
theorem tb_904 : Cond.methodLink RL 115 yX10_log ∈ aTb := tm_4_23 (List.mem_of_getElem? (i := 0) rfl) rfl
theorem tb_905 : Cond.instanceMethod yX10_log ∈ aTb := tm_4_23 (List.mem_of_getElem? (i := 1) rfl) rfl
theorem tb_906 : Cond.selects RX10 yX10_log yX10_log ∈ aTb := tm_4_23 (List.mem_of_getElem? (i := 2) rfl) rfl
theorem tb_908 : Cond.methodLink RL 119 yX10_burnt ∈ aTb := tm_4_23 (List.mem_of_getElem? (i := 4) rfl) rfl
theorem tb_909 : Cond.instanceMethod yX10_burnt ∈ aTb := tm_4_23 (List.mem_of_getElem? (i := 5) rfl) rfl
theorem tb_910 : Cond.selects RX10 yX10_burnt yX10_burnt ∈ aTb := tm_4_23 (List.mem_of_getElem? (i := 6) rfl) rfl
theorem tb_912 : Cond.methodLink RX10 250 yX4_oilOf ∈ aTb := tm_4_24 (List.mem_of_getElem? (i := 0) rfl) rfl
theorem tb_913 : Cond.instanceMethod yX4_oilOf ∈ aTb := tm_4_24 (List.mem_of_getElem? (i := 1) rfl) rfl
theorem tb_914 : Cond.selects RX4 yX4_oilOf yX4_oilOf ∈ aTb := tm_4_24 (List.mem_of_getElem? (i := 2) rfl) rfl
theorem tb_916 : Cond.methodLink RL 123 yX10_trail ∈ aTb := tm_4_24 (List.mem_of_getElem? (i := 4) rfl) rfl
theorem tb_917 : Cond.instanceMethod yX10_trail ∈ aTb := tm_4_24 (List.mem_of_getElem? (i := 5) rfl) rfl
theorem tb_918 : Cond.selects RX10 yX10_trail yX10_trail ∈ aTb := tm_4_24 (List.mem_of_getElem? (i := 6) rfl) rfl
theorem tb_920 : Cond.methodLink RX10 253 Lib.Math.min.name ∈ aTb := tm_4_25 (List.mem_of_getElem? (i := 0) rfl) rfl
theorem tb_921 : Cond.methodLink RL 127 yX10_judge ∈ aTb := tm_4_25 (List.mem_of_getElem? (i := 1) rfl) rfl
theorem tb_922 : Cond.instanceMethod yX10_judge ∈ aTb := tm_4_25 (List.mem_of_getElem? (i := 2) rfl) rfl
theorem tb_923 : Cond.selects RX10 yX10_judge yX10_judge ∈ aTb := tm_4_25 (List.mem_of_getElem? (i := 3) rfl) rfl
theorem tb_925 : Cond.methodLink RX10 259 yX4_wouldLight ∈ aTb := tm_4_25 (List.mem_of_getElem? (i := 5) rfl) rfl
theorem tb_926 : Cond.instanceMethod yX4_wouldLight ∈ aTb := tm_4_25 (List.mem_of_getElem? (i := 6) rfl) rfl
theorem tb_927 : Cond.selects RX4 yX4_wouldLight yX4_wouldLight ∈ aTb := tm_4_25 (List.mem_of_getElem? (i := 7) rfl) rfl
theorem tb_929 : Cond.methodLink RX4 119 yX1_isState ∈ aTb := tm_4_26 (List.mem_of_getElem? (i := 1) rfl) rfl
theorem tb_930 : Cond.methodLink RX4 123 yX4_choose ∈ aTb := tm_4_26 (List.mem_of_getElem? (i := 2) rfl) rfl
theorem tb_931 : Cond.methodLink RL 131 yX10_rows ∈ aTb := tm_4_26 (List.mem_of_getElem? (i := 3) rfl) rfl
theorem tb_932 : Cond.instanceMethod yX10_rows ∈ aTb := tm_4_26 (List.mem_of_getElem? (i := 4) rfl) rfl
theorem tb_933 : Cond.selects RX10 yX10_rows yX10_rows ∈ aTb := tm_4_26 (List.mem_of_getElem? (i := 5) rfl) rfl
theorem tb_935 : Cond.methodLink RX10 262 yX10_isRowTo ∈ aTb := tm_4_26 (List.mem_of_getElem? (i := 7) rfl) rfl
theorem tb_937 : Cond.instanceMethod yX10_isRowTo ∈ aTb := tm_4_27 (List.mem_of_getElem? (i := 1) rfl) rfl
theorem tb_939 : Cond.methodLink RX10 265 yX8_countRows ∈ aTb := tm_4_27 (List.mem_of_getElem? (i := 3) rfl) rfl
theorem tb_940 : Cond.instanceMethod yX8_countRows ∈ aTb := tm_4_27 (List.mem_of_getElem? (i := 4) rfl) rfl
theorem tb_941 : Cond.selects RX8 yX8_countRows yX8_countRows ∈ aTb := tm_4_27 (List.mem_of_getElem? (i := 5) rfl) rfl
theorem tb_943 : Cond.methodLink RX8 19 yX4_prepare ∈ aTb := tm_4_27 (List.mem_of_getElem? (i := 7) rfl) rfl
theorem tb_944 : Cond.methodLink RX8 25 yJ7_fill_bad5a ∈ aTb := tm_4_28 (List.mem_of_getElem? (i := 0) rfl) rfl
theorem tb_945 : Cond.static yJ7_fill_bad5a ∈ aTb := tm_4_28 (List.mem_of_getElem? (i := 1) rfl) rfl
theorem tb_947 : Cond.methodLink RJ7 13 yJ7_rangeCheck_23922 ∈ aTb := tm_4_28 (List.mem_of_getElem? (i := 3) rfl) rfl
theorem tb_948 : Cond.static yJ7_rangeCheck_23922 ∈ aTb := tm_4_28 (List.mem_of_getElem? (i := 4) rfl) rfl
theorem tb_950 : Cond.methodLink RX8 31 yX8_isMet ∈ aTb := tm_4_28 (List.mem_of_getElem? (i := 6) rfl) rfl
theorem tb_952 : Cond.instanceMethod yX8_isMet ∈ aTb := tm_4_29 (List.mem_of_getElem? (i := 0) rfl) rfl
theorem tb_954 : Cond.methodLink RX8 35 yX8_spread ∈ aTb := tm_4_29 (List.mem_of_getElem? (i := 2) rfl) rfl
theorem tb_956 : Cond.instanceMethod yX8_spread ∈ aTb := tm_4_29 (List.mem_of_getElem? (i := 4) rfl) rfl
theorem tb_958 : Cond.methodLink RX8 39 yX4_chooseAll ∈ aTb := tm_4_29 (List.mem_of_getElem? (i := 6) rfl) rfl
theorem tb_959 : Cond.methodLink RL 136 yX10_could ∈ aTb := tm_4_29 (List.mem_of_getElem? (i := 7) rfl) rfl
theorem tb_960 : Cond.instanceMethod yX10_could ∈ aTb := tm_5_0 (List.mem_of_getElem? (i := 0) rfl) rfl
theorem tb_961 : Cond.selects RX10 yX10_could yX10_could ∈ aTb := tm_5_0 (List.mem_of_getElem? (i := 1) rfl) rfl
theorem tb_963 : Cond.methodLink RL 141 yX10_maybe ∈ aTb := tm_5_0 (List.mem_of_getElem? (i := 3) rfl) rfl
theorem tb_964 : Cond.instanceMethod yX10_maybe ∈ aTb := tm_5_0 (List.mem_of_getElem? (i := 4) rfl) rfl
theorem tb_965 : Cond.selects RX10 yX10_maybe yX10_maybe ∈ aTb := tm_5_0 (List.mem_of_getElem? (i := 5) rfl) rfl
theorem tb_967 : Cond.methodLink RX10 269 yX1_newsBit ∈ aTb := tm_5_0 (List.mem_of_getElem? (i := 7) rfl) rfl
theorem tb_968 : Cond.instanceMethod yX1_newsBit ∈ aTb := tm_5_1 (List.mem_of_getElem? (i := 0) rfl) rfl
theorem tb_969 : Cond.selects RX1 yX1_newsBit yX1_newsBit ∈ aTb := tm_5_1 (List.mem_of_getElem? (i := 1) rfl) rfl
theorem tb_971 : Cond.methodLink RL 145 yX10_safe ∈ aTb := tm_5_1 (List.mem_of_getElem? (i := 3) rfl) rfl
theorem tb_972 : Cond.instanceMethod yX10_safe ∈ aTb := tm_5_1 (List.mem_of_getElem? (i := 4) rfl) rfl
theorem tb_973 : Cond.selects RX10 yX10_safe yX10_safe ∈ aTb := tm_5_1 (List.mem_of_getElem? (i := 5) rfl) rfl
theorem tb_975 : Cond.methodLink RX10 272 yX4_findSafe ∈ aTb := tm_5_1 (List.mem_of_getElem? (i := 7) rfl) rfl
theorem tb_976 : Cond.instanceMethod yX4_findSafe ∈ aTb := tm_5_2 (List.mem_of_getElem? (i := 0) rfl) rfl
theorem tb_977 : Cond.selects RX4 yX4_findSafe yX4_findSafe ∈ aTb := tm_5_2 (List.mem_of_getElem? (i := 1) rfl) rfl
theorem tb_979 : Cond.methodLink RX4 131 yX4_firstDoubt ∈ aTb := tm_5_2 (List.mem_of_getElem? (i := 3) rfl) rfl
theorem tb_981 : Cond.instanceMethod yX4_firstDoubt ∈ aTb := tm_5_2 (List.mem_of_getElem? (i := 5) rfl) rfl
theorem tb_983 : Cond.methodLink RX4 143 yX1_newsBit ∈ aTb := tm_5_2 (List.mem_of_getElem? (i := 7) rfl) rfl
theorem tb_984 : Cond.methodLink RX4 135 Lib.Math.min.name ∈ aTb := tm_5_3 (List.mem_of_getElem? (i := 0) rfl) rfl
theorem tb_985 : Cond.methodLink RL 149 yX10_spy ∈ aTb := tm_5_3 (List.mem_of_getElem? (i := 1) rfl) rfl
theorem tb_986 : Cond.instanceMethod yX10_spy ∈ aTb := tm_5_3 (List.mem_of_getElem? (i := 2) rfl) rfl
theorem tb_987 : Cond.selects RX10 yX10_spy yX10_spy ∈ aTb := tm_5_3 (List.mem_of_getElem? (i := 3) rfl) rfl
theorem tb_989 : Cond.methodLink RL 153 yX10_want ∈ aTb := tm_5_3 (List.mem_of_getElem? (i := 5) rfl) rfl
theorem tb_990 : Cond.instanceMethod yX10_want ∈ aTb := tm_5_3 (List.mem_of_getElem? (i := 6) rfl) rfl
theorem tb_991 : Cond.selects RX10 yX10_want yX10_want ∈ aTb := tm_5_3 (List.mem_of_getElem? (i := 7) rfl) rfl
theorem tb_993 : Cond.methodLink RL 157 yX10_unwant ∈ aTb := tm_5_4 (List.mem_of_getElem? (i := 1) rfl) rfl
theorem tb_994 : Cond.instanceMethod yX10_unwant ∈ aTb := tm_5_4 (List.mem_of_getElem? (i := 2) rfl) rfl
theorem tb_995 : Cond.selects RX10 yX10_unwant yX10_unwant ∈ aTb := tm_5_4 (List.mem_of_getElem? (i := 3) rfl) rfl
theorem tb_997 : Cond.methodLink RL 161 yX10_cheap ∈ aTb := tm_5_4 (List.mem_of_getElem? (i := 5) rfl) rfl
theorem tb_998 : Cond.instanceMethod yX10_cheap ∈ aTb := tm_5_4 (List.mem_of_getElem? (i := 6) rfl) rfl
theorem tb_999 : Cond.selects RX10 yX10_cheap yX10_cheap ∈ aTb := tm_5_4 (List.mem_of_getElem? (i := 7) rfl) rfl
theorem tb_1001 : Cond.methodLink RX10 281 yX3_solve ∈ aTb := tm_5_5 (List.mem_of_getElem? (i := 1) rfl) rfl
theorem tb_1002 : Cond.instanceMethod yX3_solve ∈ aTb := tm_5_5 (List.mem_of_getElem? (i := 2) rfl) rfl
theorem tb_1003 : Cond.selects RX3 yX3_solve yX3_solve ∈ aTb := tm_5_5 (List.mem_of_getElem? (i := 3) rfl) rfl
theorem tb_1005 : Cond.methodLink RX3 37 yX4_fillOil ∈ aTb := tm_5_5 (List.mem_of_getElem? (i := 5) rfl) rfl
theorem tb_1006 : Cond.methodLink RX3 40 yX3_countWays ∈ aTb := tm_5_5 (List.mem_of_getElem? (i := 6) rfl) rfl
theorem tb_1008 : Cond.instanceMethod yX3_countWays ∈ aTb := tm_5_6 (List.mem_of_getElem? (i := 0) rfl) rfl
theorem tb_1010 : Cond.methodLink RX3 56 yJ7_fill_d0a16 ∈ aTb := tm_5_6 (List.mem_of_getElem? (i := 2) rfl) rfl
theorem tb_1011 : Cond.methodLink RX3 62 yX1_full ∈ aTb := tm_5_6 (List.mem_of_getElem? (i := 3) rfl) rfl
theorem tb_1012 : Cond.methodLink RX3 74 yX3_spreadUp ∈ aTb := tm_5_6 (List.mem_of_getElem? (i := 4) rfl) rfl
theorem tb_1014 : Cond.instanceMethod yX3_spreadUp ∈ aTb := tm_5_6 (List.mem_of_getElem? (i := 6) rfl) rfl
theorem tb_1016 : Cond.methodLink RX3 43 yX3_findLeast ∈ aTb := tm_5_7 (List.mem_of_getElem? (i := 0) rfl) rfl
theorem tb_1018 : Cond.instanceMethod yX3_findLeast ∈ aTb := tm_5_7 (List.mem_of_getElem? (i := 2) rfl) rfl
theorem tb_1020 : Cond.constantLong RX3 90 (Int64.ofInt (1000000000)) ∈ aTb := tm_5_7 (List.mem_of_getElem? (i := 4) rfl) rfl
theorem tb_1021 : Cond.methodLink RX3 92 Lib.MathLoose.min_long.x ∈ aTb := tm_5_7 (List.mem_of_getElem? (i := 5) rfl) rfl
theorem tb_1022 : Cond.static Lib.MathLoose.min_long.x ∈ aTb := tm_5_7 (List.mem_of_getElem? (i := 6) rfl) rfl
theorem tb_1023 : Cond.code Lib.MathLoose.min_long.x Lib.MathLoose.min_long.code 4 (some .long) ∈ aTb := tm_5_7 (List.mem_of_getElem? (i := 7) rfl) rfl
theorem tb_1024 : Cond.methodLink RX3 50 yX3_findOpen ∈ aTb := tm_5_8 (List.mem_of_getElem? (i := 0) rfl) rfl
theorem tb_1026 : Cond.instanceMethod yX3_findOpen ∈ aTb := tm_5_8 (List.mem_of_getElem? (i := 2) rfl) rfl
theorem tb_1028 : Cond.methodLink RX3 101 yX3_goesOn ∈ aTb := tm_5_8 (List.mem_of_getElem? (i := 4) rfl) rfl
theorem tb_1030 : Cond.instanceMethod yX3_goesOn ∈ aTb := tm_5_8 (List.mem_of_getElem? (i := 6) rfl) rfl
theorem tb_1032 : Cond.methodLink RX3 105 yX3_spreadDown ∈ aTb := tm_5_9 (List.mem_of_getElem? (i := 0) rfl) rfl
theorem tb_1034 : Cond.instanceMethod yX3_spreadDown ∈ aTb := tm_5_9 (List.mem_of_getElem? (i := 2) rfl) rfl
theorem tb_1036 : Cond.methodLink RX3 53 yX3_findStates ∈ aTb := tm_5_9 (List.mem_of_getElem? (i := 4) rfl) rfl
theorem tb_1038 : Cond.instanceMethod yX3_findStates ∈ aTb := tm_5_9 (List.mem_of_getElem? (i := 6) rfl) rfl
theorem tb_1040 : Cond.methodLink RX3 109 yX1_canLight ∈ aTb := tm_5_10 (List.mem_of_getElem? (i := 0) rfl) rfl
theorem tb_1041 : Cond.methodLink RL 165 yX10_plan ∈ aTb := tm_5_10 (List.mem_of_getElem? (i := 1) rfl) rfl
theorem tb_1042 : Cond.instanceMethod yX10_plan ∈ aTb := tm_5_10 (List.mem_of_getElem? (i := 2) rfl) rfl
theorem tb_1043 : Cond.selects RX10 yX10_plan yX10_plan ∈ aTb := tm_5_10 (List.mem_of_getElem? (i := 3) rfl) rfl
theorem tb_1045 : Cond.methodLink RL 169 yX10_night ∈ aTb := tm_5_10 (List.mem_of_getElem? (i := 5) rfl) rfl
theorem tb_1046 : Cond.instanceMethod yX10_night ∈ aTb := tm_5_10 (List.mem_of_getElem? (i := 6) rfl) rfl
theorem tb_1047 : Cond.selects RX10 yX10_night yX10_night ∈ aTb := tm_5_10 (List.mem_of_getElem? (i := 7) rfl) rfl
theorem tb_1049 : Cond.constant RX10 293 (Int32.ofInt (1000000)) ∈ aTb := tm_5_11 (List.mem_of_getElem? (i := 1) rfl) rfl
theorem tb_1050 : Cond.methodLink RX10 294 yX10_drawNight ∈ aTb := tm_5_11 (List.mem_of_getElem? (i := 2) rfl) rfl
theorem tb_1052 : Cond.instanceMethod yX10_drawNight ∈ aTb := tm_5_11 (List.mem_of_getElem? (i := 4) rfl) rfl
theorem tb_1054 : Cond.constantLong RX10 310 (Int64.ofInt (1103)) ∈ aTb := tm_5_11 (List.mem_of_getElem? (i := 6) rfl) rfl
theorem tb_1055 : Cond.constantLong RX10 312 (Int64.ofInt (12345)) ∈ aTb := tm_5_11 (List.mem_of_getElem? (i := 7) rfl) rfl
theorem tb_1056 : Cond.constantLong RX10 314 (Int64.ofInt (1000003)) ∈ aTb := tm_5_12 (List.mem_of_getElem? (i := 0) rfl) rfl
theorem tb_1057 : Cond.methodLink RL 173 yX10_drawn ∈ aTb := tm_5_12 (List.mem_of_getElem? (i := 1) rfl) rfl
theorem tb_1058 : Cond.instanceMethod yX10_drawn ∈ aTb := tm_5_12 (List.mem_of_getElem? (i := 2) rfl) rfl
theorem tb_1059 : Cond.selects RX10 yX10_drawn yX10_drawn ∈ aTb := tm_5_12 (List.mem_of_getElem? (i := 3) rfl) rfl
theorem tb_1061 : Cond.methodLink RL 177 yX10_image ∈ aTb := tm_5_12 (List.mem_of_getElem? (i := 5) rfl) rfl
theorem tb_1062 : Cond.instanceMethod yX10_image ∈ aTb := tm_5_12 (List.mem_of_getElem? (i := 6) rfl) rfl
theorem tb_1063 : Cond.selects RX10 yX10_image yX10_image ∈ aTb := tm_5_12 (List.mem_of_getElem? (i := 7) rfl) rfl
theorem tb_1065 : Cond.methodLink RX10 301 yX1_copyFrom ∈ aTb := tm_5_13 (List.mem_of_getElem? (i := 1) rfl) rfl
theorem tb_1066 : Cond.instanceMethod yX1_copyFrom ∈ aTb := tm_5_13 (List.mem_of_getElem? (i := 2) rfl) rfl
theorem tb_1067 : Cond.selects RX1 yX1_copyFrom yX1_copyFrom ∈ aTb := tm_5_13 (List.mem_of_getElem? (i := 3) rfl) rfl
theorem tb_1069 : Cond.methodLink RX1 67 arraycopyName ∈ aTb := tm_5_13 (List.mem_of_getElem? (i := 5) rfl) rfl
theorem tb_1070 : Cond.methodLink RL 181 yX10_back ∈ aTb := tm_5_13 (List.mem_of_getElem? (i := 6) rfl) rfl
theorem tb_1071 : Cond.instanceMethod yX10_back ∈ aTb := tm_5_13 (List.mem_of_getElem? (i := 7) rfl) rfl
theorem tb_1072 : Cond.selects RX10 yX10_back yX10_back ∈ aTb := tm_5_14 (List.mem_of_getElem? (i := 0) rfl) rfl
theorem tb_1074 : Cond.methodLink RL 185 yX10_count ∈ aTb := tm_5_14 (List.mem_of_getElem? (i := 2) rfl) rfl
theorem tb_1075 : Cond.instanceMethod yX10_count ∈ aTb := tm_5_14 (List.mem_of_getElem? (i := 3) rfl) rfl
theorem tb_1076 : Cond.selects RX10 yX10_count yX10_count ∈ aTb := tm_5_14 (List.mem_of_getElem? (i := 4) rfl) rfl
theorem tb_1078 : Cond.methodLink RL 189 yX10_status ∈ aTb := tm_5_14 (List.mem_of_getElem? (i := 6) rfl) rfl
theorem tb_1079 : Cond.instanceMethod yX10_status ∈ aTb := tm_5_14 (List.mem_of_getElem? (i := 7) rfl) rfl
theorem tb_1080 : Cond.selects RX10 yX10_status yX10_status ∈ aTb := tm_5_15 (List.mem_of_getElem? (i := 0) rfl) rfl
theorem tb_1082 : Cond.classLink RL 10 RX11 ∈ aTb := tm_5_15 (List.mem_of_getElem? (i := 2) rfl) rfl
theorem tb_1084 : Cond.methodLink RL 12 yX11_init ∈ aTb := tm_5_15 (List.mem_of_getElem? (i := 4) rfl) rfl
theorem tb_1085 : Cond.instanceMethod yX11_init ∈ aTb := tm_5_15 (List.mem_of_getElem? (i := 5) rfl) rfl
theorem tb_1087 : Cond.methodLink RX11 14 objectInit ∈ aTb := tm_5_15 (List.mem_of_getElem? (i := 7) rfl) rfl
theorem tb_1088 : Cond.methodLink RX11 98 yX11_empties ∈ aTb := tm_5_16 (List.mem_of_getElem? (i := 0) rfl) rfl
theorem tb_1090 : Cond.instanceMethod yX11_empties ∈ aTb := tm_5_16 (List.mem_of_getElem? (i := 2) rfl) rfl
theorem tb_1092 : Cond.fieldLink RX11 3 "LitCoastModel" "status" "I" ∈ aTb := tm_5_16 (List.mem_of_getElem? (i := 4) rfl) rfl
theorem tb_1093 : Cond.fieldLink RX11 11 "LitCoastModel" "version" "I" ∈ aTb := tm_5_16 (List.mem_of_getElem? (i := 5) rfl) rfl
theorem tb_1094 : Cond.fieldLink RX11 7 "LitCoastModel" "refused" "[I" ∈ aTb := tm_5_16 (List.mem_of_getElem? (i := 6) rfl) rfl
theorem tb_1095 : Cond.fieldLink RX11 20 "LitCoastModel" "kept" "[I" ∈ aTb := tm_5_16 (List.mem_of_getElem? (i := 7) rfl) rfl
theorem tb_1096 : Cond.fieldLink RX11 23 "LitCoastModel" "images" "[I" ∈ aTb := tm_5_17 (List.mem_of_getElem? (i := 0) rfl) rfl
theorem tb_1097 : Cond.fieldLink RX11 26 "LitCoastModel" "hasImage" "[Z" ∈ aTb := tm_5_17 (List.mem_of_getElem? (i := 1) rfl) rfl
theorem tb_1098 : Cond.fieldLink RX11 136 "LitCoastModel" "torn" "I" ∈ aTb := tm_5_17 (List.mem_of_getElem? (i := 2) rfl) rfl
theorem tb_1099 : Cond.fieldLink RX11 30 "LitCoastModel" "words" "[B" ∈ aTb := tm_5_17 (List.mem_of_getElem? (i := 3) rfl) rfl
theorem tb_1100 : Cond.fieldLink RX11 34 "LitCoastModel" "tape" "[B" ∈ aTb := tm_5_17 (List.mem_of_getElem? (i := 4) rfl) rfl
theorem tb_1101 : Cond.fieldLink RX11 37 "LitCoastModel" "five" "[I" ∈ aTb := tm_5_17 (List.mem_of_getElem? (i := 5) rfl) rfl
theorem tb_1102 : Cond.fieldLink RX11 129 "LitCoastModel" "taped" "I" ∈ aTb := tm_5_17 (List.mem_of_getElem? (i := 6) rfl) rfl
theorem tb_1103 : Cond.fieldLink RX11 40 "LitCoastModel" "fault" "I" ∈ aTb := tm_5_17 (List.mem_of_getElem? (i := 7) rfl) rfl
theorem tb_1104 : Cond.fieldLink RX11 43 "LitCoastModel" "code" "[I" ∈ aTb := tm_5_18 (List.mem_of_getElem? (i := 0) rfl) rfl
theorem tb_1105 : Cond.fieldLink RX11 46 "LitCoastModel" "value" "[I" ∈ aTb := tm_5_18 (List.mem_of_getElem? (i := 1) rfl) rfl
theorem tb_1106 : Cond.fieldLink RX11 49 "LitCoastModel" "placed" "[I" ∈ aTb := tm_5_18 (List.mem_of_getElem? (i := 2) rfl) rfl
theorem tb_1107 : Cond.fieldLink RX11 142 "LitCoastModel" "tokens" "I" ∈ aTb := tm_5_18 (List.mem_of_getElem? (i := 3) rfl) rfl
theorem tb_1108 : Cond.fieldLink RX11 162 "LitCoastModel" "token" "I" ∈ aTb := tm_5_18 (List.mem_of_getElem? (i := 4) rfl) rfl
theorem tb_1109 : Cond.fieldLink RX11 171 "LitCoastModel" "leaves" "I" ∈ aTb := tm_5_18 (List.mem_of_getElem? (i := 5) rfl) rfl
theorem tb_1110 : Cond.fieldLink RX11 155 "LitCoastModel" "bad" "I" ∈ aTb := tm_5_18 (List.mem_of_getElem? (i := 6) rfl) rfl
theorem tb_1111 : Cond.fieldLink RX11 215 "LitCoastModel" "go" "I" ∈ aTb := tm_5_18 (List.mem_of_getElem? (i := 7) rfl) rfl
theorem tb_1112 : Cond.fieldLink RX11 212 "LitCoastModel" "goEnd" "I" ∈ aTb := tm_5_19 (List.mem_of_getElem? (i := 0) rfl) rfl
theorem tb_1113 : Cond.fieldLink RX11 225 "LitCoastModel" "broken" "Z" ∈ aTb := tm_5_19 (List.mem_of_getElem? (i := 1) rfl) rfl
theorem tb_1114 : Cond.fieldLink RX11 52 "LitCoastModel" "asked" "[I" ∈ aTb := tm_5_19 (List.mem_of_getElem? (i := 2) rfl) rfl
theorem tb_1115 : Cond.fieldLink RX11 55 "LitCoastModel" "lasting" "[I" ∈ aTb := tm_5_19 (List.mem_of_getElem? (i := 3) rfl) rfl
theorem tb_1116 : Cond.fieldLink RX11 58 "LitCoastModel" "means" "[J" ∈ aTb := tm_5_19 (List.mem_of_getElem? (i := 4) rfl) rfl
theorem tb_1117 : Cond.fieldLink RX11 62 "LitCoastModel" "madeBy" "I" ∈ aTb := tm_5_19 (List.mem_of_getElem? (i := 5) rfl) rfl
theorem tb_1118 : Cond.fieldLink RX11 65 "LitCoastModel" "can" "[Z" ∈ aTb := tm_5_19 (List.mem_of_getElem? (i := 6) rfl) rfl
theorem tb_1119 : Cond.fieldLink RX11 68 "LitCoastModel" "fails" "[I" ∈ aTb := tm_5_19 (List.mem_of_getElem? (i := 7) rfl) rfl
theorem tb_1120 : Cond.fieldLink RX11 318 "LitCoastModel" "failMany" "I" ∈ aTb := tm_5_20 (List.mem_of_getElem? (i := 0) rfl) rfl
theorem tb_1121 : Cond.fieldLink RX11 71 "LitCoastModel" "saved" "[I" ∈ aTb := tm_5_20 (List.mem_of_getElem? (i := 1) rfl) rfl
theorem tb_1122 : Cond.fieldLink RX11 74 "LitCoastModel" "found" "[I" ∈ aTb := tm_5_20 (List.mem_of_getElem? (i := 2) rfl) rfl
theorem tb_1123 : Cond.fieldLink RX11 324 "LitCoastModel" "codesMany" "I" ∈ aTb := tm_5_20 (List.mem_of_getElem? (i := 3) rfl) rfl
theorem tb_1124 : Cond.fieldLink RX11 77 "LitCoastModel" "trail" "[I" ∈ aTb := tm_5_20 (List.mem_of_getElem? (i := 4) rfl) rfl
theorem tb_1125 : Cond.fieldLink RX11 334 "LitCoastModel" "trailMany" "I" ∈ aTb := tm_5_20 (List.mem_of_getElem? (i := 5) rfl) rfl
theorem tb_1126 : Cond.fieldLink RX11 80 "LitCoastModel" "count0" "[J" ∈ aTb := tm_5_20 (List.mem_of_getElem? (i := 6) rfl) rfl
theorem tb_1127 : Cond.fieldLink RX11 83 "LitCoastModel" "count1" "[J" ∈ aTb := tm_5_20 (List.mem_of_getElem? (i := 7) rfl) rfl
theorem tb_1128 : Cond.fieldLink RX11 86 "LitCoastModel" "least" "[I" ∈ aTb := tm_5_21 (List.mem_of_getElem? (i := 0) rfl) rfl
theorem tb_1129 : Cond.fieldLink RX11 89 "LitCoastModel" "many" "[I" ∈ aTb := tm_5_21 (List.mem_of_getElem? (i := 1) rfl) rfl
theorem tb_1130 : Cond.fieldLink RX11 92 "LitCoastModel" "drawnRow" "[I" ∈ aTb := tm_5_21 (List.mem_of_getElem? (i := 2) rfl) rfl
theorem tb_1131 : Cond.fieldLink RX11 95 "LitCoastModel" "drawnMany" "I" ∈ aTb := tm_5_21 (List.mem_of_getElem? (i := 3) rfl) rfl
theorem tb_1132 : Cond.fieldLink RX11 347 "LitCoastModel" "drawnFails" "I" ∈ aTb := tm_5_21 (List.mem_of_getElem? (i := 4) rfl) rfl
theorem tb_1133 : Cond.fieldLink RX11 344 "LitCoastModel" "latest" "I" ∈ aTb := tm_5_21 (List.mem_of_getElem? (i := 5) rfl) rfl
theorem tb_1219 : Cond.methodLink RL 180 yX11_image ∈ aTb := tm_6_2 (List.mem_of_getElem? (i := 3) rfl) rfl
theorem tb_1220 : Cond.instanceMethod yX11_image ∈ aTb := tm_6_2 (List.mem_of_getElem? (i := 4) rfl) rfl
theorem tb_1221 : Cond.selects RX11 yX11_image yX11_image ∈ aTb := tm_6_2 (List.mem_of_getElem? (i := 5) rfl) rfl
theorem tb_1223 : Cond.methodLink RX11 101 yX11_lies ∈ aTb := tm_6_2 (List.mem_of_getElem? (i := 7) rfl) rfl
theorem tb_1224 : Cond.static yX11_lies ∈ aTb := tm_6_3 (List.mem_of_getElem? (i := 0) rfl) rfl
theorem tb_1226 : Cond.methodLink RX11 105 yX11_refuses ∈ aTb := tm_6_3 (List.mem_of_getElem? (i := 2) rfl) rfl
theorem tb_1228 : Cond.instanceMethod yX11_refuses ∈ aTb := tm_6_3 (List.mem_of_getElem? (i := 4) rfl) rfl
theorem tb_1230 : Cond.methodLink RX11 109 yX11_good ∈ aTb := tm_6_3 (List.mem_of_getElem? (i := 6) rfl) rfl
theorem tb_1232 : Cond.instanceMethod yX11_good ∈ aTb := tm_6_4 (List.mem_of_getElem? (i := 0) rfl) rfl
theorem tb_1234 : Cond.methodLink RL 184 yX11_back ∈ aTb := tm_6_4 (List.mem_of_getElem? (i := 2) rfl) rfl
theorem tb_1235 : Cond.instanceMethod yX11_back ∈ aTb := tm_6_4 (List.mem_of_getElem? (i := 3) rfl) rfl
theorem tb_1236 : Cond.selects RX11 yX11_back yX11_back ∈ aTb := tm_6_4 (List.mem_of_getElem? (i := 4) rfl) rfl
theorem tb_1238 : Cond.methodLink RL 17 yX11_lamps ∈ aTb := tm_6_4 (List.mem_of_getElem? (i := 6) rfl) rfl
theorem tb_1239 : Cond.instanceMethod yX11_lamps ∈ aTb := tm_6_4 (List.mem_of_getElem? (i := 7) rfl) rfl
theorem tb_1240 : Cond.selects RX11 yX11_lamps yX11_lamps ∈ aTb := tm_6_5 (List.mem_of_getElem? (i := 0) rfl) rfl
theorem tb_1242 : Cond.methodLink RL 21 yX11_news ∈ aTb := tm_6_5 (List.mem_of_getElem? (i := 2) rfl) rfl
theorem tb_1243 : Cond.instanceMethod yX11_news ∈ aTb := tm_6_5 (List.mem_of_getElem? (i := 3) rfl) rfl
theorem tb_1244 : Cond.selects RX11 yX11_news yX11_news ∈ aTb := tm_6_5 (List.mem_of_getElem? (i := 4) rfl) rfl
theorem tb_1246 : Cond.methodLink RL 26 yX11_oil ∈ aTb := tm_6_5 (List.mem_of_getElem? (i := 6) rfl) rfl
theorem tb_1247 : Cond.instanceMethod yX11_oil ∈ aTb := tm_6_5 (List.mem_of_getElem? (i := 7) rfl) rfl
theorem tb_1248 : Cond.selects RX11 yX11_oil yX11_oil ∈ aTb := tm_6_6 (List.mem_of_getElem? (i := 0) rfl) rfl
theorem tb_1250 : Cond.methodLink RX11 116 yX11_isLamp ∈ aTb := tm_6_6 (List.mem_of_getElem? (i := 2) rfl) rfl
theorem tb_1252 : Cond.instanceMethod yX11_isLamp ∈ aTb := tm_6_6 (List.mem_of_getElem? (i := 4) rfl) rfl
theorem tb_1254 : Cond.methodLink RL 30 yX11_broken ∈ aTb := tm_6_6 (List.mem_of_getElem? (i := 6) rfl) rfl
theorem tb_1255 : Cond.instanceMethod yX11_broken ∈ aTb := tm_6_6 (List.mem_of_getElem? (i := 7) rfl) rfl
theorem tb_1256 : Cond.selects RX11 yX11_broken yX11_broken ∈ aTb := tm_6_7 (List.mem_of_getElem? (i := 0) rfl) rfl
theorem tb_1258 : Cond.methodLink RL 34 yX11_read ∈ aTb := tm_6_7 (List.mem_of_getElem? (i := 2) rfl) rfl
theorem tb_1259 : Cond.instanceMethod yX11_read ∈ aTb := tm_6_7 (List.mem_of_getElem? (i := 3) rfl) rfl
theorem tb_1260 : Cond.selects RX11 yX11_read yX11_read ∈ aTb := tm_6_7 (List.mem_of_getElem? (i := 4) rfl) rfl
theorem tb_1262 : Cond.methodLink RX11 120 yX11_isState ∈ aTb := tm_6_7 (List.mem_of_getElem? (i := 6) rfl) rfl
theorem tb_1264 : Cond.instanceMethod yX11_isState ∈ aTb := tm_6_8 (List.mem_of_getElem? (i := 0) rfl) rfl
theorem tb_1266 : Cond.methodLink RX11 112 yX11_states ∈ aTb := tm_6_8 (List.mem_of_getElem? (i := 2) rfl) rfl
theorem tb_1268 : Cond.instanceMethod yX11_states ∈ aTb := tm_6_8 (List.mem_of_getElem? (i := 4) rfl) rfl
theorem tb_1270 : Cond.methodLink RX11 123 yX11_isNews ∈ aTb := tm_6_8 (List.mem_of_getElem? (i := 6) rfl) rfl
theorem tb_1272 : Cond.instanceMethod yX11_isNews ∈ aTb := tm_6_9 (List.mem_of_getElem? (i := 0) rfl) rfl
theorem tb_1274 : Cond.methodLink RX11 126 yX11_readOf ∈ aTb := tm_6_9 (List.mem_of_getElem? (i := 2) rfl) rfl
theorem tb_1276 : Cond.instanceMethod yX11_readOf ∈ aTb := tm_6_9 (List.mem_of_getElem? (i := 4) rfl) rfl
theorem tb_1278 : Cond.methodLink RL 38 yX11_of ∈ aTb := tm_6_9 (List.mem_of_getElem? (i := 6) rfl) rfl
theorem tb_1279 : Cond.instanceMethod yX11_of ∈ aTb := tm_6_9 (List.mem_of_getElem? (i := 7) rfl) rfl
theorem tb_1280 : Cond.selects RX11 yX11_of yX11_of ∈ aTb := tm_6_10 (List.mem_of_getElem? (i := 0) rfl) rfl
theorem tb_1282 : Cond.methodLink RL 52 yX11_row ∈ aTb := tm_6_10 (List.mem_of_getElem? (i := 2) rfl) rfl
theorem tb_1283 : Cond.instanceMethod yX11_row ∈ aTb := tm_6_10 (List.mem_of_getElem? (i := 3) rfl) rfl
theorem tb_1284 : Cond.selects RX11 yX11_row yX11_row ∈ aTb := tm_6_10 (List.mem_of_getElem? (i := 4) rfl) rfl
theorem tb_1286 : Cond.methodLink RX11 132 yX11_greater ∈ aTb := tm_6_10 (List.mem_of_getElem? (i := 6) rfl) rfl
theorem tb_1287 : Cond.static yX11_greater ∈ aTb := tm_6_10 (List.mem_of_getElem? (i := 7) rfl) rfl
theorem tb_1289 : Cond.methodLink RX11 139 yX11_readMany ∈ aTb := tm_6_11 (List.mem_of_getElem? (i := 1) rfl) rfl
theorem tb_1291 : Cond.instanceMethod yX11_readMany ∈ aTb := tm_6_11 (List.mem_of_getElem? (i := 3) rfl) rfl
theorem tb_1293 : Cond.methodLink RL 56 yX11_torn ∈ aTb := tm_6_11 (List.mem_of_getElem? (i := 5) rfl) rfl
theorem tb_1294 : Cond.instanceMethod yX11_torn ∈ aTb := tm_6_11 (List.mem_of_getElem? (i := 6) rfl) rfl
theorem tb_1295 : Cond.selects RX11 yX11_torn yX11_torn ∈ aTb := tm_6_11 (List.mem_of_getElem? (i := 7) rfl) rfl
theorem tb_1297 : Cond.methodLink RL 43 yX11_feed ∈ aTb := tm_6_12 (List.mem_of_getElem? (i := 1) rfl) rfl
theorem tb_1298 : Cond.instanceMethod yX11_feed ∈ aTb := tm_6_12 (List.mem_of_getElem? (i := 2) rfl) rfl
theorem tb_1299 : Cond.selects RX11 yX11_feed yX11_feed ∈ aTb := tm_6_12 (List.mem_of_getElem? (i := 3) rfl) rfl
theorem tb_1301 : Cond.methodLink RL 47 yX11_end ∈ aTb := tm_6_12 (List.mem_of_getElem? (i := 5) rfl) rfl
theorem tb_1302 : Cond.instanceMethod yX11_end ∈ aTb := tm_6_12 (List.mem_of_getElem? (i := 6) rfl) rfl
theorem tb_1303 : Cond.selects RX11 yX11_end yX11_end ∈ aTb := tm_6_12 (List.mem_of_getElem? (i := 7) rfl) rfl
theorem tb_1305 : Cond.methodLink RL 60 yX11_law ∈ aTb := tm_6_13 (List.mem_of_getElem? (i := 1) rfl) rfl
theorem tb_1306 : Cond.instanceMethod yX11_law ∈ aTb := tm_6_13 (List.mem_of_getElem? (i := 2) rfl) rfl
theorem tb_1307 : Cond.selects RX11 yX11_law yX11_law ∈ aTb := tm_6_13 (List.mem_of_getElem? (i := 3) rfl) rfl
theorem tb_1309 : Cond.methodLink RX11 209 yX11_reads ∈ aTb := tm_6_13 (List.mem_of_getElem? (i := 5) rfl) rfl
theorem tb_1311 : Cond.instanceMethod yX11_reads ∈ aTb := tm_6_13 (List.mem_of_getElem? (i := 7) rfl) rfl
theorem tb_1313 : Cond.methodLink RX11 203 yX11_splits ∈ aTb := tm_6_14 (List.mem_of_getElem? (i := 1) rfl) rfl
theorem tb_1315 : Cond.instanceMethod yX11_splits ∈ aTb := tm_6_14 (List.mem_of_getElem? (i := 3) rfl) rfl
theorem tb_1317 : Cond.methodLink RX11 145 yX11_isSmall ∈ aTb := tm_6_14 (List.mem_of_getElem? (i := 5) rfl) rfl
theorem tb_1318 : Cond.static yX11_isSmall ∈ aTb := tm_6_14 (List.mem_of_getElem? (i := 6) rfl) rfl
theorem tb_1320 : Cond.methodLink RX11 148 yX11_isDigit ∈ aTb := tm_6_15 (List.mem_of_getElem? (i := 0) rfl) rfl
theorem tb_1321 : Cond.static yX11_isDigit ∈ aTb := tm_6_15 (List.mem_of_getElem? (i := 1) rfl) rfl
theorem tb_1323 : Cond.methodLink RX11 151 yX11_wordOf ∈ aTb := tm_6_15 (List.mem_of_getElem? (i := 3) rfl) rfl
theorem tb_1325 : Cond.instanceMethod yX11_wordOf ∈ aTb := tm_6_15 (List.mem_of_getElem? (i := 5) rfl) rfl
theorem tb_1327 : Cond.constant RX11 154 (Int32.ofInt (1000000)) ∈ aTb := tm_6_15 (List.mem_of_getElem? (i := 7) rfl) rfl
theorem tb_1328 : Cond.methodLink RX11 206 yX11_readClause ∈ aTb := tm_6_16 (List.mem_of_getElem? (i := 0) rfl) rfl
theorem tb_1330 : Cond.instanceMethod yX11_readClause ∈ aTb := tm_6_16 (List.mem_of_getElem? (i := 2) rfl) rfl
theorem tb_1332 : Cond.methodLink RX11 174 yX11_must ∈ aTb := tm_6_16 (List.mem_of_getElem? (i := 4) rfl) rfl
theorem tb_1334 : Cond.instanceMethod yX11_must ∈ aTb := tm_6_16 (List.mem_of_getElem? (i := 6) rfl) rfl
theorem tb_1336 : Cond.methodLink RX11 165 yX11_takes0 ∈ aTb := tm_6_17 (List.mem_of_getElem? (i := 0) rfl) rfl
theorem tb_1338 : Cond.instanceMethod yX11_takes0 ∈ aTb := tm_6_17 (List.mem_of_getElem? (i := 2) rfl) rfl
theorem tb_1340 : Cond.methodLink RX11 158 yX11_fine ∈ aTb := tm_6_17 (List.mem_of_getElem? (i := 4) rfl) rfl
theorem tb_1342 : Cond.instanceMethod yX11_fine ∈ aTb := tm_6_17 (List.mem_of_getElem? (i := 6) rfl) rfl
theorem tb_1344 : Cond.methodLink RX11 168 yX11_faults ∈ aTb := tm_6_18 (List.mem_of_getElem? (i := 0) rfl) rfl
theorem tb_1346 : Cond.instanceMethod yX11_faults ∈ aTb := tm_6_18 (List.mem_of_getElem? (i := 2) rfl) rfl
theorem tb_1348 : Cond.methodLink RX11 178 yX11_readSum ∈ aTb := tm_6_18 (List.mem_of_getElem? (i := 4) rfl) rfl
theorem tb_1350 : Cond.instanceMethod yX11_readSum ∈ aTb := tm_6_18 (List.mem_of_getElem? (i := 6) rfl) rfl
theorem tb_1352 : Cond.methodLink RX11 194 yX11_readTerm ∈ aTb := tm_6_19 (List.mem_of_getElem? (i := 0) rfl) rfl
theorem tb_1354 : Cond.instanceMethod yX11_readTerm ∈ aTb := tm_6_19 (List.mem_of_getElem? (i := 2) rfl) rfl
theorem tb_1356 : Cond.methodLink RX11 197 yX11_readPart ∈ aTb := tm_6_19 (List.mem_of_getElem? (i := 4) rfl) rfl
theorem tb_1358 : Cond.instanceMethod yX11_readPart ∈ aTb := tm_6_19 (List.mem_of_getElem? (i := 6) rfl) rfl
theorem tb_1360 : Cond.methodLink RX11 190 yX11_sign ∈ aTb := tm_6_20 (List.mem_of_getElem? (i := 0) rfl) rfl
theorem tb_1361 : Cond.static yX11_sign ∈ aTb := tm_6_20 (List.mem_of_getElem? (i := 1) rfl) rfl
theorem tb_1363 : Cond.methodLink RX11 200 yX11_leaf ∈ aTb := tm_6_20 (List.mem_of_getElem? (i := 3) rfl) rfl
theorem tb_1365 : Cond.instanceMethod yX11_leaf ∈ aTb := tm_6_20 (List.mem_of_getElem? (i := 5) rfl) rfl
theorem tb_1367 : Cond.methodLink RX11 181 yX11_readTest ∈ aTb := tm_6_20 (List.mem_of_getElem? (i := 7) rfl) rfl
theorem tb_1369 : Cond.instanceMethod yX11_readTest ∈ aTb := tm_6_21 (List.mem_of_getElem? (i := 1) rfl) rfl
theorem tb_1371 : Cond.methodLink RX11 184 yX11_readBoth ∈ aTb := tm_6_21 (List.mem_of_getElem? (i := 3) rfl) rfl
theorem tb_1373 : Cond.instanceMethod yX11_readBoth ∈ aTb := tm_6_21 (List.mem_of_getElem? (i := 5) rfl) rfl
theorem tb_1375 : Cond.methodLink RX11 187 yX11_readPlain ∈ aTb := tm_6_21 (List.mem_of_getElem? (i := 7) rfl) rfl
theorem tb_1377 : Cond.instanceMethod yX11_readPlain ∈ aTb := tm_6_22 (List.mem_of_getElem? (i := 1) rfl) rfl
theorem tb_1379 : Cond.methodLink RL 64 yX11_fault ∈ aTb := tm_6_22 (List.mem_of_getElem? (i := 3) rfl) rfl
theorem tb_1380 : Cond.instanceMethod yX11_fault ∈ aTb := tm_6_22 (List.mem_of_getElem? (i := 4) rfl) rfl
theorem tb_1381 : Cond.selects RX11 yX11_fault yX11_fault ∈ aTb := tm_6_22 (List.mem_of_getElem? (i := 5) rfl) rfl
theorem tb_1383 : Cond.methodLink RL 68 yX11_learn ∈ aTb := tm_6_22 (List.mem_of_getElem? (i := 7) rfl) rfl
theorem tb_1384 : Cond.instanceMethod yX11_learn ∈ aTb := tm_6_23 (List.mem_of_getElem? (i := 0) rfl) rfl
theorem tb_1385 : Cond.selects RX11 yX11_learn yX11_learn ∈ aTb := tm_6_23 (List.mem_of_getElem? (i := 1) rfl) rfl
theorem tb_1387 : Cond.methodLink RX11 264 yX11_asksOf ∈ aTb := tm_6_23 (List.mem_of_getElem? (i := 3) rfl) rfl
theorem tb_1389 : Cond.instanceMethod yX11_asksOf ∈ aTb := tm_6_23 (List.mem_of_getElem? (i := 5) rfl) rfl
theorem tb_1391 : Cond.methodLink RX11 259 yX11_ones ∈ aTb := tm_6_23 (List.mem_of_getElem? (i := 7) rfl) rfl
theorem tb_1392 : Cond.static yX11_ones ∈ aTb := tm_6_24 (List.mem_of_getElem? (i := 0) rfl) rfl
theorem tb_1394 : Cond.methodLink RX11 267 yX11_toldBy ∈ aTb := tm_6_24 (List.mem_of_getElem? (i := 2) rfl) rfl
theorem tb_1396 : Cond.instanceMethod yX11_toldBy ∈ aTb := tm_6_24 (List.mem_of_getElem? (i := 4) rfl) rfl
theorem tb_1398 : Cond.constantLong RX11 262 (Int64.ofInt (-1)) ∈ aTb := tm_6_24 (List.mem_of_getElem? (i := 6) rfl) rfl
theorem tb_1399 : Cond.methodLink RX11 243 yX11_sumOf ∈ aTb := tm_6_24 (List.mem_of_getElem? (i := 7) rfl) rfl
theorem tb_1401 : Cond.instanceMethod yX11_sumOf ∈ aTb := tm_6_25 (List.mem_of_getElem? (i := 1) rfl) rfl
theorem tb_1403 : Cond.methodLink RX11 229 yX11_termOf ∈ aTb := tm_6_25 (List.mem_of_getElem? (i := 3) rfl) rfl
theorem tb_1405 : Cond.instanceMethod yX11_termOf ∈ aTb := tm_6_25 (List.mem_of_getElem? (i := 5) rfl) rfl
theorem tb_1407 : Cond.methodLink RX11 237 yX11_partOf ∈ aTb := tm_6_25 (List.mem_of_getElem? (i := 7) rfl) rfl
theorem tb_1409 : Cond.instanceMethod yX11_partOf ∈ aTb := tm_6_26 (List.mem_of_getElem? (i := 1) rfl) rfl
theorem tb_1411 : Cond.methodLink RX11 240 yX11_passes0 ∈ aTb := tm_6_26 (List.mem_of_getElem? (i := 3) rfl) rfl
theorem tb_1413 : Cond.instanceMethod yX11_passes0 ∈ aTb := tm_6_26 (List.mem_of_getElem? (i := 5) rfl) rfl
theorem tb_1415 : Cond.methodLink RX11 218 yX11_codeAt ∈ aTb := tm_6_26 (List.mem_of_getElem? (i := 7) rfl) rfl
theorem tb_1417 : Cond.instanceMethod yX11_codeAt ∈ aTb := tm_6_27 (List.mem_of_getElem? (i := 1) rfl) rfl
theorem tb_1419 : Cond.methodLink RX11 233 yX11_bounded ∈ aTb := tm_6_27 (List.mem_of_getElem? (i := 3) rfl) rfl
theorem tb_1421 : Cond.instanceMethod yX11_bounded ∈ aTb := tm_6_27 (List.mem_of_getElem? (i := 5) rfl) rfl
theorem tb_1423 : Cond.constantLong RX11 221 (Int64.ofInt (1000000000)) ∈ aTb := tm_6_27 (List.mem_of_getElem? (i := 7) rfl) rfl
theorem tb_1424 : Cond.constantLong RX11 223 (Int64.ofInt (-1000000000)) ∈ aTb := tm_6_28 (List.mem_of_getElem? (i := 0) rfl) rfl
theorem tb_1425 : Cond.methodLink RX11 256 yX11_testOf ∈ aTb := tm_6_28 (List.mem_of_getElem? (i := 1) rfl) rfl
theorem tb_1427 : Cond.instanceMethod yX11_testOf ∈ aTb := tm_6_28 (List.mem_of_getElem? (i := 3) rfl) rfl
theorem tb_1429 : Cond.methodLink RX11 246 yX11_bothOf ∈ aTb := tm_6_28 (List.mem_of_getElem? (i := 5) rfl) rfl
theorem tb_1431 : Cond.instanceMethod yX11_bothOf ∈ aTb := tm_6_28 (List.mem_of_getElem? (i := 7) rfl) rfl
theorem tb_1433 : Cond.methodLink RX11 250 yX11_plainOf ∈ aTb := tm_6_29 (List.mem_of_getElem? (i := 1) rfl) rfl
theorem tb_1435 : Cond.instanceMethod yX11_plainOf ∈ aTb := tm_6_29 (List.mem_of_getElem? (i := 3) rfl) rfl
theorem tb_1437 : Cond.methodLink RX11 253 yX11_positiveOf ∈ aTb := tm_6_29 (List.mem_of_getElem? (i := 5) rfl) rfl
theorem tb_1439 : Cond.instanceMethod yX11_positiveOf ∈ aTb := tm_6_29 (List.mem_of_getElem? (i := 7) rfl) rfl
theorem tb_1441 : Cond.methodLink RL 81 yX11_lasts ∈ aTb := tm_7_0 (List.mem_of_getElem? (i := 1) rfl) rfl
theorem tb_1442 : Cond.instanceMethod yX11_lasts ∈ aTb := tm_7_0 (List.mem_of_getElem? (i := 2) rfl) rfl
theorem tb_1443 : Cond.selects RX11 yX11_lasts yX11_lasts ∈ aTb := tm_7_0 (List.mem_of_getElem? (i := 3) rfl) rfl
theorem tb_1445 : Cond.methodLink RX11 294 yX11_looks ∈ aTb := tm_7_0 (List.mem_of_getElem? (i := 5) rfl) rfl
theorem tb_1447 : Cond.instanceMethod yX11_looks ∈ aTb := tm_7_0 (List.mem_of_getElem? (i := 7) rfl) rfl
theorem tb_1449 : Cond.methodLink RX11 285 yX11_lasts0 ∈ aTb := tm_7_1 (List.mem_of_getElem? (i := 1) rfl) rfl
theorem tb_1451 : Cond.instanceMethod yX11_lasts0 ∈ aTb := tm_7_1 (List.mem_of_getElem? (i := 3) rfl) rfl
theorem tb_1453 : Cond.methodLink RX11 291 yX11_lastingOf ∈ aTb := tm_7_1 (List.mem_of_getElem? (i := 5) rfl) rfl
theorem tb_1455 : Cond.instanceMethod yX11_lastingOf ∈ aTb := tm_7_1 (List.mem_of_getElem? (i := 7) rfl) rfl
theorem tb_1457 : Cond.constant RX11 270 (Int32.ofInt (1000000000)) ∈ aTb := tm_7_2 (List.mem_of_getElem? (i := 1) rfl) rfl
theorem tb_1458 : Cond.methodLink RX11 271 yX11_canCome ∈ aTb := tm_7_2 (List.mem_of_getElem? (i := 2) rfl) rfl
theorem tb_1460 : Cond.instanceMethod yX11_canCome ∈ aTb := tm_7_2 (List.mem_of_getElem? (i := 4) rfl) rfl
theorem tb_1462 : Cond.methodLink RX11 288 yX11_meanOf ∈ aTb := tm_7_2 (List.mem_of_getElem? (i := 6) rfl) rfl
theorem tb_1464 : Cond.instanceMethod yX11_meanOf ∈ aTb := tm_7_3 (List.mem_of_getElem? (i := 0) rfl) rfl
theorem tb_1466 : Cond.methodLink RX11 274 yX11_dark ∈ aTb := tm_7_3 (List.mem_of_getElem? (i := 2) rfl) rfl
theorem tb_1468 : Cond.instanceMethod yX11_dark ∈ aTb := tm_7_3 (List.mem_of_getElem? (i := 4) rfl) rfl
theorem tb_1470 : Cond.methodLink RX11 277 yX11_power ∈ aTb := tm_7_3 (List.mem_of_getElem? (i := 6) rfl) rfl
theorem tb_1472 : Cond.instanceMethod yX11_power ∈ aTb := tm_7_4 (List.mem_of_getElem? (i := 0) rfl) rfl
theorem tb_1474 : Cond.methodLink RX11 281 yX11_meanIn ∈ aTb := tm_7_4 (List.mem_of_getElem? (i := 2) rfl) rfl
theorem tb_1476 : Cond.instanceMethod yX11_meanIn ∈ aTb := tm_7_4 (List.mem_of_getElem? (i := 4) rfl) rfl
theorem tb_1478 : Cond.methodLink RL 86 yX11_mean ∈ aTb := tm_7_4 (List.mem_of_getElem? (i := 6) rfl) rfl
theorem tb_1479 : Cond.instanceMethod yX11_mean ∈ aTb := tm_7_4 (List.mem_of_getElem? (i := 7) rfl) rfl
theorem tb_1480 : Cond.selects RX11 yX11_mean yX11_mean ∈ aTb := tm_7_5 (List.mem_of_getElem? (i := 0) rfl) rfl
theorem tb_1482 : Cond.methodLink RX11 297 yX11_gcd ∈ aTb := tm_7_5 (List.mem_of_getElem? (i := 2) rfl) rfl
theorem tb_1483 : Cond.static yX11_gcd ∈ aTb := tm_7_5 (List.mem_of_getElem? (i := 3) rfl) rfl
theorem tb_1485 : Cond.methodLink RL 73 yX11_next ∈ aTb := tm_7_5 (List.mem_of_getElem? (i := 5) rfl) rfl
theorem tb_1486 : Cond.instanceMethod yX11_next ∈ aTb := tm_7_5 (List.mem_of_getElem? (i := 6) rfl) rfl
theorem tb_1487 : Cond.selects RX11 yX11_next yX11_next ∈ aTb := tm_7_5 (List.mem_of_getElem? (i := 7) rfl) rfl
theorem tb_1489 : Cond.methodLink RX11 308 yX11_isManner ∈ aTb := tm_7_6 (List.mem_of_getElem? (i := 1) rfl) rfl
theorem tb_1490 : Cond.static yX11_isManner ∈ aTb := tm_7_6 (List.mem_of_getElem? (i := 2) rfl) rfl
theorem tb_1492 : Cond.methodLink RX11 311 yX11_nextOf ∈ aTb := tm_7_6 (List.mem_of_getElem? (i := 4) rfl) rfl
theorem tb_1494 : Cond.instanceMethod yX11_nextOf ∈ aTb := tm_7_6 (List.mem_of_getElem? (i := 6) rfl) rfl
theorem tb_1496 : Cond.methodLink RX11 304 yX11_isBetter ∈ aTb := tm_7_7 (List.mem_of_getElem? (i := 0) rfl) rfl
theorem tb_1498 : Cond.instanceMethod yX11_isBetter ∈ aTb := tm_7_7 (List.mem_of_getElem? (i := 2) rfl) rfl
theorem tb_1500 : Cond.methodLink RX11 301 yX11_oilOf ∈ aTb := tm_7_7 (List.mem_of_getElem? (i := 4) rfl) rfl
theorem tb_1502 : Cond.instanceMethod yX11_oilOf ∈ aTb := tm_7_7 (List.mem_of_getElem? (i := 6) rfl) rfl
theorem tb_1504 : Cond.methodLink RL 77 yX11_ways ∈ aTb := tm_7_8 (List.mem_of_getElem? (i := 0) rfl) rfl
theorem tb_1505 : Cond.instanceMethod yX11_ways ∈ aTb := tm_7_8 (List.mem_of_getElem? (i := 1) rfl) rfl
theorem tb_1506 : Cond.selects RX11 yX11_ways yX11_ways ∈ aTb := tm_7_8 (List.mem_of_getElem? (i := 2) rfl) rfl
theorem tb_1508 : Cond.methodLink RL 90 yX11_reached ∈ aTb := tm_7_8 (List.mem_of_getElem? (i := 4) rfl) rfl
theorem tb_1509 : Cond.instanceMethod yX11_reached ∈ aTb := tm_7_8 (List.mem_of_getElem? (i := 5) rfl) rfl
theorem tb_1510 : Cond.selects RX11 yX11_reached yX11_reached ∈ aTb := tm_7_8 (List.mem_of_getElem? (i := 6) rfl) rfl
theorem tb_1512 : Cond.methodLink RX11 315 yX11_reaches ∈ aTb := tm_7_9 (List.mem_of_getElem? (i := 0) rfl) rfl
theorem tb_1514 : Cond.instanceMethod yX11_reaches ∈ aTb := tm_7_9 (List.mem_of_getElem? (i := 2) rfl) rfl
theorem tb_1516 : Cond.methodLink RL 94 yX11_failing ∈ aTb := tm_7_9 (List.mem_of_getElem? (i := 4) rfl) rfl
theorem tb_1517 : Cond.instanceMethod yX11_failing ∈ aTb := tm_7_9 (List.mem_of_getElem? (i := 5) rfl) rfl
theorem tb_1518 : Cond.selects RX11 yX11_failing yX11_failing ∈ aTb := tm_7_9 (List.mem_of_getElem? (i := 6) rfl) rfl
theorem tb_1520 : Cond.methodLink RX11 321 yX11_failing0 ∈ aTb := tm_7_10 (List.mem_of_getElem? (i := 0) rfl) rfl
theorem tb_1522 : Cond.instanceMethod yX11_failing0 ∈ aTb := tm_7_10 (List.mem_of_getElem? (i := 2) rfl) rfl
theorem tb_1524 : Cond.methodLink RL 98 yX11_hurts ∈ aTb := tm_7_10 (List.mem_of_getElem? (i := 4) rfl) rfl
theorem tb_1525 : Cond.instanceMethod yX11_hurts ∈ aTb := tm_7_10 (List.mem_of_getElem? (i := 5) rfl) rfl
theorem tb_1526 : Cond.selects RX11 yX11_hurts yX11_hurts ∈ aTb := tm_7_10 (List.mem_of_getElem? (i := 6) rfl) rfl
theorem tb_1528 : Cond.methodLink RL 102 yX11_codes ∈ aTb := tm_7_11 (List.mem_of_getElem? (i := 0) rfl) rfl
theorem tb_1529 : Cond.instanceMethod yX11_codes ∈ aTb := tm_7_11 (List.mem_of_getElem? (i := 1) rfl) rfl
theorem tb_1530 : Cond.selects RX11 yX11_codes yX11_codes ∈ aTb := tm_7_11 (List.mem_of_getElem? (i := 2) rfl) rfl
theorem tb_1532 : Cond.methodLink RX11 327 yX11_areCodes ∈ aTb := tm_7_11 (List.mem_of_getElem? (i := 4) rfl) rfl
theorem tb_1533 : Cond.static yX11_areCodes ∈ aTb := tm_7_11 (List.mem_of_getElem? (i := 5) rfl) rfl
theorem tb_1535 : Cond.methodLink RX11 330 yX11_codes0 ∈ aTb := tm_7_11 (List.mem_of_getElem? (i := 7) rfl) rfl
theorem tb_1537 : Cond.instanceMethod yX11_codes0 ∈ aTb := tm_7_12 (List.mem_of_getElem? (i := 1) rfl) rfl
theorem tb_1539 : Cond.methodLink RL 106 yX11_make ∈ aTb := tm_7_12 (List.mem_of_getElem? (i := 3) rfl) rfl
theorem tb_1540 : Cond.instanceMethod yX11_make ∈ aTb := tm_7_12 (List.mem_of_getElem? (i := 4) rfl) rfl
theorem tb_1541 : Cond.selects RX11 yX11_make yX11_make ∈ aTb := tm_7_12 (List.mem_of_getElem? (i := 5) rfl) rfl
theorem tb_1543 : Cond.methodLink RL 110 yX11_send ∈ aTb := tm_7_12 (List.mem_of_getElem? (i := 7) rfl) rfl
theorem tb_1544 : Cond.instanceMethod yX11_send ∈ aTb := tm_7_13 (List.mem_of_getElem? (i := 0) rfl) rfl
theorem tb_1545 : Cond.selects RX11 yX11_send yX11_send ∈ aTb := tm_7_13 (List.mem_of_getElem? (i := 1) rfl) rfl
theorem tb_1547 : Cond.methodLink RL 114 yX11_dawn ∈ aTb := tm_7_13 (List.mem_of_getElem? (i := 3) rfl) rfl
theorem tb_1548 : Cond.instanceMethod yX11_dawn ∈ aTb := tm_7_13 (List.mem_of_getElem? (i := 4) rfl) rfl
theorem tb_1549 : Cond.selects RX11 yX11_dawn yX11_dawn ∈ aTb := tm_7_13 (List.mem_of_getElem? (i := 5) rfl) rfl
theorem tb_1551 : Cond.methodLink RL 118 yX11_log ∈ aTb := tm_7_13 (List.mem_of_getElem? (i := 7) rfl) rfl
theorem tb_1552 : Cond.instanceMethod yX11_log ∈ aTb := tm_7_14 (List.mem_of_getElem? (i := 0) rfl) rfl
theorem tb_1553 : Cond.selects RX11 yX11_log yX11_log ∈ aTb := tm_7_14 (List.mem_of_getElem? (i := 1) rfl) rfl
theorem tb_1555 : Cond.methodLink RL 122 yX11_burnt ∈ aTb := tm_7_14 (List.mem_of_getElem? (i := 3) rfl) rfl
theorem tb_1556 : Cond.instanceMethod yX11_burnt ∈ aTb := tm_7_14 (List.mem_of_getElem? (i := 4) rfl) rfl
theorem tb_1557 : Cond.selects RX11 yX11_burnt yX11_burnt ∈ aTb := tm_7_14 (List.mem_of_getElem? (i := 5) rfl) rfl
theorem tb_1559 : Cond.methodLink RL 126 yX11_trail ∈ aTb := tm_7_14 (List.mem_of_getElem? (i := 7) rfl) rfl
theorem tb_1560 : Cond.instanceMethod yX11_trail ∈ aTb := tm_7_15 (List.mem_of_getElem? (i := 0) rfl) rfl
theorem tb_1561 : Cond.selects RX11 yX11_trail yX11_trail ∈ aTb := tm_7_15 (List.mem_of_getElem? (i := 1) rfl) rfl
theorem tb_1563 : Cond.methodLink RL 130 yX11_judge ∈ aTb := tm_7_15 (List.mem_of_getElem? (i := 3) rfl) rfl
theorem tb_1564 : Cond.instanceMethod yX11_judge ∈ aTb := tm_7_15 (List.mem_of_getElem? (i := 4) rfl) rfl
theorem tb_1565 : Cond.selects RX11 yX11_judge yX11_judge ∈ aTb := tm_7_15 (List.mem_of_getElem? (i := 5) rfl) rfl
theorem tb_1567 : Cond.methodLink RL 135 yX11_rows ∈ aTb := tm_7_15 (List.mem_of_getElem? (i := 7) rfl) rfl
theorem tb_1568 : Cond.instanceMethod yX11_rows ∈ aTb := tm_7_16 (List.mem_of_getElem? (i := 0) rfl) rfl
theorem tb_1569 : Cond.selects RX11 yX11_rows yX11_rows ∈ aTb := tm_7_16 (List.mem_of_getElem? (i := 1) rfl) rfl
theorem tb_1571 : Cond.methodLink RX11 337 yX11_rowsOf ∈ aTb := tm_7_16 (List.mem_of_getElem? (i := 3) rfl) rfl
theorem tb_1573 : Cond.instanceMethod yX11_rowsOf ∈ aTb := tm_7_16 (List.mem_of_getElem? (i := 5) rfl) rfl
theorem tb_1575 : Cond.methodLink RL 140 yX11_could ∈ aTb := tm_7_16 (List.mem_of_getElem? (i := 7) rfl) rfl
theorem tb_1576 : Cond.instanceMethod yX11_could ∈ aTb := tm_7_17 (List.mem_of_getElem? (i := 0) rfl) rfl
theorem tb_1577 : Cond.selects RX11 yX11_could yX11_could ∈ aTb := tm_7_17 (List.mem_of_getElem? (i := 1) rfl) rfl
theorem tb_1579 : Cond.methodLink RL 144 yX11_maybe ∈ aTb := tm_7_17 (List.mem_of_getElem? (i := 3) rfl) rfl
theorem tb_1580 : Cond.instanceMethod yX11_maybe ∈ aTb := tm_7_17 (List.mem_of_getElem? (i := 4) rfl) rfl
theorem tb_1581 : Cond.selects RX11 yX11_maybe yX11_maybe ∈ aTb := tm_7_17 (List.mem_of_getElem? (i := 5) rfl) rfl
theorem tb_1583 : Cond.methodLink RL 148 yX11_safe ∈ aTb := tm_7_17 (List.mem_of_getElem? (i := 7) rfl) rfl
theorem tb_1584 : Cond.instanceMethod yX11_safe ∈ aTb := tm_7_18 (List.mem_of_getElem? (i := 0) rfl) rfl
theorem tb_1585 : Cond.selects RX11 yX11_safe yX11_safe ∈ aTb := tm_7_18 (List.mem_of_getElem? (i := 1) rfl) rfl
theorem tb_1587 : Cond.methodLink RL 152 yX11_spy ∈ aTb := tm_7_18 (List.mem_of_getElem? (i := 3) rfl) rfl
theorem tb_1588 : Cond.instanceMethod yX11_spy ∈ aTb := tm_7_18 (List.mem_of_getElem? (i := 4) rfl) rfl
theorem tb_1589 : Cond.selects RX11 yX11_spy yX11_spy ∈ aTb := tm_7_18 (List.mem_of_getElem? (i := 5) rfl) rfl
theorem tb_1591 : Cond.methodLink RL 156 yX11_want ∈ aTb := tm_7_18 (List.mem_of_getElem? (i := 7) rfl) rfl
theorem tb_1592 : Cond.instanceMethod yX11_want ∈ aTb := tm_7_19 (List.mem_of_getElem? (i := 0) rfl) rfl
theorem tb_1593 : Cond.selects RX11 yX11_want yX11_want ∈ aTb := tm_7_19 (List.mem_of_getElem? (i := 1) rfl) rfl
theorem tb_1595 : Cond.methodLink RL 160 yX11_unwant ∈ aTb := tm_7_19 (List.mem_of_getElem? (i := 3) rfl) rfl
theorem tb_1596 : Cond.instanceMethod yX11_unwant ∈ aTb := tm_7_19 (List.mem_of_getElem? (i := 4) rfl) rfl
theorem tb_1597 : Cond.selects RX11 yX11_unwant yX11_unwant ∈ aTb := tm_7_19 (List.mem_of_getElem? (i := 5) rfl) rfl
theorem tb_1599 : Cond.methodLink RL 164 yX11_cheap ∈ aTb := tm_7_19 (List.mem_of_getElem? (i := 7) rfl) rfl
theorem tb_1600 : Cond.instanceMethod yX11_cheap ∈ aTb := tm_7_20 (List.mem_of_getElem? (i := 0) rfl) rfl
theorem tb_1601 : Cond.selects RX11 yX11_cheap yX11_cheap ∈ aTb := tm_7_20 (List.mem_of_getElem? (i := 1) rfl) rfl
theorem tb_1603 : Cond.methodLink RX11 341 yX11_plans ∈ aTb := tm_7_20 (List.mem_of_getElem? (i := 3) rfl) rfl
theorem tb_1605 : Cond.instanceMethod yX11_plans ∈ aTb := tm_7_20 (List.mem_of_getElem? (i := 5) rfl) rfl
theorem tb_1607 : Cond.methodLink RL 168 yX11_plan ∈ aTb := tm_7_20 (List.mem_of_getElem? (i := 7) rfl) rfl
theorem tb_1608 : Cond.instanceMethod yX11_plan ∈ aTb := tm_7_21 (List.mem_of_getElem? (i := 0) rfl) rfl
theorem tb_1609 : Cond.selects RX11 yX11_plan yX11_plan ∈ aTb := tm_7_21 (List.mem_of_getElem? (i := 1) rfl) rfl
theorem tb_1611 : Cond.methodLink RL 172 yX11_night ∈ aTb := tm_7_21 (List.mem_of_getElem? (i := 3) rfl) rfl
theorem tb_1612 : Cond.instanceMethod yX11_night ∈ aTb := tm_7_21 (List.mem_of_getElem? (i := 4) rfl) rfl
theorem tb_1613 : Cond.selects RX11 yX11_night yX11_night ∈ aTb := tm_7_21 (List.mem_of_getElem? (i := 5) rfl) rfl
theorem tb_1615 : Cond.constantLong RX11 350 (Int64.ofInt (1103)) ∈ aTb := tm_7_21 (List.mem_of_getElem? (i := 7) rfl) rfl
theorem tb_1616 : Cond.constantLong RX11 352 (Int64.ofInt (12345)) ∈ aTb := tm_7_22 (List.mem_of_getElem? (i := 0) rfl) rfl
theorem tb_1617 : Cond.constantLong RX11 354 (Int64.ofInt (1000003)) ∈ aTb := tm_7_22 (List.mem_of_getElem? (i := 1) rfl) rfl
theorem tb_1618 : Cond.methodLink RL 176 yX11_drawn ∈ aTb := tm_7_22 (List.mem_of_getElem? (i := 2) rfl) rfl
theorem tb_1619 : Cond.instanceMethod yX11_drawn ∈ aTb := tm_7_22 (List.mem_of_getElem? (i := 3) rfl) rfl
theorem tb_1620 : Cond.selects RX11 yX11_drawn yX11_drawn ∈ aTb := tm_7_22 (List.mem_of_getElem? (i := 4) rfl) rfl
theorem tb_1622 : Cond.methodLink RL 188 yX11_count ∈ aTb := tm_7_22 (List.mem_of_getElem? (i := 6) rfl) rfl
theorem tb_1623 : Cond.instanceMethod yX11_count ∈ aTb := tm_7_22 (List.mem_of_getElem? (i := 7) rfl) rfl
theorem tb_1624 : Cond.selects RX11 yX11_count yX11_count ∈ aTb := tm_7_23 (List.mem_of_getElem? (i := 0) rfl) rfl
theorem tb_1626 : Cond.methodLink RL 192 yX11_status ∈ aTb := tm_7_23 (List.mem_of_getElem? (i := 2) rfl) rfl
theorem tb_1627 : Cond.instanceMethod yX11_status ∈ aTb := tm_7_23 (List.mem_of_getElem? (i := 3) rfl) rfl
theorem tb_1628 : Cond.selects RX11 yX11_status yX11_status ∈ aTb := tm_7_23 (List.mem_of_getElem? (i := 4) rfl) rfl
theorem tb_1630 : Cond.fieldLink RJ0 9 "java/lang/String" "value" "[B" ∈ aTb := tm_7_23 (List.mem_of_getElem? (i := 6) rfl) rfl
theorem tb_1631 : Cond.fieldLink RJ0 15 "java/lang/String" "coder" "B" ∈ aTb := tm_7_23 (List.mem_of_getElem? (i := 7) rfl) rfl
theorem tk_link : Cond.methodLink RJ7 316 ⟨"[I", "clone", "()Ljava/lang/Object;"⟩ ∈ aTb := tm_3_21 (List.mem_of_getElem? (i := 5) rfl) rfl
theorem tk_same : Cond.sameMethod "[I" "java/lang/Object" "clone" "()Ljava/lang/Object;" ∈ aTb := tm_3_21 (List.mem_of_getElem? (i := 6) rfl) rfl
theorem tk_nat : Cond.native ⟨"java/lang/Object", "clone", "()Ljava/lang/Object;"⟩ ∈ aTb := tm_3_21 (List.mem_of_getElem? (i := 7) rfl) rfl
theorem tk_inst : Cond.instanceMethod ⟨"java/lang/Object", "clone", "()Ljava/lang/Object;"⟩ ∈ aTb := tm_3_22 (List.mem_of_getElem? (i := 0) rfl) rfl
theorem tk_sel : Cond.selects "[I" ⟨"[I", "clone", "()Ljava/lang/Object;"⟩ ⟨"java/lang/Object", "clone", "()Ljava/lang/Object;"⟩ ∈ aTb := tm_3_22 (List.mem_of_getElem? (i := 1) rfl) rfl
abbrev mX0_init : aM := (yX0_init, cX0_init, 1, none)
theorem tc_X0_init : Cond.code yX0_init cX0_init 1 none ∈ aTb := tm_1_21 (List.mem_of_getElem? (i := 0) rfl) rfl
abbrev mX0_ask : aM := (yX0_ask, cX0_ask, 10, (some .int))
theorem tc_X0_ask : Cond.code yX0_ask cX0_ask 10 (some .int) ∈ aTb := tm_3_26 (List.mem_of_getElem? (i := 5) rfl) rfl
abbrev mX0_isSo : aM := (yX0_isSo, cX0_isSo, 4, (some .boolean))
theorem tc_X0_isSo : Cond.code yX0_isSo cX0_isSo 4 (some .boolean) ∈ aTb := tm_3_28 (List.mem_of_getElem? (i := 3) rfl) rfl
abbrev mX0_works : aM := (yX0_works, cX0_works, 9, (some .boolean))
theorem tc_X0_works : Cond.code yX0_works cX0_works 9 (some .boolean) ∈ aTb := tm_3_28 (List.mem_of_getElem? (i := 7) rfl) rfl
abbrev mX0_join : aM := (yX0_join, cX0_join, 9, (some .boolean))
theorem tc_X0_join : Cond.code yX0_join cX0_join 9 (some .boolean) ∈ aTb := tm_3_29 (List.mem_of_getElem? (i := 5) rfl) rfl
abbrev mX0_fillWords : aM := (yX0_fillWords, cX0_fillWords, 8, none)
theorem tc_X0_fillWords : Cond.code yX0_fillWords cX0_fillWords 8 none ∈ aTb := tm_3_27 (List.mem_of_getElem? (i := 1) rfl) rfl
abbrev mX1_init : aM := (yX1_init, cX1_init, 1, none)
theorem tc_X1_init : Cond.code yX1_init cX1_init 1 none ∈ aTb := tm_1_4 (List.mem_of_getElem? (i := 1) rfl) rfl
abbrev mX1_full : aM := (yX1_full, cX1_full, 1, (some .int))
theorem tc_X1_full : Cond.code yX1_full cX1_full 1 (some .int) ∈ aTb := tm_2_23 (List.mem_of_getElem? (i := 1) rfl) rfl
abbrev mX1_isLamp : aM := (yX1_isLamp, cX1_isLamp, 2, (some .boolean))
theorem tc_X1_isLamp : Cond.code yX1_isLamp cX1_isLamp 2 (some .boolean) ∈ aTb := tm_2_21 (List.mem_of_getElem? (i := 1) rfl) rfl
abbrev mX1_isState : aM := (yX1_isState, cX1_isState, 2, (some .boolean))
theorem tc_X1_isState : Cond.code yX1_isState cX1_isState 2 (some .boolean) ∈ aTb := tm_2_22 (List.mem_of_getElem? (i := 5) rfl) rfl
abbrev mX1_isNews : aM := (yX1_isNews, cX1_isNews, 2, (some .boolean))
theorem tc_X1_isNews : Cond.code yX1_isNews cX1_isNews 2 (some .boolean) ∈ aTb := tm_2_23 (List.mem_of_getElem? (i := 5) rfl) rfl
abbrev mX1_isReached : aM := (yX1_isReached, cX1_isReached, 2, (some .boolean))
theorem tc_X1_isReached : Cond.code yX1_isReached cX1_isReached 2 (some .boolean) ∈ aTb := tm_4_13 (List.mem_of_getElem? (i := 5) rfl) rfl
abbrev mX1_canLight : aM := (yX1_canLight, cX1_canLight, 3, (some .boolean))
theorem tc_X1_canLight : Cond.code yX1_canLight cX1_canLight 3 (some .boolean) ∈ aTb := tm_4_6 (List.mem_of_getElem? (i := 2) rfl) rfl
abbrev mX1_newsBit : aM := (yX1_newsBit, cX1_newsBit, 2, (some .int))
theorem tc_X1_newsBit : Cond.code yX1_newsBit cX1_newsBit 2 (some .int) ∈ aTb := tm_5_1 (List.mem_of_getElem? (i := 2) rfl) rfl
abbrev mX1_readCount : aM := (yX1_readCount, cX1_readCount, 4, (some .int))
theorem tc_X1_readCount : Cond.code yX1_readCount cX1_readCount 4 (some .int) ∈ aTb := tm_2_28 (List.mem_of_getElem? (i := 1) rfl) rfl
abbrev mX1_countReached : aM := (yX1_countReached, cX1_countReached, 4, (some .int))
theorem tc_X1_countReached : Cond.code yX1_countReached cX1_countReached 4 (some .int) ∈ aTb := tm_4_13 (List.mem_of_getElem? (i := 1) rfl) rfl
abbrev mX1_countWays : aM := (yX1_countWays, cX1_countWays, 6, (some .int))
theorem tc_X1_countWays : Cond.code yX1_countWays cX1_countWays 6 (some .int) ∈ aTb := tm_4_9 (List.mem_of_getElem? (i := 4) rfl) rfl
abbrev mX1_forget : aM := (yX1_forget, cX1_forget, 1, none)
theorem tc_X1_forget : Cond.code yX1_forget cX1_forget 1 none ∈ aTb := tm_2_18 (List.mem_of_getElem? (i := 1) rfl) rfl
abbrev mX1_copyFrom : aM := (yX1_copyFrom, cX1_copyFrom, 3, none)
theorem tc_X1_copyFrom : Cond.code yX1_copyFrom cX1_copyFrom 3 none ∈ aTb := tm_5_13 (List.mem_of_getElem? (i := 4) rfl) rfl
abbrev mX2_init : aM := (yX2_init, cX2_init, 1, none)
theorem tc_X2_init : Cond.code yX2_init cX2_init 1 none ∈ aTb := tm_2_7 (List.mem_of_getElem? (i := 1) rfl) rfl
abbrev mX2_isSearched : aM := (yX2_isSearched, cX2_isSearched, 3, (some .boolean))
theorem tc_X2_isSearched : Cond.code yX2_isSearched cX2_isSearched 3 (some .boolean) ∈ aTb := tm_4_17 (List.mem_of_getElem? (i := 1) rfl) rfl
abbrev mX2_countCodes : aM := (yX2_countCodes, cX2_countCodes, 5, (some .int))
theorem tc_X2_countCodes : Cond.code yX2_countCodes cX2_countCodes 5 (some .int) ∈ aTb := tm_4_17 (List.mem_of_getElem? (i := 5) rfl) rfl
abbrev mX2_copyFirst : aM := (yX2_copyFirst, cX2_copyFirst, 5, none)
theorem tc_X2_copyFirst : Cond.code yX2_copyFirst cX2_copyFirst 5 none ∈ aTb := tm_4_21 (List.mem_of_getElem? (i := 5) rfl) rfl
abbrev mX2_pairOf : aM := (yX2_pairOf, cX2_pairOf, 2, (some .int))
theorem tc_X2_pairOf : Cond.code yX2_pairOf cX2_pairOf 2 (some .int) ∈ aTb := tm_4_18 (List.mem_of_getElem? (i := 0) rfl) rfl
abbrev mX2_search : aM := (yX2_search, cX2_search, 7, none)
theorem tc_X2_search : Cond.code yX2_search cX2_search 7 none ∈ aTb := tm_4_18 (List.mem_of_getElem? (i := 4) rfl) rfl
abbrev mX2_note : aM := (yX2_note, cX2_note, 6, none)
theorem tc_X2_note : Cond.code yX2_note cX2_note 6 none ∈ aTb := tm_4_19 (List.mem_of_getElem? (i := 6) rfl) rfl
abbrev mX2_namings : aM := (yX2_namings, cX2_namings, 4, (some .int))
theorem tc_X2_namings : Cond.code yX2_namings cX2_namings 4 (some .int) ∈ aTb := tm_4_19 (List.mem_of_getElem? (i := 2) rfl) rfl
abbrev mX2_turnOn : aM := (yX2_turnOn, cX2_turnOn, 5, (some .boolean))
theorem tc_X2_turnOn : Cond.code yX2_turnOn cX2_turnOn 5 (some .boolean) ∈ aTb := tm_4_20 (List.mem_of_getElem? (i := 3) rfl) rfl
abbrev mX3_init : aM := (yX3_init, cX3_init, 2, none)
theorem tc_X3_init : Cond.code yX3_init cX3_init 2 none ∈ aTb := tm_2_2 (List.mem_of_getElem? (i := 6) rfl) rfl
abbrev mX3_solve : aM := (yX3_solve, cX3_solve, 1, none)
theorem tc_X3_solve : Cond.code yX3_solve cX3_solve 1 none ∈ aTb := tm_5_5 (List.mem_of_getElem? (i := 4) rfl) rfl
abbrev mX3_countWays : aM := (yX3_countWays, cX3_countWays, 4, none)
theorem tc_X3_countWays : Cond.code yX3_countWays cX3_countWays 4 none ∈ aTb := tm_5_6 (List.mem_of_getElem? (i := 1) rfl) rfl
abbrev mX3_spreadUp : aM := (yX3_spreadUp, cX3_spreadUp, 4, none)
theorem tc_X3_spreadUp : Cond.code yX3_spreadUp cX3_spreadUp 4 none ∈ aTb := tm_5_6 (List.mem_of_getElem? (i := 7) rfl) rfl
abbrev mX3_findLeast : aM := (yX3_findLeast, cX3_findLeast, 6, none)
theorem tc_X3_findLeast : Cond.code yX3_findLeast cX3_findLeast 6 none ∈ aTb := tm_5_7 (List.mem_of_getElem? (i := 3) rfl) rfl
abbrev mX3_findOpen : aM := (yX3_findOpen, cX3_findOpen, 4, none)
theorem tc_X3_findOpen : Cond.code yX3_findOpen cX3_findOpen 4 none ∈ aTb := tm_5_8 (List.mem_of_getElem? (i := 3) rfl) rfl
abbrev mX3_spreadDown : aM := (yX3_spreadDown, cX3_spreadDown, 5, none)
theorem tc_X3_spreadDown : Cond.code yX3_spreadDown cX3_spreadDown 5 none ∈ aTb := tm_5_9 (List.mem_of_getElem? (i := 3) rfl) rfl
abbrev mX3_goesOn : aM := (yX3_goesOn, cX3_goesOn, 3, (some .boolean))
theorem tc_X3_goesOn : Cond.code yX3_goesOn cX3_goesOn 3 (some .boolean) ∈ aTb := tm_5_8 (List.mem_of_getElem? (i := 7) rfl) rfl
abbrev mX3_findStates : aM := (yX3_findStates, cX3_findStates, 5, none)
theorem tc_X3_findStates : Cond.code yX3_findStates cX3_findStates 5 none ∈ aTb := tm_5_9 (List.mem_of_getElem? (i := 7) rfl) rfl
abbrev mX4_init : aM := (yX4_init, cX4_init, 2, none)
theorem tc_X4_init : Cond.code yX4_init cX4_init 2 none ∈ aTb := tm_1_22 (List.mem_of_getElem? (i := 6) rfl) rfl
abbrev mX4_forgetTables : aM := (yX4_forgetTables, cX4_forgetTables, 1, none)
theorem tc_X4_forgetTables : Cond.code yX4_forgetTables cX4_forgetTables 1 none ∈ aTb := tm_2_19 (List.mem_of_getElem? (i := 1) rfl) rfl
abbrev mX4_oilOf : aM := (yX4_oilOf, cX4_oilOf, 2, (some .int))
theorem tc_X4_oilOf : Cond.code yX4_oilOf cX4_oilOf 2 (some .int) ∈ aTb := tm_4_24 (List.mem_of_getElem? (i := 3) rfl) rfl
abbrev mX4_lastingOf : aM := (yX4_lastingOf, cX4_lastingOf, 2, (some .int))
theorem tc_X4_lastingOf : Cond.code yX4_lastingOf cX4_lastingOf 2 (some .int) ∈ aTb := tm_4_10 (List.mem_of_getElem? (i := 5) rfl) rfl
abbrev mX4_lastingWithout : aM := (yX4_lastingWithout, cX4_lastingWithout, 2, (some .int))
theorem tc_X4_lastingWithout : Cond.code yX4_lastingWithout cX4_lastingWithout 2 (some .int) ∈ aTb := tm_4_16 (List.mem_of_getElem? (i := 2) rfl) rfl
abbrev mX4_meanPart : aM := (yX4_meanPart, cX4_meanPart, 9, (some .long))
theorem tc_X4_meanPart : Cond.code yX4_meanPart cX4_meanPart 9 (some .long) ∈ aTb := tm_4_11 (List.mem_of_getElem? (i := 6) rfl) rfl
abbrev mX4_choose : aM := (yX4_choose, cX4_choose, 4, (some .int))
theorem tc_X4_choose : Cond.code yX4_choose cX4_choose 4 (some .int) ∈ aTb := tm_4_7 (List.mem_of_getElem? (i := 2) rfl) rfl
abbrev mX4_chooseAll : aM := (yX4_chooseAll, cX4_chooseAll, 6, none)
theorem tc_X4_chooseAll : Cond.code yX4_chooseAll cX4_chooseAll 6 none ∈ aTb := tm_4_7 (List.mem_of_getElem? (i := 6) rfl) rfl
abbrev mX4_wouldLight : aM := (yX4_wouldLight, cX4_wouldLight, 5, (some .boolean))
theorem tc_X4_wouldLight : Cond.code yX4_wouldLight cX4_wouldLight 5 (some .boolean) ∈ aTb := tm_4_26 (List.mem_of_getElem? (i := 0) rfl) rfl
abbrev mX4_findFailing : aM := (yX4_findFailing, cX4_findFailing, 5, (some .int))
theorem tc_X4_findFailing : Cond.code yX4_findFailing cX4_findFailing 5 (some .int) ∈ aTb := tm_4_14 (List.mem_of_getElem? (i := 6) rfl) rfl
abbrev mX4_findSafe : aM := (yX4_findSafe, cX4_findSafe, 4, (some .int))
theorem tc_X4_findSafe : Cond.code yX4_findSafe cX4_findSafe 4 (some .int) ∈ aTb := tm_5_2 (List.mem_of_getElem? (i := 2) rfl) rfl
abbrev mX4_firstDoubt : aM := (yX4_firstDoubt, cX4_firstDoubt, 5, (some .int))
theorem tc_X4_firstDoubt : Cond.code yX4_firstDoubt cX4_firstDoubt 5 (some .int) ∈ aTb := tm_5_2 (List.mem_of_getElem? (i := 6) rfl) rfl
abbrev mX4_lastsBy : aM := (yX4_lastsBy, cX4_lastsBy, 2, (some .int))
theorem tc_X4_lastsBy : Cond.code yX4_lastsBy cX4_lastsBy 2 (some .int) ∈ aTb := tm_4_15 (List.mem_of_getElem? (i := 2) rfl) rfl
abbrev mX4_isBetter : aM := (yX4_isBetter, cX4_isBetter, 4, (some .boolean))
theorem tc_X4_isBetter : Cond.code yX4_isBetter cX4_isBetter 4 (some .boolean) ∈ aTb := tm_4_8 (List.mem_of_getElem? (i := 3) rfl) rfl
abbrev mX4_prepare : aM := (yX4_prepare, cX4_prepare, 2, none)
theorem tc_X4_prepare : Cond.code yX4_prepare cX4_prepare 2 none ∈ aTb := tm_4_1 (List.mem_of_getElem? (i := 2) rfl) rfl
abbrev mX4_fillOil : aM := (yX4_fillOil, cX4_fillOil, 4, none)
theorem tc_X4_fillOil : Cond.code yX4_fillOil cX4_fillOil 4 none ∈ aTb := tm_4_1 (List.mem_of_getElem? (i := 6) rfl) rfl
abbrev mX4_fillLasting : aM := (yX4_fillLasting, cX4_fillLasting, 1, none)
theorem tc_X4_fillLasting : Cond.code yX4_fillLasting cX4_fillLasting 1 none ∈ aTb := tm_4_2 (List.mem_of_getElem? (i := 2) rfl) rfl
abbrev mX4_fillMean : aM := (yX4_fillMean, cX4_fillMean, 2, none)
theorem tc_X4_fillMean : Cond.code yX4_fillMean cX4_fillMean 2 none ∈ aTb := tm_4_4 (List.mem_of_getElem? (i := 2) rfl) rfl
abbrev mX4_meanOf : aM := (yX4_meanOf, cX4_meanOf, 6, (some .long))
theorem tc_X4_meanOf : Cond.code yX4_meanOf cX4_meanOf 6 (some .long) ∈ aTb := tm_4_4 (List.mem_of_getElem? (i := 6) rfl) rfl
abbrev mX4_fillRichest : aM := (yX4_fillRichest, cX4_fillRichest, 5, none)
theorem tc_X4_fillRichest : Cond.code yX4_fillRichest cX4_fillRichest 5 none ∈ aTb := tm_4_5 (List.mem_of_getElem? (i := 2) rfl) rfl
abbrev mX4_commonDivisor : aM := (yX4_commonDivisor, cX4_commonDivisor, 7, (some .long))
theorem tc_X4_commonDivisor : Cond.code yX4_commonDivisor cX4_commonDivisor 7 (some .long) ∈ aTb := tm_4_12 (List.mem_of_getElem? (i := 1) rfl) rfl
abbrev mX5_init : aM := (yX5_init, cX5_init, 2, none)
theorem tc_X5_init : Cond.code yX5_init cX5_init 2 none ∈ aTb := tm_1_23 (List.mem_of_getElem? (i := 4) rfl) rfl
abbrev mX5_fill : aM := (yX5_fill, cX5_fill, 9, none)
theorem tc_X5_fill : Cond.code yX5_fill cX5_fill 9 none ∈ aTb := tm_4_2 (List.mem_of_getElem? (i := 7) rfl) rfl
abbrev mX5_fillBest : aM := (yX5_fillBest, cX5_fillBest, 7, none)
theorem tc_X5_fillBest : Cond.code yX5_fillBest cX5_fillBest 7 none ∈ aTb := tm_4_3 (List.mem_of_getElem? (i := 4) rfl) rfl
abbrev mX6_init : aM := (yX6_init, cX6_init, 4, none)
theorem tc_X6_init : Cond.code yX6_init cX6_init 4 none ∈ aTb := tm_3_23 (List.mem_of_getElem? (i := 2) rfl) rfl
abbrev mX7_init : aM := (yX7_init, cX7_init, 2, none)
theorem tc_X7_init : Cond.code yX7_init cX7_init 2 none ∈ aTb := tm_1_15 (List.mem_of_getElem? (i := 4) rfl) rfl
abbrev mX7_understand : aM := (yX7_understand, cX7_understand, 1, (some (.object "LitCoast$Law")))
theorem tc_X7_understand : Cond.code yX7_understand cX7_understand 1 (some (.object "LitCoast$Law")) ∈ aTb := tm_2_29 (List.mem_of_getElem? (i := 5) rfl) rfl
abbrev mX7_takeClauses : aM := (yX7_takeClauses, cX7_takeClauses, 2, (some .boolean))
theorem tc_X7_takeClauses : Cond.code yX7_takeClauses cX7_takeClauses 2 (some .boolean) ∈ aTb := tm_3_13 (List.mem_of_getElem? (i := 0) rfl) rfl
abbrev mX7_takeClause : aM := (yX7_takeClause, cX7_takeClause, 1, (some .boolean))
theorem tc_X7_takeClause : Cond.code yX7_takeClause cX7_takeClause 1 (some .boolean) ∈ aTb := tm_3_13 (List.mem_of_getElem? (i := 4) rfl) rfl
abbrev mX7_takeTest : aM := (yX7_takeTest, cX7_takeTest, 4, (some .boolean))
theorem tc_X7_takeTest : Cond.code yX7_takeTest cX7_takeTest 4 (some .boolean) ∈ aTb := tm_3_17 (List.mem_of_getElem? (i := 7) rfl) rfl
abbrev mX7_takeBoth : aM := (yX7_takeBoth, cX7_takeBoth, 4, (some .boolean))
theorem tc_X7_takeBoth : Cond.code yX7_takeBoth cX7_takeBoth 4 (some .boolean) ∈ aTb := tm_3_18 (List.mem_of_getElem? (i := 3) rfl) rfl
abbrev mX7_takePlain : aM := (yX7_takePlain, cX7_takePlain, 4, (some .boolean))
theorem tc_X7_takePlain : Cond.code yX7_takePlain cX7_takePlain 4 (some .boolean) ∈ aTb := tm_3_18 (List.mem_of_getElem? (i := 7) rfl) rfl
abbrev mX7_takeBracketed : aM := (yX7_takeBracketed, cX7_takeBracketed, 2, (some .boolean))
theorem tc_X7_takeBracketed : Cond.code yX7_takeBracketed cX7_takeBracketed 2 (some .boolean) ∈ aTb := tm_3_19 (List.mem_of_getElem? (i := 3) rfl) rfl
abbrev mX7_takeComparison : aM := (yX7_takeComparison, cX7_takeComparison, 3, (some .boolean))
theorem tc_X7_takeComparison : Cond.code yX7_takeComparison cX7_takeComparison 3 (some .boolean) ∈ aTb := tm_3_19 (List.mem_of_getElem? (i := 7) rfl) rfl
abbrev mX7_takeSum : aM := (yX7_takeSum, cX7_takeSum, 4, (some .boolean))
theorem tc_X7_takeSum : Cond.code yX7_takeSum cX7_takeSum 4 (some .boolean) ∈ aTb := tm_3_15 (List.mem_of_getElem? (i := 0) rfl) rfl
abbrev mX7_takeTerm : aM := (yX7_takeTerm, cX7_takeTerm, 4, (some .boolean))
theorem tc_X7_takeTerm : Cond.code yX7_takeTerm cX7_takeTerm 4 (some .boolean) ∈ aTb := tm_3_15 (List.mem_of_getElem? (i := 4) rfl) rfl
abbrev mX7_takePart : aM := (yX7_takePart, cX7_takePart, 3, (some .boolean))
theorem tc_X7_takePart : Cond.code yX7_takePart cX7_takePart 3 (some .boolean) ∈ aTb := tm_3_16 (List.mem_of_getElem? (i := 0) rfl) rfl
abbrev mX7_takeSign : aM := (yX7_takeSign, cX7_takeSign, 2, (some .boolean))
theorem tc_X7_takeSign : Cond.code yX7_takeSign cX7_takeSign 2 (some .boolean) ∈ aTb := tm_3_16 (List.mem_of_getElem? (i := 4) rfl) rfl
abbrev mX7_fail : aM := (yX7_fail, cX7_fail, 1, (some .boolean))
theorem tc_X7_fail : Cond.code yX7_fail cX7_fail 1 (some .boolean) ∈ aTb := tm_3_14 (List.mem_of_getElem? (i := 0) rfl) rfl
abbrev mX7_step : aM := (yX7_step, cX7_step, 2, none)
theorem tc_X7_step : Cond.code yX7_step cX7_step 2 none ∈ aTb := tm_3_17 (List.mem_of_getElem? (i := 0) rfl) rfl
abbrev mX7_openSkip : aM := (yX7_openSkip, cX7_openSkip, 2, (some .int))
theorem tc_X7_openSkip : Cond.code yX7_openSkip cX7_openSkip 2 (some .int) ∈ aTb := tm_3_20 (List.mem_of_getElem? (i := 3) rfl) rfl
abbrev mX7_closeSkip : aM := (yX7_closeSkip, cX7_closeSkip, 2, none)
theorem tc_X7_closeSkip : Cond.code yX7_closeSkip cX7_closeSkip 2 none ∈ aTb := tm_3_20 (List.mem_of_getElem? (i := 7) rfl) rfl
abbrev mX7_stepOf : aM := (yX7_stepOf, cX7_stepOf, 1, (some .int))
theorem tc_X7_stepOf : Cond.code yX7_stepOf cX7_stepOf 1 (some .int) ∈ aTb := tm_3_17 (List.mem_of_getElem? (i := 3) rfl) rfl
abbrev mX7_advance : aM := (yX7_advance, cX7_advance, 1, none)
theorem tc_X7_advance : Cond.code yX7_advance cX7_advance 1 none ∈ aTb := tm_3_14 (List.mem_of_getElem? (i := 4) rfl) rfl
abbrev mX7_findTokens : aM := (yX7_findTokens, cX7_findTokens, 3, none)
theorem tc_X7_findTokens : Cond.code yX7_findTokens cX7_findTokens 3 none ∈ aTb := tm_3_0 (List.mem_of_getElem? (i := 1) rfl) rfl
abbrev mX7_skipBlanks : aM := (yX7_skipBlanks, cX7_skipBlanks, 3, (some .int))
theorem tc_X7_skipBlanks : Cond.code yX7_skipBlanks cX7_skipBlanks 3 (some .int) ∈ aTb := tm_3_0 (List.mem_of_getElem? (i := 5) rfl) rfl
abbrev mX7_stopOf : aM := (yX7_stopOf, cX7_stopOf, 5, (some .int))
theorem tc_X7_stopOf : Cond.code yX7_stopOf cX7_stopOf 5 (some .int) ∈ aTb := tm_3_1 (List.mem_of_getElem? (i := 2) rfl) rfl
abbrev mX7_kindOf : aM := (yX7_kindOf, cX7_kindOf, 4, (some .int))
theorem tc_X7_kindOf : Cond.code yX7_kindOf cX7_kindOf 4 (some .int) ∈ aTb := tm_3_2 (List.mem_of_getElem? (i := 4) rfl) rfl
abbrev mX7_numberAt : aM := (yX7_numberAt, cX7_numberAt, 5, (some .int))
theorem tc_X7_numberAt : Cond.code yX7_numberAt cX7_numberAt 5 (some .int) ∈ aTb := tm_3_12 (List.mem_of_getElem? (i := 1) rfl) rfl
abbrev mX7_isLetter : aM := (yX7_isLetter, cX7_isLetter, 1, (some .boolean))
theorem tc_X7_isLetter : Cond.code yX7_isLetter cX7_isLetter 1 (some .boolean) ∈ aTb := tm_3_1 (List.mem_of_getElem? (i := 5) rfl) rfl
abbrev mX7_isDigit : aM := (yX7_isDigit, cX7_isDigit, 1, (some .boolean))
theorem tc_X7_isDigit : Cond.code yX7_isDigit cX7_isDigit 1 (some .boolean) ∈ aTb := tm_3_2 (List.mem_of_getElem? (i := 0) rfl) rfl
abbrev mX7_wordKind : aM := (yX7_wordKind, cX7_wordKind, 3, (some .int))
theorem tc_X7_wordKind : Cond.code yX7_wordKind cX7_wordKind 3 (some .int) ∈ aTb := tm_3_3 (List.mem_of_getElem? (i := 0) rfl) rfl
abbrev mX7_partKind : aM := (yX7_partKind, cX7_partKind, 3, (some .int))
theorem tc_X7_partKind : Cond.code yX7_partKind cX7_partKind 3 (some .int) ∈ aTb := tm_3_10 (List.mem_of_getElem? (i := 5) rfl) rfl
abbrev mX8_init : aM := (yX8_init, cX8_init, 2, none)
theorem tc_X8_init : Cond.code yX8_init cX8_init 2 none ∈ aTb := tm_2_1 (List.mem_of_getElem? (i := 1) rfl) rfl
abbrev mX8_countRows : aM := (yX8_countRows, cX8_countRows, 7, (some .long))
theorem tc_X8_countRows : Cond.code yX8_countRows cX8_countRows 7 (some .long) ∈ aTb := tm_4_27 (List.mem_of_getElem? (i := 6) rfl) rfl
abbrev mX8_isMet : aM := (yX8_isMet, cX8_isMet, 4, (some .boolean))
theorem tc_X8_isMet : Cond.code yX8_isMet cX8_isMet 4 (some .boolean) ∈ aTb := tm_4_29 (List.mem_of_getElem? (i := 1) rfl) rfl
abbrev mX8_spread : aM := (yX8_spread, cX8_spread, 10, none)
theorem tc_X8_spread : Cond.code yX8_spread cX8_spread 10 none ∈ aTb := tm_4_29 (List.mem_of_getElem? (i := 5) rfl) rfl
abbrev mX9_init : aM := (yX9_init, cX9_init, 1, none)
theorem tc_X9_init : Cond.code yX9_init cX9_init 1 none ∈ aTb := tm_1_13 (List.mem_of_getElem? (i := 5) rfl) rfl
abbrev mX9_hasRoom : aM := (yX9_hasRoom, cX9_hasRoom, 1, (some .boolean))
theorem tc_X9_hasRoom : Cond.code yX9_hasRoom cX9_hasRoom 1 (some .boolean) ∈ aTb := tm_2_25 (List.mem_of_getElem? (i := 1) rfl) rfl
abbrev mX9_put : aM := (yX9_put, cX9_put, 3, none)
theorem tc_X9_put : Cond.code yX9_put cX9_put 3 none ∈ aTb := tm_2_25 (List.mem_of_getElem? (i := 5) rfl) rfl
abbrev mX9_byteAt : aM := (yX9_byteAt, cX9_byteAt, 2, (some .int))
theorem tc_X9_byteAt : Cond.code yX9_byteAt cX9_byteAt 2 (some .int) ∈ aTb := tm_2_27 (List.mem_of_getElem? (i := 2) rfl) rfl
abbrev mX9_spells : aM := (yX9_spells, cX9_spells, 5, (some .boolean))
theorem tc_X9_spells : Cond.code yX9_spells cX9_spells 5 (some .boolean) ∈ aTb := tm_3_3 (List.mem_of_getElem? (i := 5) rfl) rfl
abbrev mX10_init : aM := (yX10_init, cX10_init, 1, none)
theorem tc_X10_init : Cond.code yX10_init cX10_init 1 none ∈ aTb := tm_1_3 (List.mem_of_getElem? (i := 1) rfl) rfl
abbrev mX10_lamps : aM := (yX10_lamps, cX10_lamps, 3, (some .int))
theorem tc_X10_lamps : Cond.code yX10_lamps cX10_lamps 3 (some .int) ∈ aTb := tm_2_17 (List.mem_of_getElem? (i := 0) rfl) rfl
abbrev mX10_news : aM := (yX10_news, cX10_news, 3, (some .int))
theorem tc_X10_news : Cond.code yX10_news cX10_news 3 (some .int) ∈ aTb := tm_2_20 (List.mem_of_getElem? (i := 1) rfl) rfl
abbrev mX10_oil : aM := (yX10_oil, cX10_oil, 4, (some .int))
theorem tc_X10_oil : Cond.code yX10_oil cX10_oil 4 (some .int) ∈ aTb := tm_2_20 (List.mem_of_getElem? (i := 5) rfl) rfl
abbrev mX10_broken : aM := (yX10_broken, cX10_broken, 4, (some .int))
theorem tc_X10_broken : Cond.code yX10_broken cX10_broken 4 (some .int) ∈ aTb := tm_2_21 (List.mem_of_getElem? (i := 5) rfl) rfl
abbrev mX10_read : aM := (yX10_read, cX10_read, 4, (some .int))
theorem tc_X10_read : Cond.code yX10_read cX10_read 4 (some .int) ∈ aTb := tm_2_22 (List.mem_of_getElem? (i := 1) rfl) rfl
abbrev mX10_of : aM := (yX10_of, cX10_of, 2, (some .int))
theorem tc_X10_of : Cond.code yX10_of cX10_of 2 (some .int) ∈ aTb := tm_2_24 (List.mem_of_getElem? (i := 1) rfl) rfl
abbrev mX10_feed : aM := (yX10_feed, cX10_feed, 6, (some .int))
theorem tc_X10_feed : Cond.code yX10_feed cX10_feed 6 (some .int) ∈ aTb := tm_2_24 (List.mem_of_getElem? (i := 5) rfl) rfl
abbrev mX10_end : aM := (yX10_end, cX10_end, 2, (some .int))
theorem tc_X10_end : Cond.code yX10_end cX10_end 2 (some .int) ∈ aTb := tm_2_26 (List.mem_of_getElem? (i := 1) rfl) rfl
abbrev mX10_row : aM := (yX10_row, cX10_row, 4, (some .int))
theorem tc_X10_row : Cond.code yX10_row cX10_row 4 (some .int) ∈ aTb := tm_2_26 (List.mem_of_getElem? (i := 5) rfl) rfl
abbrev mX10_torn : aM := (yX10_torn, cX10_torn, 1, (some .int))
theorem tc_X10_torn : Cond.code yX10_torn cX10_torn 1 (some .int) ∈ aTb := tm_2_28 (List.mem_of_getElem? (i := 5) rfl) rfl
abbrev mX10_law : aM := (yX10_law, cX10_law, 3, (some .int))
theorem tc_X10_law : Cond.code yX10_law cX10_law 3 (some .int) ∈ aTb := tm_2_29 (List.mem_of_getElem? (i := 1) rfl) rfl
abbrev mX10_fault : aM := (yX10_fault, cX10_fault, 1, (some .int))
theorem tc_X10_fault : Cond.code yX10_fault cX10_fault 1 (some .int) ∈ aTb := tm_3_25 (List.mem_of_getElem? (i := 5) rfl) rfl
abbrev mX10_learn : aM := (yX10_learn, cX10_learn, 5, (some .int))
theorem tc_X10_learn : Cond.code yX10_learn cX10_learn 5 (some .int) ∈ aTb := tm_3_26 (List.mem_of_getElem? (i := 1) rfl) rfl
abbrev mX10_next : aM := (yX10_next, cX10_next, 4, (some .int))
theorem tc_X10_next : Cond.code yX10_next cX10_next 4 (some .int) ∈ aTb := tm_4_0 (List.mem_of_getElem? (i := 3) rfl) rfl
abbrev mX10_ways : aM := (yX10_ways, cX10_ways, 3, (some .int))
theorem tc_X10_ways : Cond.code yX10_ways cX10_ways 3 (some .int) ∈ aTb := tm_4_9 (List.mem_of_getElem? (i := 0) rfl) rfl
abbrev mX10_lasts : aM := (yX10_lasts, cX10_lasts, 2, (some .int))
theorem tc_X10_lasts : Cond.code yX10_lasts cX10_lasts 2 (some .int) ∈ aTb := tm_4_10 (List.mem_of_getElem? (i := 1) rfl) rfl
abbrev mX10_mean : aM := (yX10_mean, cX10_mean, 3, (some .long))
theorem tc_X10_mean : Cond.code yX10_mean cX10_mean 3 (some .long) ∈ aTb := tm_4_11 (List.mem_of_getElem? (i := 1) rfl) rfl
abbrev mX10_reached : aM := (yX10_reached, cX10_reached, 2, (some .int))
theorem tc_X10_reached : Cond.code yX10_reached cX10_reached 2 (some .int) ∈ aTb := tm_4_12 (List.mem_of_getElem? (i := 5) rfl) rfl
abbrev mX10_failing : aM := (yX10_failing, cX10_failing, 3, (some .int))
theorem tc_X10_failing : Cond.code yX10_failing cX10_failing 3 (some .int) ∈ aTb := tm_4_14 (List.mem_of_getElem? (i := 2) rfl) rfl
abbrev mX10_hurts : aM := (yX10_hurts, cX10_hurts, 2, (some .int))
theorem tc_X10_hurts : Cond.code yX10_hurts cX10_hurts 2 (some .int) ∈ aTb := tm_4_15 (List.mem_of_getElem? (i := 6) rfl) rfl
abbrev mX10_codes : aM := (yX10_codes, cX10_codes, 4, (some .int))
theorem tc_X10_codes : Cond.code yX10_codes cX10_codes 4 (some .int) ∈ aTb := tm_4_16 (List.mem_of_getElem? (i := 6) rfl) rfl
abbrev mX10_make : aM := (yX10_make, cX10_make, 4, (some .int))
theorem tc_X10_make : Cond.code yX10_make cX10_make 4 (some .int) ∈ aTb := tm_4_21 (List.mem_of_getElem? (i := 1) rfl) rfl
abbrev mX10_send : aM := (yX10_send, cX10_send, 5, (some .int))
theorem tc_X10_send : Cond.code yX10_send cX10_send 5 (some .int) ∈ aTb := tm_4_22 (List.mem_of_getElem? (i := 2) rfl) rfl
abbrev mX10_dawn : aM := (yX10_dawn, cX10_dawn, 2, (some .int))
theorem tc_X10_dawn : Cond.code yX10_dawn cX10_dawn 2 (some .int) ∈ aTb := tm_4_22 (List.mem_of_getElem? (i := 7) rfl) rfl
abbrev mX10_log : aM := (yX10_log, cX10_log, 2, (some .int))
theorem tc_X10_log : Cond.code yX10_log cX10_log 2 (some .int) ∈ aTb := tm_4_23 (List.mem_of_getElem? (i := 3) rfl) rfl
abbrev mX10_burnt : aM := (yX10_burnt, cX10_burnt, 1, (some .int))
theorem tc_X10_burnt : Cond.code yX10_burnt cX10_burnt 1 (some .int) ∈ aTb := tm_4_23 (List.mem_of_getElem? (i := 7) rfl) rfl
abbrev mX10_trail : aM := (yX10_trail, cX10_trail, 2, (some .int))
theorem tc_X10_trail : Cond.code yX10_trail cX10_trail 2 (some .int) ∈ aTb := tm_4_24 (List.mem_of_getElem? (i := 7) rfl) rfl
abbrev mX10_judge : aM := (yX10_judge, cX10_judge, 5, (some .int))
theorem tc_X10_judge : Cond.code yX10_judge cX10_judge 5 (some .int) ∈ aTb := tm_4_25 (List.mem_of_getElem? (i := 4) rfl) rfl
abbrev mX10_rows : aM := (yX10_rows, cX10_rows, 4, (some .long))
theorem tc_X10_rows : Cond.code yX10_rows cX10_rows 4 (some .long) ∈ aTb := tm_4_26 (List.mem_of_getElem? (i := 6) rfl) rfl
abbrev mX10_could : aM := (yX10_could, cX10_could, 6, (some .long))
theorem tc_X10_could : Cond.code yX10_could cX10_could 6 (some .long) ∈ aTb := tm_5_0 (List.mem_of_getElem? (i := 2) rfl) rfl
abbrev mX10_maybe : aM := (yX10_maybe, cX10_maybe, 6, (some .int))
theorem tc_X10_maybe : Cond.code yX10_maybe cX10_maybe 6 (some .int) ∈ aTb := tm_5_0 (List.mem_of_getElem? (i := 6) rfl) rfl
abbrev mX10_safe : aM := (yX10_safe, cX10_safe, 1, (some .int))
theorem tc_X10_safe : Cond.code yX10_safe cX10_safe 1 (some .int) ∈ aTb := tm_5_1 (List.mem_of_getElem? (i := 6) rfl) rfl
abbrev mX10_spy : aM := (yX10_spy, cX10_spy, 5, (some .int))
theorem tc_X10_spy : Cond.code yX10_spy cX10_spy 5 (some .int) ∈ aTb := tm_5_3 (List.mem_of_getElem? (i := 4) rfl) rfl
abbrev mX10_want : aM := (yX10_want, cX10_want, 2, (some .int))
theorem tc_X10_want : Cond.code yX10_want cX10_want 2 (some .int) ∈ aTb := tm_5_4 (List.mem_of_getElem? (i := 0) rfl) rfl
abbrev mX10_unwant : aM := (yX10_unwant, cX10_unwant, 2, (some .int))
theorem tc_X10_unwant : Cond.code yX10_unwant cX10_unwant 2 (some .int) ∈ aTb := tm_5_4 (List.mem_of_getElem? (i := 4) rfl) rfl
abbrev mX10_cheap : aM := (yX10_cheap, cX10_cheap, 2, (some .int))
theorem tc_X10_cheap : Cond.code yX10_cheap cX10_cheap 2 (some .int) ∈ aTb := tm_5_5 (List.mem_of_getElem? (i := 0) rfl) rfl
abbrev mX10_plan : aM := (yX10_plan, cX10_plan, 2, (some .int))
theorem tc_X10_plan : Cond.code yX10_plan cX10_plan 2 (some .int) ∈ aTb := tm_5_10 (List.mem_of_getElem? (i := 4) rfl) rfl
abbrev mX10_night : aM := (yX10_night, cX10_night, 4, (some .int))
theorem tc_X10_night : Cond.code yX10_night cX10_night 4 (some .int) ∈ aTb := tm_5_11 (List.mem_of_getElem? (i := 0) rfl) rfl
abbrev mX10_drawn : aM := (yX10_drawn, cX10_drawn, 2, (some .int))
theorem tc_X10_drawn : Cond.code yX10_drawn cX10_drawn 2 (some .int) ∈ aTb := tm_5_12 (List.mem_of_getElem? (i := 4) rfl) rfl
abbrev mX10_image : aM := (yX10_image, cX10_image, 3, (some .int))
theorem tc_X10_image : Cond.code yX10_image cX10_image 3 (some .int) ∈ aTb := tm_5_13 (List.mem_of_getElem? (i := 0) rfl) rfl
abbrev mX10_back : aM := (yX10_back, cX10_back, 3, (some .int))
theorem tc_X10_back : Cond.code yX10_back cX10_back 3 (some .int) ∈ aTb := tm_5_14 (List.mem_of_getElem? (i := 1) rfl) rfl
abbrev mX10_count : aM := (yX10_count, cX10_count, 2, (some .int))
theorem tc_X10_count : Cond.code yX10_count cX10_count 2 (some .int) ∈ aTb := tm_5_14 (List.mem_of_getElem? (i := 5) rfl) rfl
abbrev mX10_status : aM := (yX10_status, cX10_status, 1, (some .int))
theorem tc_X10_status : Cond.code yX10_status cX10_status 1 (some .int) ∈ aTb := tm_5_15 (List.mem_of_getElem? (i := 1) rfl) rfl
abbrev mX10_refuse : aM := (yX10_refuse, cX10_refuse, 2, (some .int))
theorem tc_X10_refuse : Cond.code yX10_refuse cX10_refuse 2 (some .int) ∈ aTb := tm_2_17 (List.mem_of_getElem? (i := 4) rfl) rfl
abbrev mX10_accept : aM := (yX10_accept, cX10_accept, 2, (some .int))
theorem tc_X10_accept : Cond.code yX10_accept cX10_accept 2 (some .int) ∈ aTb := tm_2_19 (List.mem_of_getElem? (i := 5) rfl) rfl
abbrev mX10_codeChanged : aM := (yX10_codeChanged, cX10_codeChanged, 1, none)
theorem tc_X10_codeChanged : Cond.code yX10_codeChanged cX10_codeChanged 1 none ∈ aTb := tm_2_18 (List.mem_of_getElem? (i := 5) rfl) rfl
abbrev mX10_isManner : aM := (yX10_isManner, cX10_isManner, 1, (some .boolean))
theorem tc_X10_isManner : Cond.code yX10_isManner cX10_isManner 1 (some .boolean) ∈ aTb := tm_4_0 (List.mem_of_getElem? (i := 6) rfl) rfl
abbrev mX10_isRowTo : aM := (yX10_isRowTo, cX10_isRowTo, 4, (some .boolean))
theorem tc_X10_isRowTo : Cond.code yX10_isRowTo cX10_isRowTo 4 (some .boolean) ∈ aTb := tm_4_27 (List.mem_of_getElem? (i := 2) rfl) rfl
abbrev mX10_drawNight : aM := (yX10_drawNight, cX10_drawNight, 10, none)
theorem tc_X10_drawNight : Cond.code yX10_drawNight cX10_drawNight 10 none ∈ aTb := tm_5_11 (List.mem_of_getElem? (i := 5) rfl) rfl
abbrev mX11_lies : aM := (yX11_lies, cX11_lies, 3, (some .boolean))
theorem tc_X11_lies : Cond.code yX11_lies cX11_lies 3 (some .boolean) ∈ aTb := tm_6_3 (List.mem_of_getElem? (i := 1) rfl) rfl
abbrev mX11_refuses : aM := (yX11_refuses, cX11_refuses, 2, (some .int))
theorem tc_X11_refuses : Cond.code yX11_refuses cX11_refuses 2 (some .int) ∈ aTb := tm_6_3 (List.mem_of_getElem? (i := 5) rfl) rfl
abbrev mX11_good : aM := (yX11_good, cX11_good, 2, (some .int))
theorem tc_X11_good : Cond.code yX11_good cX11_good 2 (some .int) ∈ aTb := tm_6_4 (List.mem_of_getElem? (i := 1) rfl) rfl
abbrev mX11_ones : aM := (yX11_ones, cX11_ones, 3, (some .int))
theorem tc_X11_ones : Cond.code yX11_ones cX11_ones 3 (some .int) ∈ aTb := tm_6_24 (List.mem_of_getElem? (i := 1) rfl) rfl
abbrev mX11_greater : aM := (yX11_greater, cX11_greater, 2, (some .int))
theorem tc_X11_greater : Cond.code yX11_greater cX11_greater 2 (some .int) ∈ aTb := tm_6_11 (List.mem_of_getElem? (i := 0) rfl) rfl
abbrev mX11_init : aM := (yX11_init, cX11_init, 2, none)
theorem tc_X11_init : Cond.code yX11_init cX11_init 2 none ∈ aTb := tm_5_15 (List.mem_of_getElem? (i := 6) rfl) rfl
abbrev mX11_empties : aM := (yX11_empties, cX11_empties, 2, none)
theorem tc_X11_empties : Cond.code yX11_empties cX11_empties 2 none ∈ aTb := tm_5_16 (List.mem_of_getElem? (i := 3) rfl) rfl
abbrev mX11_image : aM := (yX11_image, cX11_image, 3, (some .int))
theorem tc_X11_image : Cond.code yX11_image cX11_image 3 (some .int) ∈ aTb := tm_6_2 (List.mem_of_getElem? (i := 6) rfl) rfl
abbrev mX11_back : aM := (yX11_back, cX11_back, 3, (some .int))
theorem tc_X11_back : Cond.code yX11_back cX11_back 3 (some .int) ∈ aTb := tm_6_4 (List.mem_of_getElem? (i := 5) rfl) rfl
abbrev mX11_states : aM := (yX11_states, cX11_states, 1, (some .int))
theorem tc_X11_states : Cond.code yX11_states cX11_states 1 (some .int) ∈ aTb := tm_6_8 (List.mem_of_getElem? (i := 5) rfl) rfl
abbrev mX11_isState : aM := (yX11_isState, cX11_isState, 2, (some .boolean))
theorem tc_X11_isState : Cond.code yX11_isState cX11_isState 2 (some .boolean) ∈ aTb := tm_6_8 (List.mem_of_getElem? (i := 1) rfl) rfl
abbrev mX11_isNews : aM := (yX11_isNews, cX11_isNews, 2, (some .boolean))
theorem tc_X11_isNews : Cond.code yX11_isNews cX11_isNews 2 (some .boolean) ∈ aTb := tm_6_9 (List.mem_of_getElem? (i := 1) rfl) rfl
abbrev mX11_isLamp : aM := (yX11_isLamp, cX11_isLamp, 2, (some .boolean))
theorem tc_X11_isLamp : Cond.code yX11_isLamp cX11_isLamp 2 (some .boolean) ∈ aTb := tm_6_6 (List.mem_of_getElem? (i := 5) rfl) rfl
abbrev mX11_isManner : aM := (yX11_isManner, cX11_isManner, 1, (some .boolean))
theorem tc_X11_isManner : Cond.code yX11_isManner cX11_isManner 1 (some .boolean) ∈ aTb := tm_7_6 (List.mem_of_getElem? (i := 3) rfl) rfl
abbrev mX11_readOf : aM := (yX11_readOf, cX11_readOf, 2, (some .int))
theorem tc_X11_readOf : Cond.code yX11_readOf cX11_readOf 2 (some .int) ∈ aTb := tm_6_9 (List.mem_of_getElem? (i := 5) rfl) rfl
abbrev mX11_lamps : aM := (yX11_lamps, cX11_lamps, 4, (some .int))
theorem tc_X11_lamps : Cond.code yX11_lamps cX11_lamps 4 (some .int) ∈ aTb := tm_6_5 (List.mem_of_getElem? (i := 1) rfl) rfl
abbrev mX11_news : aM := (yX11_news, cX11_news, 3, (some .int))
theorem tc_X11_news : Cond.code yX11_news cX11_news 3 (some .int) ∈ aTb := tm_6_5 (List.mem_of_getElem? (i := 5) rfl) rfl
abbrev mX11_oil : aM := (yX11_oil, cX11_oil, 4, (some .int))
theorem tc_X11_oil : Cond.code yX11_oil cX11_oil 4 (some .int) ∈ aTb := tm_6_6 (List.mem_of_getElem? (i := 1) rfl) rfl
abbrev mX11_broken : aM := (yX11_broken, cX11_broken, 4, (some .int))
theorem tc_X11_broken : Cond.code yX11_broken cX11_broken 4 (some .int) ∈ aTb := tm_6_7 (List.mem_of_getElem? (i := 1) rfl) rfl
abbrev mX11_read : aM := (yX11_read, cX11_read, 4, (some .int))
theorem tc_X11_read : Cond.code yX11_read cX11_read 4 (some .int) ∈ aTb := tm_6_7 (List.mem_of_getElem? (i := 5) rfl) rfl
abbrev mX11_of : aM := (yX11_of, cX11_of, 2, (some .int))
theorem tc_X11_of : Cond.code yX11_of cX11_of 2 (some .int) ∈ aTb := tm_6_10 (List.mem_of_getElem? (i := 1) rfl) rfl
abbrev mX11_readMany : aM := (yX11_readMany, cX11_readMany, 3, (some .int))
theorem tc_X11_readMany : Cond.code yX11_readMany cX11_readMany 3 (some .int) ∈ aTb := tm_6_11 (List.mem_of_getElem? (i := 4) rfl) rfl
abbrev mX11_row : aM := (yX11_row, cX11_row, 3, (some .int))
theorem tc_X11_row : Cond.code yX11_row cX11_row 3 (some .int) ∈ aTb := tm_6_10 (List.mem_of_getElem? (i := 5) rfl) rfl
abbrev mX11_torn : aM := (yX11_torn, cX11_torn, 1, (some .int))
theorem tc_X11_torn : Cond.code yX11_torn cX11_torn 1 (some .int) ∈ aTb := tm_6_12 (List.mem_of_getElem? (i := 0) rfl) rfl
abbrev mX11_feed : aM := (yX11_feed, cX11_feed, 7, (some .int))
theorem tc_X11_feed : Cond.code yX11_feed cX11_feed 7 (some .int) ∈ aTb := tm_6_12 (List.mem_of_getElem? (i := 4) rfl) rfl
abbrev mX11_end : aM := (yX11_end, cX11_end, 2, (some .int))
theorem tc_X11_end : Cond.code yX11_end cX11_end 2 (some .int) ∈ aTb := tm_6_13 (List.mem_of_getElem? (i := 0) rfl) rfl
abbrev mX11_isSmall : aM := (yX11_isSmall, cX11_isSmall, 1, (some .boolean))
theorem tc_X11_isSmall : Cond.code yX11_isSmall cX11_isSmall 1 (some .boolean) ∈ aTb := tm_6_14 (List.mem_of_getElem? (i := 7) rfl) rfl
abbrev mX11_isDigit : aM := (yX11_isDigit, cX11_isDigit, 1, (some .boolean))
theorem tc_X11_isDigit : Cond.code yX11_isDigit cX11_isDigit 1 (some .boolean) ∈ aTb := tm_6_15 (List.mem_of_getElem? (i := 2) rfl) rfl
abbrev mX11_wordOf : aM := (yX11_wordOf, cX11_wordOf, 8, (some .int))
theorem tc_X11_wordOf : Cond.code yX11_wordOf cX11_wordOf 8 (some .int) ∈ aTb := tm_6_15 (List.mem_of_getElem? (i := 6) rfl) rfl
abbrev mX11_splits : aM := (yX11_splits, cX11_splits, 6, none)
theorem tc_X11_splits : Cond.code yX11_splits cX11_splits 6 none ∈ aTb := tm_6_14 (List.mem_of_getElem? (i := 4) rfl) rfl
abbrev mX11_fine : aM := (yX11_fine, cX11_fine, 1, (some .boolean))
theorem tc_X11_fine : Cond.code yX11_fine cX11_fine 1 (some .boolean) ∈ aTb := tm_6_17 (List.mem_of_getElem? (i := 7) rfl) rfl
abbrev mX11_faults : aM := (yX11_faults, cX11_faults, 1, none)
theorem tc_X11_faults : Cond.code yX11_faults cX11_faults 1 none ∈ aTb := tm_6_18 (List.mem_of_getElem? (i := 3) rfl) rfl
abbrev mX11_takes0 : aM := (yX11_takes0, cX11_takes0, 3, (some .boolean))
theorem tc_X11_takes0 : Cond.code yX11_takes0 cX11_takes0 3 (some .boolean) ∈ aTb := tm_6_17 (List.mem_of_getElem? (i := 3) rfl) rfl
abbrev mX11_must : aM := (yX11_must, cX11_must, 2, none)
theorem tc_X11_must : Cond.code yX11_must cX11_must 2 none ∈ aTb := tm_6_16 (List.mem_of_getElem? (i := 7) rfl) rfl
abbrev mX11_leaf : aM := (yX11_leaf, cX11_leaf, 1, none)
theorem tc_X11_leaf : Cond.code yX11_leaf cX11_leaf 1 none ∈ aTb := tm_6_20 (List.mem_of_getElem? (i := 6) rfl) rfl
abbrev mX11_sign : aM := (yX11_sign, cX11_sign, 1, (some .int))
theorem tc_X11_sign : Cond.code yX11_sign cX11_sign 1 (some .int) ∈ aTb := tm_6_20 (List.mem_of_getElem? (i := 2) rfl) rfl
abbrev mX11_readClause : aM := (yX11_readClause, cX11_readClause, 1, none)
theorem tc_X11_readClause : Cond.code yX11_readClause cX11_readClause 1 none ∈ aTb := tm_6_16 (List.mem_of_getElem? (i := 3) rfl) rfl
abbrev mX11_readTest : aM := (yX11_readTest, cX11_readTest, 2, none)
theorem tc_X11_readTest : Cond.code yX11_readTest cX11_readTest 2 none ∈ aTb := tm_6_21 (List.mem_of_getElem? (i := 2) rfl) rfl
abbrev mX11_readBoth : aM := (yX11_readBoth, cX11_readBoth, 2, none)
theorem tc_X11_readBoth : Cond.code yX11_readBoth cX11_readBoth 2 none ∈ aTb := tm_6_21 (List.mem_of_getElem? (i := 6) rfl) rfl
abbrev mX11_readPlain : aM := (yX11_readPlain, cX11_readPlain, 4, none)
theorem tc_X11_readPlain : Cond.code yX11_readPlain cX11_readPlain 4 none ∈ aTb := tm_6_22 (List.mem_of_getElem? (i := 2) rfl) rfl
abbrev mX11_readSum : aM := (yX11_readSum, cX11_readSum, 2, none)
theorem tc_X11_readSum : Cond.code yX11_readSum cX11_readSum 2 none ∈ aTb := tm_6_18 (List.mem_of_getElem? (i := 7) rfl) rfl
abbrev mX11_readTerm : aM := (yX11_readTerm, cX11_readTerm, 2, none)
theorem tc_X11_readTerm : Cond.code yX11_readTerm cX11_readTerm 2 none ∈ aTb := tm_6_19 (List.mem_of_getElem? (i := 3) rfl) rfl
abbrev mX11_readPart : aM := (yX11_readPart, cX11_readPart, 3, none)
theorem tc_X11_readPart : Cond.code yX11_readPart cX11_readPart 3 none ∈ aTb := tm_6_19 (List.mem_of_getElem? (i := 7) rfl) rfl
abbrev mX11_reads : aM := (yX11_reads, cX11_reads, 2, (some .boolean))
theorem tc_X11_reads : Cond.code yX11_reads cX11_reads 2 (some .boolean) ∈ aTb := tm_6_14 (List.mem_of_getElem? (i := 0) rfl) rfl
abbrev mX11_law : aM := (yX11_law, cX11_law, 3, (some .int))
theorem tc_X11_law : Cond.code yX11_law cX11_law 3 (some .int) ∈ aTb := tm_6_13 (List.mem_of_getElem? (i := 4) rfl) rfl
abbrev mX11_fault : aM := (yX11_fault, cX11_fault, 1, (some .int))
theorem tc_X11_fault : Cond.code yX11_fault cX11_fault 1 (some .int) ∈ aTb := tm_6_22 (List.mem_of_getElem? (i := 6) rfl) rfl
abbrev mX11_codeAt : aM := (yX11_codeAt, cX11_codeAt, 2, (some .int))
theorem tc_X11_codeAt : Cond.code yX11_codeAt cX11_codeAt 2 (some .int) ∈ aTb := tm_6_27 (List.mem_of_getElem? (i := 2) rfl) rfl
abbrev mX11_passes0 : aM := (yX11_passes0, cX11_passes0, 3, (some .boolean))
theorem tc_X11_passes0 : Cond.code yX11_passes0 cX11_passes0 3 (some .boolean) ∈ aTb := tm_6_26 (List.mem_of_getElem? (i := 6) rfl) rfl
abbrev mX11_bounded : aM := (yX11_bounded, cX11_bounded, 4, (some .long))
theorem tc_X11_bounded : Cond.code yX11_bounded cX11_bounded 4 (some .long) ∈ aTb := tm_6_27 (List.mem_of_getElem? (i := 6) rfl) rfl
abbrev mX11_sumOf : aM := (yX11_sumOf, cX11_sumOf, 7, (some .long))
theorem tc_X11_sumOf : Cond.code yX11_sumOf cX11_sumOf 7 (some .long) ∈ aTb := tm_6_25 (List.mem_of_getElem? (i := 2) rfl) rfl
abbrev mX11_termOf : aM := (yX11_termOf, cX11_termOf, 7, (some .long))
theorem tc_X11_termOf : Cond.code yX11_termOf cX11_termOf 7 (some .long) ∈ aTb := tm_6_25 (List.mem_of_getElem? (i := 6) rfl) rfl
abbrev mX11_partOf : aM := (yX11_partOf, cX11_partOf, 4, (some .long))
theorem tc_X11_partOf : Cond.code yX11_partOf cX11_partOf 4 (some .long) ∈ aTb := tm_6_26 (List.mem_of_getElem? (i := 2) rfl) rfl
abbrev mX11_testOf : aM := (yX11_testOf, cX11_testOf, 4, (some .boolean))
theorem tc_X11_testOf : Cond.code yX11_testOf cX11_testOf 4 (some .boolean) ∈ aTb := tm_6_28 (List.mem_of_getElem? (i := 4) rfl) rfl
abbrev mX11_bothOf : aM := (yX11_bothOf, cX11_bothOf, 4, (some .boolean))
theorem tc_X11_bothOf : Cond.code yX11_bothOf cX11_bothOf 4 (some .boolean) ∈ aTb := tm_6_29 (List.mem_of_getElem? (i := 0) rfl) rfl
abbrev mX11_plainOf : aM := (yX11_plainOf, cX11_plainOf, 3, (some .boolean))
theorem tc_X11_plainOf : Cond.code yX11_plainOf cX11_plainOf 3 (some .boolean) ∈ aTb := tm_6_29 (List.mem_of_getElem? (i := 4) rfl) rfl
abbrev mX11_positiveOf : aM := (yX11_positiveOf, cX11_positiveOf, 7, (some .boolean))
theorem tc_X11_positiveOf : Cond.code yX11_positiveOf cX11_positiveOf 7 (some .boolean) ∈ aTb := tm_7_0 (List.mem_of_getElem? (i := 0) rfl) rfl
abbrev mX11_asksOf : aM := (yX11_asksOf, cX11_asksOf, 7, none)
theorem tc_X11_asksOf : Cond.code yX11_asksOf cX11_asksOf 7 none ∈ aTb := tm_6_23 (List.mem_of_getElem? (i := 6) rfl) rfl
abbrev mX11_toldBy : aM := (yX11_toldBy, cX11_toldBy, 8, (some .int))
theorem tc_X11_toldBy : Cond.code yX11_toldBy cX11_toldBy 8 (some .int) ∈ aTb := tm_6_24 (List.mem_of_getElem? (i := 5) rfl) rfl
abbrev mX11_learn : aM := (yX11_learn, cX11_learn, 3, (some .int))
theorem tc_X11_learn : Cond.code yX11_learn cX11_learn 3 (some .int) ∈ aTb := tm_6_23 (List.mem_of_getElem? (i := 2) rfl) rfl
abbrev mX11_canCome : aM := (yX11_canCome, cX11_canCome, 4, (some .boolean))
theorem tc_X11_canCome : Cond.code yX11_canCome cX11_canCome 4 (some .boolean) ∈ aTb := tm_7_2 (List.mem_of_getElem? (i := 5) rfl) rfl
abbrev mX11_lastingOf : aM := (yX11_lastingOf, cX11_lastingOf, 7, (some .int))
theorem tc_X11_lastingOf : Cond.code yX11_lastingOf cX11_lastingOf 7 (some .int) ∈ aTb := tm_7_2 (List.mem_of_getElem? (i := 0) rfl) rfl
abbrev mX11_dark : aM := (yX11_dark, cX11_dark, 2, (some .int))
theorem tc_X11_dark : Cond.code yX11_dark cX11_dark 2 (some .int) ∈ aTb := tm_7_3 (List.mem_of_getElem? (i := 5) rfl) rfl
abbrev mX11_power : aM := (yX11_power, cX11_power, 5, (some .long))
theorem tc_X11_power : Cond.code yX11_power cX11_power 5 (some .long) ∈ aTb := tm_7_4 (List.mem_of_getElem? (i := 1) rfl) rfl
abbrev mX11_meanIn : aM := (yX11_meanIn, cX11_meanIn, 3, (some .long))
theorem tc_X11_meanIn : Cond.code yX11_meanIn cX11_meanIn 3 (some .long) ∈ aTb := tm_7_4 (List.mem_of_getElem? (i := 5) rfl) rfl
abbrev mX11_meanOf : aM := (yX11_meanOf, cX11_meanOf, 9, (some .long))
theorem tc_X11_meanOf : Cond.code yX11_meanOf cX11_meanOf 9 (some .long) ∈ aTb := tm_7_3 (List.mem_of_getElem? (i := 1) rfl) rfl
abbrev mX11_looks : aM := (yX11_looks, cX11_looks, 2, none)
theorem tc_X11_looks : Cond.code yX11_looks cX11_looks 2 none ∈ aTb := tm_7_1 (List.mem_of_getElem? (i := 0) rfl) rfl
abbrev mX11_lasts0 : aM := (yX11_lasts0, cX11_lasts0, 3, none)
theorem tc_X11_lasts0 : Cond.code yX11_lasts0 cX11_lasts0 3 none ∈ aTb := tm_7_1 (List.mem_of_getElem? (i := 4) rfl) rfl
abbrev mX11_lasts : aM := (yX11_lasts, cX11_lasts, 2, (some .int))
theorem tc_X11_lasts : Cond.code yX11_lasts cX11_lasts 2 (some .int) ∈ aTb := tm_7_0 (List.mem_of_getElem? (i := 4) rfl) rfl
abbrev mX11_gcd : aM := (yX11_gcd, cX11_gcd, 10, (some .long))
theorem tc_X11_gcd : Cond.code yX11_gcd cX11_gcd 10 (some .long) ∈ aTb := tm_7_5 (List.mem_of_getElem? (i := 4) rfl) rfl
abbrev mX11_mean : aM := (yX11_mean, cX11_mean, 7, (some .long))
theorem tc_X11_mean : Cond.code yX11_mean cX11_mean 7 (some .long) ∈ aTb := tm_7_5 (List.mem_of_getElem? (i := 1) rfl) rfl
abbrev mX11_oilOf : aM := (yX11_oilOf, cX11_oilOf, 4, (some .int))
theorem tc_X11_oilOf : Cond.code yX11_oilOf cX11_oilOf 4 (some .int) ∈ aTb := tm_7_7 (List.mem_of_getElem? (i := 7) rfl) rfl
abbrev mX11_isBetter : aM := (yX11_isBetter, cX11_isBetter, 7, (some .boolean))
theorem tc_X11_isBetter : Cond.code yX11_isBetter cX11_isBetter 7 (some .boolean) ∈ aTb := tm_7_7 (List.mem_of_getElem? (i := 3) rfl) rfl
abbrev mX11_nextOf : aM := (yX11_nextOf, cX11_nextOf, 6, (some .int))
theorem tc_X11_nextOf : Cond.code yX11_nextOf cX11_nextOf 6 (some .int) ∈ aTb := tm_7_6 (List.mem_of_getElem? (i := 7) rfl) rfl
abbrev mX11_next : aM := (yX11_next, cX11_next, 4, (some .int))
theorem tc_X11_next : Cond.code yX11_next cX11_next 4 (some .int) ∈ aTb := tm_7_6 (List.mem_of_getElem? (i := 0) rfl) rfl
abbrev mX11_ways : aM := (yX11_ways, cX11_ways, 5, (some .int))
theorem tc_X11_ways : Cond.code yX11_ways cX11_ways 5 (some .int) ∈ aTb := tm_7_8 (List.mem_of_getElem? (i := 3) rfl) rfl
abbrev mX11_reaches : aM := (yX11_reaches, cX11_reaches, 3, none)
theorem tc_X11_reaches : Cond.code yX11_reaches cX11_reaches 3 none ∈ aTb := tm_7_9 (List.mem_of_getElem? (i := 3) rfl) rfl
abbrev mX11_reached : aM := (yX11_reached, cX11_reached, 4, (some .int))
theorem tc_X11_reached : Cond.code yX11_reached cX11_reached 4 (some .int) ∈ aTb := tm_7_8 (List.mem_of_getElem? (i := 7) rfl) rfl
abbrev mX11_failing0 : aM := (yX11_failing0, cX11_failing0, 7, none)
theorem tc_X11_failing0 : Cond.code yX11_failing0 cX11_failing0 7 none ∈ aTb := tm_7_10 (List.mem_of_getElem? (i := 3) rfl) rfl
abbrev mX11_failing : aM := (yX11_failing, cX11_failing, 2, (some .int))
theorem tc_X11_failing : Cond.code yX11_failing cX11_failing 2 (some .int) ∈ aTb := tm_7_9 (List.mem_of_getElem? (i := 7) rfl) rfl
abbrev mX11_hurts : aM := (yX11_hurts, cX11_hurts, 3, (some .int))
theorem tc_X11_hurts : Cond.code yX11_hurts cX11_hurts 3 (some .int) ∈ aTb := tm_7_10 (List.mem_of_getElem? (i := 7) rfl) rfl
abbrev mX11_areCodes : aM := (yX11_areCodes, cX11_areCodes, 3, (some .boolean))
theorem tc_X11_areCodes : Cond.code yX11_areCodes cX11_areCodes 3 (some .boolean) ∈ aTb := tm_7_11 (List.mem_of_getElem? (i := 6) rfl) rfl
abbrev mX11_codes0 : aM := (yX11_codes0, cX11_codes0, 10, none)
theorem tc_X11_codes0 : Cond.code yX11_codes0 cX11_codes0 10 none ∈ aTb := tm_7_12 (List.mem_of_getElem? (i := 2) rfl) rfl
abbrev mX11_codes : aM := (yX11_codes, cX11_codes, 4, (some .int))
theorem tc_X11_codes : Cond.code yX11_codes cX11_codes 4 (some .int) ∈ aTb := tm_7_11 (List.mem_of_getElem? (i := 3) rfl) rfl
abbrev mX11_make : aM := (yX11_make, cX11_make, 5, (some .int))
theorem tc_X11_make : Cond.code yX11_make cX11_make 5 (some .int) ∈ aTb := tm_7_12 (List.mem_of_getElem? (i := 6) rfl) rfl
abbrev mX11_send : aM := (yX11_send, cX11_send, 5, (some .int))
theorem tc_X11_send : Cond.code yX11_send cX11_send 5 (some .int) ∈ aTb := tm_7_13 (List.mem_of_getElem? (i := 2) rfl) rfl
abbrev mX11_dawn : aM := (yX11_dawn, cX11_dawn, 2, (some .int))
theorem tc_X11_dawn : Cond.code yX11_dawn cX11_dawn 2 (some .int) ∈ aTb := tm_7_13 (List.mem_of_getElem? (i := 6) rfl) rfl
abbrev mX11_log : aM := (yX11_log, cX11_log, 2, (some .int))
theorem tc_X11_log : Cond.code yX11_log cX11_log 2 (some .int) ∈ aTb := tm_7_14 (List.mem_of_getElem? (i := 2) rfl) rfl
abbrev mX11_burnt : aM := (yX11_burnt, cX11_burnt, 1, (some .int))
theorem tc_X11_burnt : Cond.code yX11_burnt cX11_burnt 1 (some .int) ∈ aTb := tm_7_14 (List.mem_of_getElem? (i := 6) rfl) rfl
abbrev mX11_trail : aM := (yX11_trail, cX11_trail, 3, (some .int))
theorem tc_X11_trail : Cond.code yX11_trail cX11_trail 3 (some .int) ∈ aTb := tm_7_15 (List.mem_of_getElem? (i := 2) rfl) rfl
abbrev mX11_judge : aM := (yX11_judge, cX11_judge, 5, (some .int))
theorem tc_X11_judge : Cond.code yX11_judge cX11_judge 5 (some .int) ∈ aTb := tm_7_15 (List.mem_of_getElem? (i := 6) rfl) rfl
abbrev mX11_rowsOf : aM := (yX11_rowsOf, cX11_rowsOf, 10, (some .long))
theorem tc_X11_rowsOf : Cond.code yX11_rowsOf cX11_rowsOf 10 (some .long) ∈ aTb := tm_7_16 (List.mem_of_getElem? (i := 6) rfl) rfl
abbrev mX11_rows : aM := (yX11_rows, cX11_rows, 4, (some .long))
theorem tc_X11_rows : Cond.code yX11_rows cX11_rows 4 (some .long) ∈ aTb := tm_7_16 (List.mem_of_getElem? (i := 2) rfl) rfl
abbrev mX11_could : aM := (yX11_could, cX11_could, 6, (some .long))
theorem tc_X11_could : Cond.code yX11_could cX11_could 6 (some .long) ∈ aTb := tm_7_17 (List.mem_of_getElem? (i := 2) rfl) rfl
abbrev mX11_maybe : aM := (yX11_maybe, cX11_maybe, 5, (some .int))
theorem tc_X11_maybe : Cond.code yX11_maybe cX11_maybe 5 (some .int) ∈ aTb := tm_7_17 (List.mem_of_getElem? (i := 6) rfl) rfl
abbrev mX11_safe : aM := (yX11_safe, cX11_safe, 5, (some .int))
theorem tc_X11_safe : Cond.code yX11_safe cX11_safe 5 (some .int) ∈ aTb := tm_7_18 (List.mem_of_getElem? (i := 2) rfl) rfl
abbrev mX11_spy : aM := (yX11_spy, cX11_spy, 4, (some .int))
theorem tc_X11_spy : Cond.code yX11_spy cX11_spy 4 (some .int) ∈ aTb := tm_7_18 (List.mem_of_getElem? (i := 6) rfl) rfl
abbrev mX11_want : aM := (yX11_want, cX11_want, 2, (some .int))
theorem tc_X11_want : Cond.code yX11_want cX11_want 2 (some .int) ∈ aTb := tm_7_19 (List.mem_of_getElem? (i := 2) rfl) rfl
abbrev mX11_unwant : aM := (yX11_unwant, cX11_unwant, 2, (some .int))
theorem tc_X11_unwant : Cond.code yX11_unwant cX11_unwant 2 (some .int) ∈ aTb := tm_7_19 (List.mem_of_getElem? (i := 6) rfl) rfl
abbrev mX11_plans : aM := (yX11_plans, cX11_plans, 9, none)
theorem tc_X11_plans : Cond.code yX11_plans cX11_plans 9 none ∈ aTb := tm_7_20 (List.mem_of_getElem? (i := 6) rfl) rfl
abbrev mX11_cheap : aM := (yX11_cheap, cX11_cheap, 2, (some .int))
theorem tc_X11_cheap : Cond.code yX11_cheap cX11_cheap 2 (some .int) ∈ aTb := tm_7_20 (List.mem_of_getElem? (i := 2) rfl) rfl
abbrev mX11_plan : aM := (yX11_plan, cX11_plan, 5, (some .int))
theorem tc_X11_plan : Cond.code yX11_plan cX11_plan 5 (some .int) ∈ aTb := tm_7_21 (List.mem_of_getElem? (i := 2) rfl) rfl
abbrev mX11_night : aM := (yX11_night, cX11_night, 7, (some .int))
theorem tc_X11_night : Cond.code yX11_night cX11_night 7 (some .int) ∈ aTb := tm_7_21 (List.mem_of_getElem? (i := 6) rfl) rfl
abbrev mX11_drawn : aM := (yX11_drawn, cX11_drawn, 2, (some .int))
theorem tc_X11_drawn : Cond.code yX11_drawn cX11_drawn 2 (some .int) ∈ aTb := tm_7_22 (List.mem_of_getElem? (i := 5) rfl) rfl
abbrev mX11_count : aM := (yX11_count, cX11_count, 2, (some .int))
theorem tc_X11_count : Cond.code yX11_count cX11_count 2 (some .int) ∈ aTb := tm_7_23 (List.mem_of_getElem? (i := 1) rfl) rfl
abbrev mX11_status : aM := (yX11_status, cX11_status, 1, (some .int))
theorem tc_X11_status : Cond.code yX11_status cX11_status 1 (some .int) ∈ aTb := tm_7_23 (List.mem_of_getElem? (i := 5) rfl) rfl
abbrev mJ6_bitCount_0f7a4 : aM := (yJ6_bitCount_0f7a4, cJ6_bitCount_0f7a4, 1, (some .int))
theorem tc_J6_bitCount_0f7a4 : Cond.code yJ6_bitCount_0f7a4 cJ6_bitCount_0f7a4 1 (some .int) ∈ aTb := tm_3_27 (List.mem_of_getElem? (i := 4) rfl) rfl
abbrev mJ0_length_8abf5 : aM := (yJ0_length_8abf5, cJ0_length_8abf5, 1, (some .int))
theorem tc_J0_length_8abf5 : Cond.code yJ0_length_8abf5 cJ0_length_8abf5 1 (some .int) ∈ aTb := tm_3_4 (List.mem_of_getElem? (i := 1) rfl) rfl
abbrev mJ0_charAt_5068e : aM := (yJ0_charAt_5068e, cJ0_charAt_5068e, 2, (some .char))
theorem tc_J0_charAt_5068e : Cond.code yJ0_charAt_5068e cJ0_charAt_5068e 2 (some .char) ∈ aTb := tm_3_5 (List.mem_of_getElem? (i := 3) rfl) rfl
abbrev mJ0_coder_7d493 : aM := (yJ0_coder_7d493, cJ0_coder_7d493, 1, (some .byte))
theorem tc_J0_coder_7d493 : Cond.code yJ0_coder_7d493 cJ0_coder_7d493 1 (some .byte) ∈ aTb := tm_3_4 (List.mem_of_getElem? (i := 5) rfl) rfl
abbrev mJ0_isLatin1_aae02 : aM := (yJ0_isLatin1_aae02, cJ0_isLatin1_aae02, 1, (some .boolean))
theorem tc_J0_isLatin1_aae02 : Cond.code yJ0_isLatin1_aae02 cJ0_isLatin1_aae02 1 (some .boolean) ∈ aTb := tm_3_5 (List.mem_of_getElem? (i := 7) rfl) rfl
abbrev mJ0_checkIndex_df160 : aM := (yJ0_checkIndex_df160, cJ0_checkIndex_df160, 2, none)
theorem tc_J0_checkIndex_df160 : Cond.code yJ0_checkIndex_df160 cJ0_checkIndex_df160 2 none ∈ aTb := tm_3_6 (List.mem_of_getElem? (i := 5) rfl) rfl
abbrev mJ1_charAt_3b067 : aM := (yJ1_charAt_3b067, cJ1_charAt_3b067, 2, (some .char))
theorem tc_J1_charAt_3b067 : Cond.code yJ1_charAt_3b067 cJ1_charAt_3b067 2 (some .char) ∈ aTb := tm_3_6 (List.mem_of_getElem? (i := 2) rfl) rfl
abbrev mJ7_rangeCheck_23922 : aM := (yJ7_rangeCheck_23922, cJ7_rangeCheck_23922, 3, none)
theorem tc_J7_rangeCheck_23922 : Cond.code yJ7_rangeCheck_23922 cJ7_rangeCheck_23922 3 none ∈ aTb := tm_4_28 (List.mem_of_getElem? (i := 5) rfl) rfl
abbrev mJ7_fill_d0a16 : aM := (yJ7_fill_d0a16, cJ7_fill_d0a16, 5, none)
theorem tc_J7_fill_d0a16 : Cond.code yJ7_fill_d0a16 cJ7_fill_d0a16 5 none ∈ aTb := tm_4_5 (List.mem_of_getElem? (i := 6) rfl) rfl
abbrev mJ7_fill_bad5a : aM := (yJ7_fill_bad5a, cJ7_fill_bad5a, 6, none)
theorem tc_J7_fill_bad5a : Cond.code yJ7_fill_bad5a cJ7_fill_bad5a 6 none ∈ aTb := tm_4_28 (List.mem_of_getElem? (i := 2) rfl) rfl
abbrev mJ7_fill_53178 : aM := (yJ7_fill_53178, cJ7_fill_53178, 4, none)
theorem tc_J7_fill_53178 : Cond.code yJ7_fill_53178 cJ7_fill_53178 4 none ∈ aTb := tm_1_4 (List.mem_of_getElem? (i := 7) rfl) rfl
abbrev mJ7_copyOf_59c91 : aM := (yJ7_copyOf_59c91, cJ7_copyOf_59c91, 3, (some (.array .int)))
theorem tc_J7_copyOf_59c91 : Cond.code yJ7_copyOf_59c91 cJ7_copyOf_59c91 3 (some (.array .int)) ∈ aTb := tm_3_21 (List.mem_of_getElem? (i := 4) rfl) rfl
abbrev mJ3_checkIndex_8e157 : aM := (yJ3_checkIndex_8e157, cJ3_checkIndex_8e157, 3, (some .int))
theorem tc_J3_checkIndex_8e157 : Cond.code yJ3_checkIndex_8e157 cJ3_checkIndex_8e157 3 (some .int) ∈ aTb := tm_3_7 (List.mem_of_getElem? (i := 2) rfl) rfl
theorem ts_X10_refuse : Cond.selects RX10 yX10_refuse yX10_refuse ∈ aTb := aTb_sel (y := yX10_refuse) 0 (by decide +kernel) (by decide +kernel)
theorem ts_X10_codeChanged : Cond.selects RX10 yX10_codeChanged yX10_codeChanged ∈ aTb := aTb_sel (y := yX10_codeChanged) 1 (by decide +kernel) (by decide +kernel)
theorem ts_X10_accept : Cond.selects RX10 yX10_accept yX10_accept ∈ aTb := aTb_sel (y := yX10_accept) 2 (by decide +kernel) (by decide +kernel)
theorem ts_X7_findTokens : Cond.selects RX7 yX7_findTokens yX7_findTokens ∈ aTb := aTb_sel (y := yX7_findTokens) 3 (by decide +kernel) (by decide +kernel)
theorem ts_X7_skipBlanks : Cond.selects RX7 yX7_skipBlanks yX7_skipBlanks ∈ aTb := aTb_sel (y := yX7_skipBlanks) 4 (by decide +kernel) (by decide +kernel)
theorem ts_X7_stopOf : Cond.selects RX7 yX7_stopOf yX7_stopOf ∈ aTb := aTb_sel (y := yX7_stopOf) 5 (by decide +kernel) (by decide +kernel)
theorem ts_X7_kindOf : Cond.selects RX7 yX7_kindOf yX7_kindOf ∈ aTb := aTb_sel (y := yX7_kindOf) 6 (by decide +kernel) (by decide +kernel)
theorem ts_X7_wordKind : Cond.selects RX7 yX7_wordKind yX7_wordKind ∈ aTb := aTb_sel (y := yX7_wordKind) 7 (by decide +kernel) (by decide +kernel)
theorem ts_X7_partKind : Cond.selects RX7 yX7_partKind yX7_partKind ∈ aTb := aTb_sel (y := yX7_partKind) 8 (by decide +kernel) (by decide +kernel)
theorem ts_X7_numberAt : Cond.selects RX7 yX7_numberAt yX7_numberAt ∈ aTb := aTb_sel (y := yX7_numberAt) 9 (by decide +kernel) (by decide +kernel)
theorem ts_X7_takeClauses : Cond.selects RX7 yX7_takeClauses yX7_takeClauses ∈ aTb := aTb_sel (y := yX7_takeClauses) 10 (by decide +kernel) (by decide +kernel)
theorem ts_X7_takeClause : Cond.selects RX7 yX7_takeClause yX7_takeClause ∈ aTb := aTb_sel (y := yX7_takeClause) 11 (by decide +kernel) (by decide +kernel)
theorem ts_X7_fail : Cond.selects RX7 yX7_fail yX7_fail ∈ aTb := aTb_sel (y := yX7_fail) 12 (by decide +kernel) (by decide +kernel)
theorem ts_X7_advance : Cond.selects RX7 yX7_advance yX7_advance ∈ aTb := aTb_sel (y := yX7_advance) 13 (by decide +kernel) (by decide +kernel)
theorem ts_X7_takeSum : Cond.selects RX7 yX7_takeSum yX7_takeSum ∈ aTb := aTb_sel (y := yX7_takeSum) 14 (by decide +kernel) (by decide +kernel)
theorem ts_X7_takeTerm : Cond.selects RX7 yX7_takeTerm yX7_takeTerm ∈ aTb := aTb_sel (y := yX7_takeTerm) 15 (by decide +kernel) (by decide +kernel)
theorem ts_X7_takePart : Cond.selects RX7 yX7_takePart yX7_takePart ∈ aTb := aTb_sel (y := yX7_takePart) 16 (by decide +kernel) (by decide +kernel)
theorem ts_X7_takeSign : Cond.selects RX7 yX7_takeSign yX7_takeSign ∈ aTb := aTb_sel (y := yX7_takeSign) 17 (by decide +kernel) (by decide +kernel)
theorem ts_X7_step : Cond.selects RX7 yX7_step yX7_step ∈ aTb := aTb_sel (y := yX7_step) 18 (by decide +kernel) (by decide +kernel)
theorem ts_X7_takeTest : Cond.selects RX7 yX7_takeTest yX7_takeTest ∈ aTb := aTb_sel (y := yX7_takeTest) 19 (by decide +kernel) (by decide +kernel)
theorem ts_X7_takeBoth : Cond.selects RX7 yX7_takeBoth yX7_takeBoth ∈ aTb := aTb_sel (y := yX7_takeBoth) 20 (by decide +kernel) (by decide +kernel)
theorem ts_X7_takePlain : Cond.selects RX7 yX7_takePlain yX7_takePlain ∈ aTb := aTb_sel (y := yX7_takePlain) 21 (by decide +kernel) (by decide +kernel)
theorem ts_X7_takeBracketed : Cond.selects RX7 yX7_takeBracketed yX7_takeBracketed ∈ aTb := aTb_sel (y := yX7_takeBracketed) 22 (by decide +kernel) (by decide +kernel)
theorem ts_X7_takeComparison : Cond.selects RX7 yX7_takeComparison yX7_takeComparison ∈ aTb := aTb_sel (y := yX7_takeComparison) 23 (by decide +kernel) (by decide +kernel)
theorem ts_X7_openSkip : Cond.selects RX7 yX7_openSkip yX7_openSkip ∈ aTb := aTb_sel (y := yX7_openSkip) 24 (by decide +kernel) (by decide +kernel)
theorem ts_X7_closeSkip : Cond.selects RX7 yX7_closeSkip yX7_closeSkip ∈ aTb := aTb_sel (y := yX7_closeSkip) 25 (by decide +kernel) (by decide +kernel)
theorem ts_X0_fillWords : Cond.selects RX0 yX0_fillWords yX0_fillWords ∈ aTb := aTb_sel (y := yX0_fillWords) 26 (by decide +kernel) (by decide +kernel)
theorem ts_X0_isSo : Cond.selects RX0 yX0_isSo yX0_isSo ∈ aTb := aTb_sel (y := yX0_isSo) 27 (by decide +kernel) (by decide +kernel)
theorem ts_X0_works : Cond.selects RX0 yX0_works yX0_works ∈ aTb := aTb_sel (y := yX0_works) 28 (by decide +kernel) (by decide +kernel)
theorem ts_X0_join : Cond.selects RX0 yX0_join yX0_join ∈ aTb := aTb_sel (y := yX0_join) 29 (by decide +kernel) (by decide +kernel)
theorem ts_X4_fillLasting : Cond.selects RX4 yX4_fillLasting yX4_fillLasting ∈ aTb := aTb_sel (y := yX4_fillLasting) 30 (by decide +kernel) (by decide +kernel)
theorem ts_X5_fillBest : Cond.selects RX5 yX5_fillBest yX5_fillBest ∈ aTb := aTb_sel (y := yX5_fillBest) 31 (by decide +kernel) (by decide +kernel)
theorem ts_X4_fillMean : Cond.selects RX4 yX4_fillMean yX4_fillMean ∈ aTb := aTb_sel (y := yX4_fillMean) 32 (by decide +kernel) (by decide +kernel)
theorem ts_X4_meanOf : Cond.selects RX4 yX4_meanOf yX4_meanOf ∈ aTb := aTb_sel (y := yX4_meanOf) 33 (by decide +kernel) (by decide +kernel)
theorem ts_X4_fillRichest : Cond.selects RX4 yX4_fillRichest yX4_fillRichest ∈ aTb := aTb_sel (y := yX4_fillRichest) 34 (by decide +kernel) (by decide +kernel)
theorem ts_X4_isBetter : Cond.selects RX4 yX4_isBetter yX4_isBetter ∈ aTb := aTb_sel (y := yX4_isBetter) 35 (by decide +kernel) (by decide +kernel)
theorem ts_X4_lastsBy : Cond.selects RX4 yX4_lastsBy yX4_lastsBy ∈ aTb := aTb_sel (y := yX4_lastsBy) 36 (by decide +kernel) (by decide +kernel)
theorem ts_X2_search : Cond.selects RX2 yX2_search yX2_search ∈ aTb := aTb_sel (y := yX2_search) 37 (by decide +kernel) (by decide +kernel)
theorem ts_X2_note : Cond.selects RX2 yX2_note yX2_note ∈ aTb := aTb_sel (y := yX2_note) 38 (by decide +kernel) (by decide +kernel)
theorem ts_X2_turnOn : Cond.selects RX2 yX2_turnOn yX2_turnOn ∈ aTb := aTb_sel (y := yX2_turnOn) 39 (by decide +kernel) (by decide +kernel)
theorem ts_X10_isRowTo : Cond.selects RX10 yX10_isRowTo yX10_isRowTo ∈ aTb := aTb_sel (y := yX10_isRowTo) 40 (by decide +kernel) (by decide +kernel)
theorem ts_X8_isMet : Cond.selects RX8 yX8_isMet yX8_isMet ∈ aTb := aTb_sel (y := yX8_isMet) 41 (by decide +kernel) (by decide +kernel)
theorem ts_X8_spread : Cond.selects RX8 yX8_spread yX8_spread ∈ aTb := aTb_sel (y := yX8_spread) 42 (by decide +kernel) (by decide +kernel)
theorem ts_X4_firstDoubt : Cond.selects RX4 yX4_firstDoubt yX4_firstDoubt ∈ aTb := aTb_sel (y := yX4_firstDoubt) 43 (by decide +kernel) (by decide +kernel)
theorem ts_X3_countWays : Cond.selects RX3 yX3_countWays yX3_countWays ∈ aTb := aTb_sel (y := yX3_countWays) 44 (by decide +kernel) (by decide +kernel)
theorem ts_X3_spreadUp : Cond.selects RX3 yX3_spreadUp yX3_spreadUp ∈ aTb := aTb_sel (y := yX3_spreadUp) 45 (by decide +kernel) (by decide +kernel)
theorem ts_X3_findLeast : Cond.selects RX3 yX3_findLeast yX3_findLeast ∈ aTb := aTb_sel (y := yX3_findLeast) 46 (by decide +kernel) (by decide +kernel)
theorem ts_X3_findOpen : Cond.selects RX3 yX3_findOpen yX3_findOpen ∈ aTb := aTb_sel (y := yX3_findOpen) 47 (by decide +kernel) (by decide +kernel)
theorem ts_X3_goesOn : Cond.selects RX3 yX3_goesOn yX3_goesOn ∈ aTb := aTb_sel (y := yX3_goesOn) 48 (by decide +kernel) (by decide +kernel)
theorem ts_X3_spreadDown : Cond.selects RX3 yX3_spreadDown yX3_spreadDown ∈ aTb := aTb_sel (y := yX3_spreadDown) 49 (by decide +kernel) (by decide +kernel)
theorem ts_X3_findStates : Cond.selects RX3 yX3_findStates yX3_findStates ∈ aTb := aTb_sel (y := yX3_findStates) 50 (by decide +kernel) (by decide +kernel)
theorem ts_X10_drawNight : Cond.selects RX10 yX10_drawNight yX10_drawNight ∈ aTb := aTb_sel (y := yX10_drawNight) 51 (by decide +kernel) (by decide +kernel)
theorem ts_X11_empties : Cond.selects RX11 yX11_empties yX11_empties ∈ aTb := aTb_sel (y := yX11_empties) 52 (by decide +kernel) (by decide +kernel)
theorem ts_X11_refuses : Cond.selects RX11 yX11_refuses yX11_refuses ∈ aTb := aTb_sel (y := yX11_refuses) 53 (by decide +kernel) (by decide +kernel)
theorem ts_X11_good : Cond.selects RX11 yX11_good yX11_good ∈ aTb := aTb_sel (y := yX11_good) 54 (by decide +kernel) (by decide +kernel)
theorem ts_X11_isLamp : Cond.selects RX11 yX11_isLamp yX11_isLamp ∈ aTb := aTb_sel (y := yX11_isLamp) 55 (by decide +kernel) (by decide +kernel)
theorem ts_X11_isState : Cond.selects RX11 yX11_isState yX11_isState ∈ aTb := aTb_sel (y := yX11_isState) 56 (by decide +kernel) (by decide +kernel)
theorem ts_X11_states : Cond.selects RX11 yX11_states yX11_states ∈ aTb := aTb_sel (y := yX11_states) 57 (by decide +kernel) (by decide +kernel)
theorem ts_X11_isNews : Cond.selects RX11 yX11_isNews yX11_isNews ∈ aTb := aTb_sel (y := yX11_isNews) 58 (by decide +kernel) (by decide +kernel)
theorem ts_X11_readOf : Cond.selects RX11 yX11_readOf yX11_readOf ∈ aTb := aTb_sel (y := yX11_readOf) 59 (by decide +kernel) (by decide +kernel)
theorem ts_X11_readMany : Cond.selects RX11 yX11_readMany yX11_readMany ∈ aTb := aTb_sel (y := yX11_readMany) 60 (by decide +kernel) (by decide +kernel)
theorem ts_X11_reads : Cond.selects RX11 yX11_reads yX11_reads ∈ aTb := aTb_sel (y := yX11_reads) 61 (by decide +kernel) (by decide +kernel)
theorem ts_X11_splits : Cond.selects RX11 yX11_splits yX11_splits ∈ aTb := aTb_sel (y := yX11_splits) 62 (by decide +kernel) (by decide +kernel)
theorem ts_X11_wordOf : Cond.selects RX11 yX11_wordOf yX11_wordOf ∈ aTb := aTb_sel (y := yX11_wordOf) 63 (by decide +kernel) (by decide +kernel)
theorem ts_X11_readClause : Cond.selects RX11 yX11_readClause yX11_readClause ∈ aTb := aTb_sel (y := yX11_readClause) 64 (by decide +kernel) (by decide +kernel)
theorem ts_X11_must : Cond.selects RX11 yX11_must yX11_must ∈ aTb := aTb_sel (y := yX11_must) 65 (by decide +kernel) (by decide +kernel)
theorem ts_X11_takes0 : Cond.selects RX11 yX11_takes0 yX11_takes0 ∈ aTb := aTb_sel (y := yX11_takes0) 66 (by decide +kernel) (by decide +kernel)
theorem ts_X11_fine : Cond.selects RX11 yX11_fine yX11_fine ∈ aTb := aTb_sel (y := yX11_fine) 67 (by decide +kernel) (by decide +kernel)
theorem ts_X11_faults : Cond.selects RX11 yX11_faults yX11_faults ∈ aTb := aTb_sel (y := yX11_faults) 68 (by decide +kernel) (by decide +kernel)
theorem ts_X11_readSum : Cond.selects RX11 yX11_readSum yX11_readSum ∈ aTb := aTb_sel (y := yX11_readSum) 69 (by decide +kernel) (by decide +kernel)
theorem ts_X11_readTerm : Cond.selects RX11 yX11_readTerm yX11_readTerm ∈ aTb := aTb_sel (y := yX11_readTerm) 70 (by decide +kernel) (by decide +kernel)
theorem ts_X11_readPart : Cond.selects RX11 yX11_readPart yX11_readPart ∈ aTb := aTb_sel (y := yX11_readPart) 71 (by decide +kernel) (by decide +kernel)
theorem ts_X11_leaf : Cond.selects RX11 yX11_leaf yX11_leaf ∈ aTb := aTb_sel (y := yX11_leaf) 72 (by decide +kernel) (by decide +kernel)
theorem ts_X11_readTest : Cond.selects RX11 yX11_readTest yX11_readTest ∈ aTb := aTb_sel (y := yX11_readTest) 73 (by decide +kernel) (by decide +kernel)
theorem ts_X11_readBoth : Cond.selects RX11 yX11_readBoth yX11_readBoth ∈ aTb := aTb_sel (y := yX11_readBoth) 74 (by decide +kernel) (by decide +kernel)
theorem ts_X11_readPlain : Cond.selects RX11 yX11_readPlain yX11_readPlain ∈ aTb := aTb_sel (y := yX11_readPlain) 75 (by decide +kernel) (by decide +kernel)
theorem ts_X11_asksOf : Cond.selects RX11 yX11_asksOf yX11_asksOf ∈ aTb := aTb_sel (y := yX11_asksOf) 76 (by decide +kernel) (by decide +kernel)
theorem ts_X11_toldBy : Cond.selects RX11 yX11_toldBy yX11_toldBy ∈ aTb := aTb_sel (y := yX11_toldBy) 77 (by decide +kernel) (by decide +kernel)
theorem ts_X11_sumOf : Cond.selects RX11 yX11_sumOf yX11_sumOf ∈ aTb := aTb_sel (y := yX11_sumOf) 78 (by decide +kernel) (by decide +kernel)
theorem ts_X11_termOf : Cond.selects RX11 yX11_termOf yX11_termOf ∈ aTb := aTb_sel (y := yX11_termOf) 79 (by decide +kernel) (by decide +kernel)
theorem ts_X11_partOf : Cond.selects RX11 yX11_partOf yX11_partOf ∈ aTb := aTb_sel (y := yX11_partOf) 80 (by decide +kernel) (by decide +kernel)
theorem ts_X11_passes0 : Cond.selects RX11 yX11_passes0 yX11_passes0 ∈ aTb := aTb_sel (y := yX11_passes0) 81 (by decide +kernel) (by decide +kernel)
theorem ts_X11_codeAt : Cond.selects RX11 yX11_codeAt yX11_codeAt ∈ aTb := aTb_sel (y := yX11_codeAt) 82 (by decide +kernel) (by decide +kernel)
theorem ts_X11_bounded : Cond.selects RX11 yX11_bounded yX11_bounded ∈ aTb := aTb_sel (y := yX11_bounded) 83 (by decide +kernel) (by decide +kernel)
theorem ts_X11_testOf : Cond.selects RX11 yX11_testOf yX11_testOf ∈ aTb := aTb_sel (y := yX11_testOf) 84 (by decide +kernel) (by decide +kernel)
theorem ts_X11_bothOf : Cond.selects RX11 yX11_bothOf yX11_bothOf ∈ aTb := aTb_sel (y := yX11_bothOf) 85 (by decide +kernel) (by decide +kernel)
theorem ts_X11_plainOf : Cond.selects RX11 yX11_plainOf yX11_plainOf ∈ aTb := aTb_sel (y := yX11_plainOf) 86 (by decide +kernel) (by decide +kernel)
theorem ts_X11_positiveOf : Cond.selects RX11 yX11_positiveOf yX11_positiveOf ∈ aTb := aTb_sel (y := yX11_positiveOf) 87 (by decide +kernel) (by decide +kernel)
theorem ts_X11_looks : Cond.selects RX11 yX11_looks yX11_looks ∈ aTb := aTb_sel (y := yX11_looks) 88 (by decide +kernel) (by decide +kernel)
theorem ts_X11_lasts0 : Cond.selects RX11 yX11_lasts0 yX11_lasts0 ∈ aTb := aTb_sel (y := yX11_lasts0) 89 (by decide +kernel) (by decide +kernel)
theorem ts_X11_lastingOf : Cond.selects RX11 yX11_lastingOf yX11_lastingOf ∈ aTb := aTb_sel (y := yX11_lastingOf) 90 (by decide +kernel) (by decide +kernel)
theorem ts_X11_canCome : Cond.selects RX11 yX11_canCome yX11_canCome ∈ aTb := aTb_sel (y := yX11_canCome) 91 (by decide +kernel) (by decide +kernel)
theorem ts_X11_meanOf : Cond.selects RX11 yX11_meanOf yX11_meanOf ∈ aTb := aTb_sel (y := yX11_meanOf) 92 (by decide +kernel) (by decide +kernel)
theorem ts_X11_dark : Cond.selects RX11 yX11_dark yX11_dark ∈ aTb := aTb_sel (y := yX11_dark) 93 (by decide +kernel) (by decide +kernel)
theorem ts_X11_power : Cond.selects RX11 yX11_power yX11_power ∈ aTb := aTb_sel (y := yX11_power) 94 (by decide +kernel) (by decide +kernel)
theorem ts_X11_meanIn : Cond.selects RX11 yX11_meanIn yX11_meanIn ∈ aTb := aTb_sel (y := yX11_meanIn) 95 (by decide +kernel) (by decide +kernel)
theorem ts_X11_nextOf : Cond.selects RX11 yX11_nextOf yX11_nextOf ∈ aTb := aTb_sel (y := yX11_nextOf) 96 (by decide +kernel) (by decide +kernel)
theorem ts_X11_isBetter : Cond.selects RX11 yX11_isBetter yX11_isBetter ∈ aTb := aTb_sel (y := yX11_isBetter) 97 (by decide +kernel) (by decide +kernel)
theorem ts_X11_oilOf : Cond.selects RX11 yX11_oilOf yX11_oilOf ∈ aTb := aTb_sel (y := yX11_oilOf) 98 (by decide +kernel) (by decide +kernel)
theorem ts_X11_reaches : Cond.selects RX11 yX11_reaches yX11_reaches ∈ aTb := aTb_sel (y := yX11_reaches) 99 (by decide +kernel) (by decide +kernel)
theorem ts_X11_failing0 : Cond.selects RX11 yX11_failing0 yX11_failing0 ∈ aTb := aTb_sel (y := yX11_failing0) 100 (by decide +kernel) (by decide +kernel)
theorem ts_X11_codes0 : Cond.selects RX11 yX11_codes0 yX11_codes0 ∈ aTb := aTb_sel (y := yX11_codes0) 101 (by decide +kernel) (by decide +kernel)
theorem ts_X11_rowsOf : Cond.selects RX11 yX11_rowsOf yX11_rowsOf ∈ aTb := aTb_sel (y := yX11_rowsOf) 102 (by decide +kernel) (by decide +kernel)
theorem ts_X11_plans : Cond.selects RX11 yX11_plans yX11_plans ∈ aTb := aTb_sel (y := yX11_plans) 103 (by decide +kernel) (by decide +kernel)
theorem fX10_10 : aFd RX10 10 10 0 := ⟨RX10, TX10, cl_10, by decide, tb_321⟩
theorem gX10_10 : aPd RX10 10 10 0 := ⟨RX10, TX10, cl_10, by decide, tb_321, by decide⟩
theorem fX10_16 : aFd RX10 16 10 1 := ⟨RX10, TX10, cl_10, by decide, tb_322⟩
theorem gX10_16 : aPd RX10 16 10 1 := ⟨RX10, TX10, cl_10, by decide, tb_322, by decide⟩
theorem fX10_23 : aFd RX10 23 10 2 := ⟨RX10, TX10, cl_10, by decide, tb_323⟩
theorem gX10_23 : aPd RX10 23 10 2 := ⟨RX10, TX10, cl_10, by decide, tb_323, by decide⟩
theorem fX10_32 : aFd RX10 32 10 3 := ⟨RX10, TX10, cl_10, by decide, tb_324⟩
theorem gX10_32 : aPd RX10 32 10 3 := ⟨RX10, TX10, cl_10, by decide, tb_324, by decide⟩
theorem fX10_39 : aFd RX10 39 10 4 := ⟨RX10, TX10, cl_10, by decide, tb_325⟩
theorem gX10_39 : aPd RX10 39 10 4 := ⟨RX10, TX10, cl_10, by decide, tb_325, by decide⟩
theorem fX10_48 : aFd RX10 48 10 5 := ⟨RX10, TX10, cl_10, by decide, tb_326⟩
theorem gX10_48 : aPd RX10 48 10 5 := ⟨RX10, TX10, cl_10, by decide, tb_326, by decide⟩
theorem fX10_57 : aFd RX10 57 10 6 := ⟨RX10, TX10, cl_10, by decide, tb_327⟩
theorem gX10_57 : aPd RX10 57 10 6 := ⟨RX10, TX10, cl_10, by decide, tb_327, by decide⟩
theorem fX10_64 : aFd RX10 64 10 7 := ⟨RX10, TX10, cl_10, by decide, tb_328⟩
theorem gX10_64 : aPd RX10 64 10 7 := ⟨RX10, TX10, cl_10, by decide, tb_328, by decide⟩
theorem fX10_71 : aFd RX10 71 10 8 := ⟨RX10, TX10, cl_10, by decide, tb_329⟩
theorem gX10_71 : aPd RX10 71 10 8 := ⟨RX10, TX10, cl_10, by decide, tb_329, by decide⟩
theorem fX10_75 : aFd RX10 75 10 9 := ⟨RX10, TX10, cl_10, by decide, tb_330⟩
theorem gX10_75 : aPd RX10 75 10 9 := ⟨RX10, TX10, cl_10, by decide, tb_330, by decide⟩
theorem fX10_79 : aFd RX10 79 10 10 := ⟨RX10, TX10, cl_10, by decide, tb_331⟩
theorem gX10_79 : aPd RX10 79 10 10 := ⟨RX10, TX10, cl_10, by decide, tb_331, by decide⟩
theorem fX10_82 : aFd RX10 82 10 11 := ⟨RX10, TX10, cl_10, by decide, tb_332⟩
theorem gX10_82 : aPd RX10 82 10 11 := ⟨RX10, TX10, cl_10, by decide, tb_332, by decide⟩
theorem fX10_85 : aFd RX10 85 10 14 := ⟨RX10, TX10, cl_10, by decide, tb_335⟩
theorem gX10_85 : aPd RX10 85 10 14 := ⟨RX10, TX10, cl_10, by decide, tb_335, by decide⟩
theorem fX10_93 : aFd RX10 93 1 5 := ⟨RX1, TX1, cl_1, by decide, tb_56⟩
theorem gX10_93 : aPd RX10 93 1 5 := ⟨RX1, TX1, cl_1, by decide, tb_56, by decide⟩
theorem fX10_96 : aFd RX10 96 1 7 := ⟨RX1, TX1, cl_1, by decide, tb_65⟩
theorem gX10_96 : aPd RX10 96 1 7 := ⟨RX1, TX1, cl_1, by decide, tb_65, by decide⟩
theorem fX10_99 : aFd RX10 99 1 0 := ⟨RX1, TX1, cl_1, by decide, tb_41⟩
theorem fX10_117 : aFd RX10 117 1 6 := ⟨RX1, TX1, cl_1, by decide, tb_62⟩
theorem gX10_117 : aPd RX10 117 1 6 := ⟨RX1, TX1, cl_1, by decide, tb_62, by decide⟩
theorem gX10_124 : aPd RX10 124 4 10 := ⟨RX4, TX4, cl_4, by decide, tb_215, by decide⟩
theorem gX10_128 : aPd RX10 128 3 3 := ⟨RX3, TX3, cl_3, by decide, tb_271, by decide⟩
theorem fX10_137 : aFd RX10 137 1 1 := ⟨RX1, TX1, cl_1, by decide, tb_47⟩
theorem fX10_148 : aFd RX10 148 9 1 := ⟨RX9, TX9, cl_9, by decide, tb_113⟩
theorem gX10_148 : aPd RX10 148 9 1 := ⟨RX9, TX9, cl_9, by decide, tb_113, by decide⟩
theorem fX10_164 : aFd RX10 164 10 15 := ⟨RX10, TX10, cl_10, by decide, tb_336⟩
theorem gX10_164 : aPd RX10 164 10 15 := ⟨RX10, TX10, cl_10, by decide, tb_336, by decide⟩
theorem fX10_170 : aFd RX10 170 1 9 := ⟨RX1, TX1, cl_1, by decide, tb_71⟩
theorem gX10_170 : aPd RX10 170 1 9 := ⟨RX1, TX1, cl_1, by decide, tb_71, by decide⟩
theorem fX10_177 : aFd RX10 177 1 2 := ⟨RX1, TX1, cl_1, by decide, tb_49⟩
theorem fX10_181 : aFd RX10 181 7 0 := ⟨RX7, TX7, cl_7, by decide, tb_127⟩
theorem fX10_219 : aFd RX10 219 4 2 := ⟨RX4, TX4, cl_4, by decide, tb_205⟩
theorem fX10_236 : aFd RX10 236 1 8 := ⟨RX1, TX1, cl_1, by decide, tb_70⟩
theorem gX10_236 : aPd RX10 236 1 8 := ⟨RX1, TX1, cl_1, by decide, tb_70, by decide⟩
theorem fX10_239 : aFd RX10 239 1 10 := ⟨RX1, TX1, cl_1, by decide, tb_74⟩
theorem gX10_239 : aPd RX10 239 1 10 := ⟨RX1, TX1, cl_1, by decide, tb_74, by decide⟩
theorem fX10_247 : aFd RX10 247 1 3 := ⟨RX1, TX1, cl_1, by decide, tb_51⟩
theorem fX10_256 : aFd RX10 256 10 12 := ⟨RX10, TX10, cl_10, by decide, tb_333⟩
theorem gX10_256 : aPd RX10 256 10 12 := ⟨RX10, TX10, cl_10, by decide, tb_333, by decide⟩
theorem fX10_275 : aFd RX10 275 1 11 := ⟨RX1, TX1, cl_1, by decide, tb_77⟩
theorem gX10_275 : aPd RX10 275 1 11 := ⟨RX1, TX1, cl_1, by decide, tb_77, by decide⟩
theorem fX10_278 : aFd RX10 278 1 4 := ⟨RX1, TX1, cl_1, by decide, tb_54⟩
theorem fX10_284 : aFd RX10 284 3 1 := ⟨RX3, TX3, cl_3, by decide, tb_267⟩
theorem fX10_287 : aFd RX10 287 3 2 := ⟨RX3, TX3, cl_3, by decide, tb_269⟩
theorem fX10_290 : aFd RX10 290 3 0 := ⟨RX3, TX3, cl_3, by decide, tb_265⟩
theorem fX10_298 : aFd RX10 298 10 13 := ⟨RX10, TX10, cl_10, by decide, tb_334⟩
theorem gX10_298 : aPd RX10 298 10 13 := ⟨RX10, TX10, cl_10, by decide, tb_334, by decide⟩
theorem fX10_304 : aFd RX10 304 10 16 := ⟨RX10, TX10, cl_10, by decide, tb_337⟩
theorem gX10_304 : aPd RX10 304 10 16 := ⟨RX10, TX10, cl_10, by decide, tb_337, by decide⟩
theorem fX0_11 : aFd RX0 11 0 0 := ⟨RX0, TX0, cl_0, by decide, tb_170⟩
theorem gX0_11 : aPd RX0 11 0 0 := ⟨RX0, TX0, cl_0, by decide, tb_170, by decide⟩
theorem fX0_17 : aFd RX0 17 0 1 := ⟨RX0, TX0, cl_0, by decide, tb_171⟩
theorem gX0_17 : aPd RX0 17 0 1 := ⟨RX0, TX0, cl_0, by decide, tb_171, by decide⟩
theorem fX0_25 : aFd RX0 25 6 2 := ⟨RX6, TX6, cl_6, by decide, tb_673⟩
theorem fX0_29 : aFd RX0 29 6 1 := ⟨RX6, TX6, cl_6, by decide, tb_671⟩
theorem fX0_32 : aFd RX0 32 6 0 := ⟨RX6, TX6, cl_6, by decide, tb_669⟩
theorem fX0_42 : aFd RX0 42 1 6 := ⟨RX1, TX1, cl_1, by decide, tb_61⟩
theorem fX0_64 : aFd RX0 64 1 5 := ⟨RX1, TX1, cl_1, by decide, tb_58⟩
theorem fX1_9 : aFd RX1 9 1 0 := ⟨RX1, TX1, cl_1, by decide, tb_40⟩
theorem gX1_9 : aPd RX1 9 1 0 := ⟨RX1, TX1, cl_1, by decide, tb_40, by decide⟩
theorem fX1_15 : aFd RX1 15 1 1 := ⟨RX1, TX1, cl_1, by decide, tb_43⟩
theorem gX1_15 : aPd RX1 15 1 1 := ⟨RX1, TX1, cl_1, by decide, tb_43, by decide⟩
theorem fX1_20 : aFd RX1 20 1 2 := ⟨RX1, TX1, cl_1, by decide, tb_48⟩
theorem gX1_20 : aPd RX1 20 1 2 := ⟨RX1, TX1, cl_1, by decide, tb_48, by decide⟩
theorem fX1_24 : aFd RX1 24 1 3 := ⟨RX1, TX1, cl_1, by decide, tb_50⟩
theorem gX1_24 : aPd RX1 24 1 3 := ⟨RX1, TX1, cl_1, by decide, tb_50, by decide⟩
theorem fX1_27 : aFd RX1 27 1 4 := ⟨RX1, TX1, cl_1, by decide, tb_52⟩
theorem gX1_27 : aPd RX1 27 1 4 := ⟨RX1, TX1, cl_1, by decide, tb_52, by decide⟩
theorem fX1_30 : aFd RX1 30 1 5 := ⟨RX1, TX1, cl_1, by decide, tb_55⟩
theorem gX1_30 : aPd RX1 30 1 5 := ⟨RX1, TX1, cl_1, by decide, tb_55, by decide⟩
theorem fX1_34 : aFd RX1 34 1 6 := ⟨RX1, TX1, cl_1, by decide, tb_60⟩
theorem gX1_34 : aPd RX1 34 1 6 := ⟨RX1, TX1, cl_1, by decide, tb_60, by decide⟩
theorem fX1_47 : aFd RX1 47 1 7 := ⟨RX1, TX1, cl_1, by decide, tb_68⟩
theorem gX1_47 : aPd RX1 47 1 7 := ⟨RX1, TX1, cl_1, by decide, tb_68, by decide⟩
theorem fX1_58 : aFd RX1 58 1 8 := ⟨RX1, TX1, cl_1, by decide, tb_69⟩
theorem gX1_58 : aPd RX1 58 1 8 := ⟨RX1, TX1, cl_1, by decide, tb_69, by decide⟩
theorem fX1_61 : aFd RX1 61 1 10 := ⟨RX1, TX1, cl_1, by decide, tb_73⟩
theorem gX1_61 : aPd RX1 61 1 10 := ⟨RX1, TX1, cl_1, by decide, tb_73, by decide⟩
theorem fX1_64 : aFd RX1 64 1 11 := ⟨RX1, TX1, cl_1, by decide, tb_76⟩
theorem gX1_64 : aPd RX1 64 1 11 := ⟨RX1, TX1, cl_1, by decide, tb_76, by decide⟩
theorem fX1_73 : aFd RX1 73 1 9 := ⟨RX1, TX1, cl_1, by decide, tb_72⟩
theorem gX1_73 : aPd RX1 73 1 9 := ⟨RX1, TX1, cl_1, by decide, tb_72, by decide⟩
theorem fX2_14 : aFd RX2 14 2 0 := ⟨RX2, TX2, cl_2, by decide, tb_301⟩
theorem gX2_14 : aPd RX2 14 2 0 := ⟨RX2, TX2, cl_2, by decide, tb_301, by decide⟩
theorem fX2_18 : aFd RX2 18 2 1 := ⟨RX2, TX2, cl_2, by decide, tb_302⟩
theorem gX2_18 : aPd RX2 18 2 1 := ⟨RX2, TX2, cl_2, by decide, tb_302, by decide⟩
theorem fX2_22 : aFd RX2 22 2 2 := ⟨RX2, TX2, cl_2, by decide, tb_303⟩
theorem gX2_22 : aPd RX2 22 2 2 := ⟨RX2, TX2, cl_2, by decide, tb_303, by decide⟩
theorem fX2_25 : aFd RX2 25 2 3 := ⟨RX2, TX2, cl_2, by decide, tb_304⟩
theorem gX2_25 : aPd RX2 25 2 3 := ⟨RX2, TX2, cl_2, by decide, tb_304, by decide⟩
theorem fX2_28 : aFd RX2 28 2 4 := ⟨RX2, TX2, cl_2, by decide, tb_305⟩
theorem gX2_28 : aPd RX2 28 2 4 := ⟨RX2, TX2, cl_2, by decide, tb_305, by decide⟩
theorem fX2_31 : aFd RX2 31 2 5 := ⟨RX2, TX2, cl_2, by decide, tb_306⟩
theorem gX2_31 : aPd RX2 31 2 5 := ⟨RX2, TX2, cl_2, by decide, tb_306, by decide⟩
theorem fX2_63 : aFd RX2 63 5 0 := ⟨RX5, TX5, cl_5, by decide, tb_192⟩
theorem fX3_9 : aFd RX3 9 3 0 := ⟨RX3, TX3, cl_3, by decide, tb_264⟩
theorem gX3_9 : aPd RX3 9 3 0 := ⟨RX3, TX3, cl_3, by decide, tb_264, by decide⟩
theorem fX3_15 : aFd RX3 15 3 6 := ⟨RX3, TX3, cl_3, by decide, tb_274⟩
theorem gX3_15 : aPd RX3 15 3 6 := ⟨RX3, TX3, cl_3, by decide, tb_274, by decide⟩
theorem fX3_19 : aFd RX3 19 3 7 := ⟨RX3, TX3, cl_3, by decide, tb_275⟩
theorem gX3_19 : aPd RX3 19 3 7 := ⟨RX3, TX3, cl_3, by decide, tb_275, by decide⟩
theorem fX3_22 : aFd RX3 22 3 4 := ⟨RX3, TX3, cl_3, by decide, tb_272⟩
theorem gX3_22 : aPd RX3 22 3 4 := ⟨RX3, TX3, cl_3, by decide, tb_272, by decide⟩
theorem fX3_26 : aFd RX3 26 4 0 := ⟨RX4, TX4, cl_4, by decide, tb_199⟩
theorem fX3_32 : aFd RX3 32 3 5 := ⟨RX3, TX3, cl_3, by decide, tb_273⟩
theorem gX3_32 : aPd RX3 32 3 5 := ⟨RX3, TX3, cl_3, by decide, tb_273, by decide⟩
theorem fX3_33 : aFd RX3 33 3 3 := ⟨RX3, TX3, cl_3, by decide, tb_270⟩
theorem gX3_33 : aPd RX3 33 3 3 := ⟨RX3, TX3, cl_3, by decide, tb_270, by decide⟩
theorem fX3_46 : aFd RX3 46 3 1 := ⟨RX3, TX3, cl_3, by decide, tb_266⟩
theorem gX3_46 : aPd RX3 46 3 1 := ⟨RX3, TX3, cl_3, by decide, tb_266, by decide⟩
theorem fX3_68 : aFd RX3 68 1 11 := ⟨RX1, TX1, cl_1, by decide, tb_75⟩
theorem fX3_71 : aFd RX3 71 1 5 := ⟨RX1, TX1, cl_1, by decide, tb_57⟩
theorem fX3_78 : aFd RX3 78 1 1 := ⟨RX1, TX1, cl_1, by decide, tb_44⟩
theorem fX3_81 : aFd RX3 81 1 4 := ⟨RX1, TX1, cl_1, by decide, tb_53⟩
theorem fX3_84 : aFd RX3 84 1 7 := ⟨RX1, TX1, cl_1, by decide, tb_66⟩
theorem fX3_87 : aFd RX3 87 4 1 := ⟨RX4, TX4, cl_4, by decide, tb_203⟩
theorem gX3_98 : aPd RX3 98 3 2 := ⟨RX3, TX3, cl_3, by decide, tb_268, by decide⟩
theorem fX4_9 : aFd RX4 9 4 1 := ⟨RX4, TX4, cl_4, by decide, tb_202⟩
theorem gX4_9 : aPd RX4 9 4 1 := ⟨RX4, TX4, cl_4, by decide, tb_202, by decide⟩
theorem fX4_15 : aFd RX4 15 4 2 := ⟨RX4, TX4, cl_4, by decide, tb_204⟩
theorem gX4_15 : aPd RX4 15 4 2 := ⟨RX4, TX4, cl_4, by decide, tb_204, by decide⟩
theorem fX4_18 : aFd RX4 18 4 3 := ⟨RX4, TX4, cl_4, by decide, tb_206⟩
theorem gX4_18 : aPd RX4 18 4 3 := ⟨RX4, TX4, cl_4, by decide, tb_206, by decide⟩
theorem fX4_26 : aFd RX4 26 4 4 := ⟨RX4, TX4, cl_4, by decide, tb_208⟩
theorem gX4_26 : aPd RX4 26 4 4 := ⟨RX4, TX4, cl_4, by decide, tb_208, by decide⟩
theorem fX4_30 : aFd RX4 30 4 5 := ⟨RX4, TX4, cl_4, by decide, tb_209⟩
theorem gX4_30 : aPd RX4 30 4 5 := ⟨RX4, TX4, cl_4, by decide, tb_209, by decide⟩
theorem fX4_33 : aFd RX4 33 4 6 := ⟨RX4, TX4, cl_4, by decide, tb_210⟩
theorem gX4_33 : aPd RX4 33 4 6 := ⟨RX4, TX4, cl_4, by decide, tb_210, by decide⟩
theorem fX4_37 : aFd RX4 37 4 7 := ⟨RX4, TX4, cl_4, by decide, tb_211⟩
theorem gX4_37 : aPd RX4 37 4 7 := ⟨RX4, TX4, cl_4, by decide, tb_211, by decide⟩
theorem fX4_40 : aFd RX4 40 4 8 := ⟨RX4, TX4, cl_4, by decide, tb_212⟩
theorem gX4_40 : aPd RX4 40 4 8 := ⟨RX4, TX4, cl_4, by decide, tb_212, by decide⟩
theorem fX4_43 : aFd RX4 43 4 9 := ⟨RX4, TX4, cl_4, by decide, tb_213⟩
theorem gX4_43 : aPd RX4 43 4 9 := ⟨RX4, TX4, cl_4, by decide, tb_213, by decide⟩
theorem fX4_47 : aFd RX4 47 4 0 := ⟨RX4, TX4, cl_4, by decide, tb_200⟩
theorem gX4_47 : aPd RX4 47 4 0 := ⟨RX4, TX4, cl_4, by decide, tb_200, by decide⟩
theorem fX4_51 : aFd RX4 51 4 10 := ⟨RX4, TX4, cl_4, by decide, tb_214⟩
theorem gX4_51 : aPd RX4 51 4 10 := ⟨RX4, TX4, cl_4, by decide, tb_214, by decide⟩
theorem fX4_55 : aFd RX4 55 4 11 := ⟨RX4, TX4, cl_4, by decide, tb_216⟩
theorem gX4_55 : aPd RX4 55 4 11 := ⟨RX4, TX4, cl_4, by decide, tb_216, by decide⟩
theorem fX4_58 : aFd RX4 58 4 12 := ⟨RX4, TX4, cl_4, by decide, tb_217⟩
theorem gX4_58 : aPd RX4 58 4 12 := ⟨RX4, TX4, cl_4, by decide, tb_217, by decide⟩
theorem fX4_67 : aFd RX4 67 5 0 := ⟨RX5, TX5, cl_5, by decide, tb_191⟩
theorem fX4_70 : aFd RX4 70 1 1 := ⟨RX1, TX1, cl_1, by decide, tb_46⟩
theorem fX4_79 : aFd RX4 79 1 7 := ⟨RX1, TX1, cl_1, by decide, tb_67⟩
theorem fX4_83 : aFd RX4 83 1 6 := ⟨RX1, TX1, cl_1, by decide, tb_64⟩
theorem fX4_146 : aFd RX4 146 1 5 := ⟨RX1, TX1, cl_1, by decide, tb_59⟩
theorem fX4_149 : aFd RX4 149 1 0 := ⟨RX1, TX1, cl_1, by decide, tb_42⟩
theorem fX5_9 : aFd RX5 9 5 1 := ⟨RX5, TX5, cl_5, by decide, tb_193⟩
theorem gX5_9 : aPd RX5 9 5 1 := ⟨RX5, TX5, cl_5, by decide, tb_193, by decide⟩
theorem fX5_15 : aFd RX5 15 5 0 := ⟨RX5, TX5, cl_5, by decide, tb_190⟩
theorem gX5_15 : aPd RX5 15 5 0 := ⟨RX5, TX5, cl_5, by decide, tb_190, by decide⟩
theorem gX6_7 : aPd RX6 7 6 0 := ⟨RX6, TX6, cl_6, by decide, tb_668, by decide⟩
theorem gX6_13 : aPd RX6 13 6 1 := ⟨RX6, TX6, cl_6, by decide, tb_670, by decide⟩
theorem gX6_16 : aPd RX6 16 6 2 := ⟨RX6, TX6, cl_6, by decide, tb_672, by decide⟩
theorem gX7_9 : aPd RX7 9 7 0 := ⟨RX7, TX7, cl_7, by decide, tb_126, by decide⟩
theorem fX7_15 : aFd RX7 15 7 2 := ⟨RX7, TX7, cl_7, by decide, tb_129⟩
theorem gX7_15 : aPd RX7 15 7 2 := ⟨RX7, TX7, cl_7, by decide, tb_129, by decide⟩
theorem fX7_19 : aFd RX7 19 7 3 := ⟨RX7, TX7, cl_7, by decide, tb_130⟩
theorem gX7_19 : aPd RX7 19 7 3 := ⟨RX7, TX7, cl_7, by decide, tb_130, by decide⟩
theorem fX7_22 : aFd RX7 22 7 4 := ⟨RX7, TX7, cl_7, by decide, tb_131⟩
theorem gX7_22 : aPd RX7 22 7 4 := ⟨RX7, TX7, cl_7, by decide, tb_131, by decide⟩
theorem fX7_25 : aFd RX7 25 7 5 := ⟨RX7, TX7, cl_7, by decide, tb_132⟩
theorem gX7_25 : aPd RX7 25 7 5 := ⟨RX7, TX7, cl_7, by decide, tb_132, by decide⟩
theorem fX7_28 : aFd RX7 28 7 1 := ⟨RX7, TX7, cl_7, by decide, tb_128⟩
theorem gX7_28 : aPd RX7 28 7 1 := ⟨RX7, TX7, cl_7, by decide, tb_128, by decide⟩
theorem fX7_35 : aFd RX7 35 7 7 := ⟨RX7, TX7, cl_7, by decide, tb_134⟩
theorem gX7_35 : aPd RX7 35 7 7 := ⟨RX7, TX7, cl_7, by decide, tb_134, by decide⟩
theorem fX7_38 : aFd RX7 38 7 8 := ⟨RX7, TX7, cl_7, by decide, tb_135⟩
theorem gX7_38 : aPd RX7 38 7 8 := ⟨RX7, TX7, cl_7, by decide, tb_135, by decide⟩
theorem fX7_41 : aFd RX7 41 7 9 := ⟨RX7, TX7, cl_7, by decide, tb_136⟩
theorem gX7_41 : aPd RX7 41 7 9 := ⟨RX7, TX7, cl_7, by decide, tb_136, by decide⟩
theorem fX7_44 : aFd RX7 44 7 10 := ⟨RX7, TX7, cl_7, by decide, tb_137⟩
theorem gX7_44 : aPd RX7 44 7 10 := ⟨RX7, TX7, cl_7, by decide, tb_137, by decide⟩
theorem fX7_47 : aFd RX7 47 7 11 := ⟨RX7, TX7, cl_7, by decide, tb_138⟩
theorem gX7_47 : aPd RX7 47 7 11 := ⟨RX7, TX7, cl_7, by decide, tb_138, by decide⟩
theorem fX7_116 : aFd RX7 116 7 6 := ⟨RX7, TX7, cl_7, by decide, tb_133⟩
theorem gX7_116 : aPd RX7 116 7 6 := ⟨RX7, TX7, cl_7, by decide, tb_133, by decide⟩
theorem fX7_128 : aFd RX7 128 9 1 := ⟨RX9, TX9, cl_9, by decide, tb_114⟩
theorem fX8_9 : aFd RX8 9 8 1 := ⟨RX8, TX8, cl_8, by decide, tb_252⟩
theorem gX8_9 : aPd RX8 9 8 1 := ⟨RX8, TX8, cl_8, by decide, tb_252, by decide⟩
theorem fX8_15 : aFd RX8 15 8 0 := ⟨RX8, TX8, cl_8, by decide, tb_251⟩
theorem gX8_15 : aPd RX8 15 8 0 := ⟨RX8, TX8, cl_8, by decide, tb_251, by decide⟩
theorem fX8_43 : aFd RX8 43 4 0 := ⟨RX4, TX4, cl_4, by decide, tb_201⟩
theorem fX8_47 : aFd RX8 47 1 1 := ⟨RX1, TX1, cl_1, by decide, tb_45⟩
theorem fX8_53 : aFd RX8 53 1 6 := ⟨RX1, TX1, cl_1, by decide, tb_63⟩
theorem fX8_57 : aFd RX8 57 4 3 := ⟨RX4, TX4, cl_4, by decide, tb_207⟩
theorem fX9_9 : aFd RX9 9 9 0 := ⟨RX9, TX9, cl_9, by decide, tb_111⟩
theorem gX9_9 : aPd RX9 9 9 0 := ⟨RX9, TX9, cl_9, by decide, tb_111, by decide⟩
theorem fX9_15 : aFd RX9 15 9 1 := ⟨RX9, TX9, cl_9, by decide, tb_112⟩
theorem gX9_15 : aPd RX9 15 9 1 := ⟨RX9, TX9, cl_9, by decide, tb_112, by decide⟩
theorem fX11_3 : aFd RX11 3 11 0 := ⟨RX11, TX11, cl_11, by decide, tb_1092⟩
theorem gX11_3 : aPd RX11 3 11 0 := ⟨RX11, TX11, cl_11, by decide, tb_1092, by decide⟩
theorem fX11_7 : aFd RX11 7 11 2 := ⟨RX11, TX11, cl_11, by decide, tb_1094⟩
theorem gX11_7 : aPd RX11 7 11 2 := ⟨RX11, TX11, cl_11, by decide, tb_1094, by decide⟩
theorem fX11_11 : aFd RX11 11 11 1 := ⟨RX11, TX11, cl_11, by decide, tb_1093⟩
theorem gX11_11 : aPd RX11 11 11 1 := ⟨RX11, TX11, cl_11, by decide, tb_1093, by decide⟩
theorem fX11_20 : aFd RX11 20 11 3 := ⟨RX11, TX11, cl_11, by decide, tb_1095⟩
theorem gX11_20 : aPd RX11 20 11 3 := ⟨RX11, TX11, cl_11, by decide, tb_1095, by decide⟩
theorem fX11_23 : aFd RX11 23 11 4 := ⟨RX11, TX11, cl_11, by decide, tb_1096⟩
theorem gX11_23 : aPd RX11 23 11 4 := ⟨RX11, TX11, cl_11, by decide, tb_1096, by decide⟩
theorem fX11_26 : aFd RX11 26 11 5 := ⟨RX11, TX11, cl_11, by decide, tb_1097⟩
theorem gX11_26 : aPd RX11 26 11 5 := ⟨RX11, TX11, cl_11, by decide, tb_1097, by decide⟩
theorem fX11_30 : aFd RX11 30 11 7 := ⟨RX11, TX11, cl_11, by decide, tb_1099⟩
theorem gX11_30 : aPd RX11 30 11 7 := ⟨RX11, TX11, cl_11, by decide, tb_1099, by decide⟩
theorem fX11_34 : aFd RX11 34 11 8 := ⟨RX11, TX11, cl_11, by decide, tb_1100⟩
theorem gX11_34 : aPd RX11 34 11 8 := ⟨RX11, TX11, cl_11, by decide, tb_1100, by decide⟩
theorem fX11_37 : aFd RX11 37 11 9 := ⟨RX11, TX11, cl_11, by decide, tb_1101⟩
theorem gX11_37 : aPd RX11 37 11 9 := ⟨RX11, TX11, cl_11, by decide, tb_1101, by decide⟩
theorem fX11_40 : aFd RX11 40 11 11 := ⟨RX11, TX11, cl_11, by decide, tb_1103⟩
theorem gX11_40 : aPd RX11 40 11 11 := ⟨RX11, TX11, cl_11, by decide, tb_1103, by decide⟩
theorem fX11_43 : aFd RX11 43 11 12 := ⟨RX11, TX11, cl_11, by decide, tb_1104⟩
theorem gX11_43 : aPd RX11 43 11 12 := ⟨RX11, TX11, cl_11, by decide, tb_1104, by decide⟩
theorem fX11_46 : aFd RX11 46 11 13 := ⟨RX11, TX11, cl_11, by decide, tb_1105⟩
theorem gX11_46 : aPd RX11 46 11 13 := ⟨RX11, TX11, cl_11, by decide, tb_1105, by decide⟩
theorem fX11_49 : aFd RX11 49 11 14 := ⟨RX11, TX11, cl_11, by decide, tb_1106⟩
theorem gX11_49 : aPd RX11 49 11 14 := ⟨RX11, TX11, cl_11, by decide, tb_1106, by decide⟩
theorem fX11_52 : aFd RX11 52 11 22 := ⟨RX11, TX11, cl_11, by decide, tb_1114⟩
theorem gX11_52 : aPd RX11 52 11 22 := ⟨RX11, TX11, cl_11, by decide, tb_1114, by decide⟩
theorem fX11_55 : aFd RX11 55 11 23 := ⟨RX11, TX11, cl_11, by decide, tb_1115⟩
theorem gX11_55 : aPd RX11 55 11 23 := ⟨RX11, TX11, cl_11, by decide, tb_1115, by decide⟩
theorem fX11_58 : aFd RX11 58 11 24 := ⟨RX11, TX11, cl_11, by decide, tb_1116⟩
theorem gX11_58 : aPd RX11 58 11 24 := ⟨RX11, TX11, cl_11, by decide, tb_1116, by decide⟩
theorem fX11_62 : aFd RX11 62 11 25 := ⟨RX11, TX11, cl_11, by decide, tb_1117⟩
theorem gX11_62 : aPd RX11 62 11 25 := ⟨RX11, TX11, cl_11, by decide, tb_1117, by decide⟩
theorem fX11_65 : aFd RX11 65 11 26 := ⟨RX11, TX11, cl_11, by decide, tb_1118⟩
theorem gX11_65 : aPd RX11 65 11 26 := ⟨RX11, TX11, cl_11, by decide, tb_1118, by decide⟩
theorem fX11_68 : aFd RX11 68 11 27 := ⟨RX11, TX11, cl_11, by decide, tb_1119⟩
theorem gX11_68 : aPd RX11 68 11 27 := ⟨RX11, TX11, cl_11, by decide, tb_1119, by decide⟩
theorem fX11_71 : aFd RX11 71 11 29 := ⟨RX11, TX11, cl_11, by decide, tb_1121⟩
theorem gX11_71 : aPd RX11 71 11 29 := ⟨RX11, TX11, cl_11, by decide, tb_1121, by decide⟩
theorem fX11_74 : aFd RX11 74 11 30 := ⟨RX11, TX11, cl_11, by decide, tb_1122⟩
theorem gX11_74 : aPd RX11 74 11 30 := ⟨RX11, TX11, cl_11, by decide, tb_1122, by decide⟩
theorem fX11_77 : aFd RX11 77 11 32 := ⟨RX11, TX11, cl_11, by decide, tb_1124⟩
theorem gX11_77 : aPd RX11 77 11 32 := ⟨RX11, TX11, cl_11, by decide, tb_1124, by decide⟩
theorem fX11_80 : aFd RX11 80 11 34 := ⟨RX11, TX11, cl_11, by decide, tb_1126⟩
theorem gX11_80 : aPd RX11 80 11 34 := ⟨RX11, TX11, cl_11, by decide, tb_1126, by decide⟩
theorem fX11_83 : aFd RX11 83 11 35 := ⟨RX11, TX11, cl_11, by decide, tb_1127⟩
theorem gX11_83 : aPd RX11 83 11 35 := ⟨RX11, TX11, cl_11, by decide, tb_1127, by decide⟩
theorem fX11_86 : aFd RX11 86 11 36 := ⟨RX11, TX11, cl_11, by decide, tb_1128⟩
theorem gX11_86 : aPd RX11 86 11 36 := ⟨RX11, TX11, cl_11, by decide, tb_1128, by decide⟩
theorem fX11_89 : aFd RX11 89 11 37 := ⟨RX11, TX11, cl_11, by decide, tb_1129⟩
theorem gX11_89 : aPd RX11 89 11 37 := ⟨RX11, TX11, cl_11, by decide, tb_1129, by decide⟩
theorem fX11_92 : aFd RX11 92 11 38 := ⟨RX11, TX11, cl_11, by decide, tb_1130⟩
theorem gX11_92 : aPd RX11 92 11 38 := ⟨RX11, TX11, cl_11, by decide, tb_1130, by decide⟩
theorem fX11_95 : aFd RX11 95 11 39 := ⟨RX11, TX11, cl_11, by decide, tb_1131⟩
theorem gX11_95 : aPd RX11 95 11 39 := ⟨RX11, TX11, cl_11, by decide, tb_1131, by decide⟩
theorem fX11_129 : aFd RX11 129 11 10 := ⟨RX11, TX11, cl_11, by decide, tb_1102⟩
theorem gX11_129 : aPd RX11 129 11 10 := ⟨RX11, TX11, cl_11, by decide, tb_1102, by decide⟩
theorem fX11_136 : aFd RX11 136 11 6 := ⟨RX11, TX11, cl_11, by decide, tb_1098⟩
theorem gX11_136 : aPd RX11 136 11 6 := ⟨RX11, TX11, cl_11, by decide, tb_1098, by decide⟩
theorem fX11_142 : aFd RX11 142 11 15 := ⟨RX11, TX11, cl_11, by decide, tb_1107⟩
theorem gX11_142 : aPd RX11 142 11 15 := ⟨RX11, TX11, cl_11, by decide, tb_1107, by decide⟩
theorem fX11_155 : aFd RX11 155 11 18 := ⟨RX11, TX11, cl_11, by decide, tb_1110⟩
theorem gX11_155 : aPd RX11 155 11 18 := ⟨RX11, TX11, cl_11, by decide, tb_1110, by decide⟩
theorem fX11_162 : aFd RX11 162 11 16 := ⟨RX11, TX11, cl_11, by decide, tb_1108⟩
theorem gX11_162 : aPd RX11 162 11 16 := ⟨RX11, TX11, cl_11, by decide, tb_1108, by decide⟩
theorem fX11_171 : aFd RX11 171 11 17 := ⟨RX11, TX11, cl_11, by decide, tb_1109⟩
theorem gX11_171 : aPd RX11 171 11 17 := ⟨RX11, TX11, cl_11, by decide, tb_1109, by decide⟩
theorem fX11_212 : aFd RX11 212 11 20 := ⟨RX11, TX11, cl_11, by decide, tb_1112⟩
theorem gX11_212 : aPd RX11 212 11 20 := ⟨RX11, TX11, cl_11, by decide, tb_1112, by decide⟩
theorem fX11_215 : aFd RX11 215 11 19 := ⟨RX11, TX11, cl_11, by decide, tb_1111⟩
theorem gX11_215 : aPd RX11 215 11 19 := ⟨RX11, TX11, cl_11, by decide, tb_1111, by decide⟩
theorem fX11_225 : aFd RX11 225 11 21 := ⟨RX11, TX11, cl_11, by decide, tb_1113⟩
theorem gX11_225 : aPd RX11 225 11 21 := ⟨RX11, TX11, cl_11, by decide, tb_1113, by decide⟩
theorem fX11_318 : aFd RX11 318 11 28 := ⟨RX11, TX11, cl_11, by decide, tb_1120⟩
theorem gX11_318 : aPd RX11 318 11 28 := ⟨RX11, TX11, cl_11, by decide, tb_1120, by decide⟩
theorem fX11_324 : aFd RX11 324 11 31 := ⟨RX11, TX11, cl_11, by decide, tb_1123⟩
theorem gX11_324 : aPd RX11 324 11 31 := ⟨RX11, TX11, cl_11, by decide, tb_1123, by decide⟩
theorem fX11_334 : aFd RX11 334 11 33 := ⟨RX11, TX11, cl_11, by decide, tb_1125⟩
theorem gX11_334 : aPd RX11 334 11 33 := ⟨RX11, TX11, cl_11, by decide, tb_1125, by decide⟩
theorem fX11_344 : aFd RX11 344 11 41 := ⟨RX11, TX11, cl_11, by decide, tb_1133⟩
theorem gX11_344 : aPd RX11 344 11 41 := ⟨RX11, TX11, cl_11, by decide, tb_1133, by decide⟩
theorem fX11_347 : aFd RX11 347 11 40 := ⟨RX11, TX11, cl_11, by decide, tb_1132⟩
theorem gX11_347 : aPd RX11 347 11 40 := ⟨RX11, TX11, cl_11, by decide, tb_1132, by decide⟩
theorem sX10_9 : aSI RX10 9 mX1_init 0 := ⟨⟨tc_X1_init, tb_31, tb_2, ⟨by decide, by decide, by decide +kernel⟩, by decide⟩, rfl, rfl, tb_32⟩
theorem sX10_22 : aSN RX10 22 mX9_init 0 := ⟨⟨tc_X9_init, ⟨_, List.mem_of_getElem? (i := 0) rfl, rfl, rfl, rfl⟩, tb_4, ⟨by decide, by decide, by decide +kernel⟩, by decide⟩, rfl, rfl, tb_108⟩
theorem sX10_29 : aSI RX10 29 mX7_init 1 := ⟨⟨tc_X7_init, tb_122, tb_5, ⟨by decide, by decide, by decide +kernel⟩, by decide⟩, rfl, rfl, tb_123⟩
theorem sX10_38 : aSN RX10 38 mX0_init 0 := ⟨⟨tc_X0_init, ⟨_, List.mem_of_getElem? (i := 1) rfl, rfl, rfl, rfl⟩, tb_6, ⟨by decide, by decide, by decide +kernel⟩, by decide⟩, rfl, rfl, tb_167⟩
theorem sX10_45 : aSI RX10 45 mX4_init 1 := ⟨⟨tc_X4_init, tb_180, tb_7, ⟨by decide, by decide, by decide +kernel⟩, by decide⟩, rfl, rfl, tb_181⟩
theorem sX10_54 : aSI RX10 54 mX8_init 1 := ⟨⟨tc_X8_init, tb_247, tb_9, ⟨by decide, by decide, by decide +kernel⟩, by decide⟩, rfl, rfl, tb_248⟩
theorem sX10_63 : aSI RX10 63 mX3_init 1 := ⟨⟨tc_X3_init, tb_260, tb_10, ⟨by decide, by decide, by decide +kernel⟩, by decide⟩, rfl, rfl, tb_261⟩
theorem sX10_70 : aSN RX10 70 mX2_init 0 := ⟨⟨tc_X2_init, ⟨_, List.mem_of_getElem? (i := 2) rfl, rfl, rfl, rfl⟩, tb_11, ⟨by decide, by decide, by decide +kernel⟩, by decide⟩, rfl, rfl, tb_296⟩
theorem sX10_89 : aSV RX10 89 mX10_refuse 1 10 := ⟨⟨tc_X10_refuse, tb_377, tb_1, ⟨by decide, by decide, by decide +kernel⟩, by decide⟩, tb_379, ts_X10_refuse, _, _, rfl⟩
theorem sX10_102 : aSS RX10 102 mJ7_fill_53178 2 := ⟨⟨tc_J7_fill_53178, tb_381, tb_3, ⟨by decide, by decide, by decide +kernel⟩, by decide⟩, tb_38⟩
theorem sX10_108 : aSV RX10 108 mX1_forget 0 1 := ⟨⟨tc_X1_forget, tb_382, tb_2, ⟨by decide, by decide, by decide +kernel⟩, by decide⟩, tb_383, tb_384, _, _, rfl⟩
theorem sX10_111 : aSV RX10 111 mX10_codeChanged 0 10 := ⟨⟨tc_X10_codeChanged, tb_386, tb_1, ⟨by decide, by decide, by decide +kernel⟩, by decide⟩, tb_388, ts_X10_codeChanged, _, _, rfl⟩
theorem sX10_114 : aSV RX10 114 mX10_accept 1 10 := ⟨⟨tc_X10_accept, tb_394, tb_1, ⟨by decide, by decide, by decide +kernel⟩, by decide⟩, tb_396, ts_X10_accept, _, _, rfl⟩
theorem sX10_120 : aSV RX10 120 mX1_isLamp 1 1 := ⟨⟨tc_X1_isLamp, tb_406, tb_2, ⟨by decide, by decide, by decide +kernel⟩, by decide⟩, tb_407, tb_408, _, _, rfl⟩
theorem sX10_131 : aSV RX10 131 mX1_isState 1 1 := ⟨⟨tc_X1_isState, tb_418, tb_2, ⟨by decide, by decide, by decide +kernel⟩, by decide⟩, tb_419, tb_420, _, _, rfl⟩
theorem sX10_134 : aSV RX10 134 mX1_isNews 1 1 := ⟨⟨tc_X1_isNews, tb_426, tb_2, ⟨by decide, by decide, by decide +kernel⟩, by decide⟩, tb_427, tb_428, _, _, rfl⟩
theorem sX10_140 : aSV RX10 140 mX9_hasRoom 0 9 := ⟨⟨tc_X9_hasRoom, tb_438, tb_4, ⟨by decide, by decide, by decide +kernel⟩, by decide⟩, tb_439, tb_440, _, _, rfl⟩
theorem sX10_144 : aSV RX10 144 mX9_put 1 9 := ⟨⟨tc_X9_put, tb_442, tb_4, ⟨by decide, by decide, by decide +kernel⟩, by decide⟩, tb_443, tb_444, _, _, rfl⟩
theorem sX10_151 : aSV RX10 151 mX1_full 0 1 := ⟨⟨tc_X1_full, tb_454, tb_2, ⟨by decide, by decide, by decide +kernel⟩, by decide⟩, tb_423, tb_424, _, _, rfl⟩
theorem sX10_155 : aSV RX10 155 mX9_byteAt 1 9 := ⟨⟨tc_X9_byteAt, tb_455, tb_4, ⟨by decide, by decide, by decide +kernel⟩, by decide⟩, tb_456, tb_457, _, _, rfl⟩
theorem sX10_167 : aSV RX10 167 mX1_readCount 0 1 := ⟨⟨tc_X1_readCount, tb_462, tb_2, ⟨by decide, by decide, by decide +kernel⟩, by decide⟩, tb_463, tb_464, _, _, rfl⟩
theorem sX10_173 : aSV RX10 173 mX7_understand 0 7 := ⟨⟨tc_X7_understand, tb_474, tb_5, ⟨by decide, by decide, by decide +kernel⟩, by decide⟩, tb_475, tb_476, _, _, rfl⟩
theorem sX10_184 : aSV RX10 184 mX0_ask 3 0 := ⟨⟨tc_X0_ask, tb_690, tb_6, ⟨by decide, by decide, by decide +kernel⟩, by decide⟩, tb_691, tb_692, _, _, rfl⟩
theorem sX10_188 : aSS RX10 188 mX10_isManner 1 := ⟨⟨tc_X10_isManner, tb_724, tb_1, ⟨by decide, by decide, by decide +kernel⟩, by decide⟩, tb_725⟩
theorem sX10_191 : aSV RX10 191 mX4_prepare 1 4 := ⟨⟨tc_X4_prepare, tb_727, tb_7, ⟨by decide, by decide, by decide +kernel⟩, by decide⟩, tb_728, tb_729, _, _, rfl⟩
theorem sX10_194 : aSV RX10 194 mX4_choose 3 4 := ⟨⟨tc_X4_choose, tb_775, tb_7, ⟨by decide, by decide, by decide +kernel⟩, by decide⟩, tb_776, tb_777, _, _, rfl⟩
theorem sX10_198 : aSV RX10 198 mX1_countWays 2 1 := ⟨⟨tc_X1_countWays, tb_793, tb_2, ⟨by decide, by decide, by decide +kernel⟩, by decide⟩, tb_794, tb_795, _, _, rfl⟩
theorem sX10_201 : aSV RX10 201 mX4_lastingOf 1 4 := ⟨⟨tc_X4_lastingOf, tb_802, tb_7, ⟨by decide, by decide, by decide +kernel⟩, by decide⟩, tb_803, tb_804, _, _, rfl⟩
theorem sX10_206 : aSV RX10 206 mX4_meanPart 2 4 := ⟨⟨tc_X4_meanPart, tb_811, tb_7, ⟨by decide, by decide, by decide +kernel⟩, by decide⟩, tb_812, tb_813, _, _, rfl⟩
theorem sX10_210 : aSV RX10 210 mX1_countReached 0 1 := ⟨⟨tc_X1_countReached, tb_822, tb_2, ⟨by decide, by decide, by decide +kernel⟩, by decide⟩, tb_823, tb_824, _, _, rfl⟩
theorem sX10_213 : aSV RX10 213 mX1_isReached 1 1 := ⟨⟨tc_X1_isReached, tb_830, tb_2, ⟨by decide, by decide, by decide +kernel⟩, by decide⟩, tb_827, tb_828, _, _, rfl⟩
theorem sX10_216 : aSV RX10 216 mX4_findFailing 0 4 := ⟨⟨tc_X4_findFailing, tb_835, tb_7, ⟨by decide, by decide, by decide +kernel⟩, by decide⟩, tb_836, tb_837, _, _, rfl⟩
theorem sX10_222 : aSV RX10 222 mX4_lastingWithout 1 4 := ⟨⟨tc_X4_lastingWithout, tb_847, tb_7, ⟨by decide, by decide, by decide +kernel⟩, by decide⟩, tb_848, tb_849, _, _, rfl⟩
theorem sX10_225 : aSS RX10 225 mX2_isSearched 3 := ⟨⟨tc_X2_isSearched, tb_855, tb_11, ⟨by decide, by decide, by decide +kernel⟩, by decide⟩, tb_856⟩
theorem sX10_229 : aSV RX10 229 mX2_countCodes 3 2 := ⟨⟨tc_X2_countCodes, tb_858, tb_11, ⟨by decide, by decide, by decide +kernel⟩, by decide⟩, tb_859, tb_860, _, _, rfl⟩
theorem sX10_232 : aSV RX10 232 mX2_copyFirst 4 2 := ⟨⟨tc_X2_copyFirst, tb_890, tb_11, ⟨by decide, by decide, by decide +kernel⟩, by decide⟩, tb_891, tb_892, _, _, rfl⟩
theorem sX10_242 : aSS RX10 242 mJ6_bitCount_0f7a4 1 := ⟨⟨tc_J6_bitCount_0f7a4, tb_899, tb_20, ⟨by decide, by decide, by decide +kernel⟩, by decide⟩, tb_699⟩
theorem sX10_250 : aSV RX10 250 mX4_oilOf 1 4 := ⟨⟨tc_X4_oilOf, tb_912, tb_7, ⟨by decide, by decide, by decide +kernel⟩, by decide⟩, tb_913, tb_914, _, _, rfl⟩
theorem sX10_259 : aSV RX10 259 mX4_wouldLight 3 4 := ⟨⟨tc_X4_wouldLight, tb_925, tb_7, ⟨by decide, by decide, by decide +kernel⟩, by decide⟩, tb_926, tb_927, _, _, rfl⟩
theorem sX10_262 : aSV RX10 262 mX10_isRowTo 3 10 := ⟨⟨tc_X10_isRowTo, tb_935, tb_1, ⟨by decide, by decide, by decide +kernel⟩, by decide⟩, tb_937, ts_X10_isRowTo, _, _, rfl⟩
theorem sX10_265 : aSV RX10 265 mX8_countRows 5 8 := ⟨⟨tc_X8_countRows, tb_939, tb_9, ⟨by decide, by decide, by decide +kernel⟩, by decide⟩, tb_940, tb_941, _, _, rfl⟩
theorem sX10_269 : aSV RX10 269 mX1_newsBit 1 1 := ⟨⟨tc_X1_newsBit, tb_967, tb_2, ⟨by decide, by decide, by decide +kernel⟩, by decide⟩, tb_968, tb_969, _, _, rfl⟩
theorem sX10_272 : aSV RX10 272 mX4_findSafe 0 4 := ⟨⟨tc_X4_findSafe, tb_975, tb_7, ⟨by decide, by decide, by decide +kernel⟩, by decide⟩, tb_976, tb_977, _, _, rfl⟩
theorem sX10_281 : aSV RX10 281 mX3_solve 0 3 := ⟨⟨tc_X3_solve, tb_1001, tb_10, ⟨by decide, by decide, by decide +kernel⟩, by decide⟩, tb_1002, tb_1003, _, _, rfl⟩
theorem sX10_294 : aSV RX10 294 mX10_drawNight 3 10 := ⟨⟨tc_X10_drawNight, tb_1050, tb_1, ⟨by decide, by decide, by decide +kernel⟩, by decide⟩, tb_1052, ts_X10_drawNight, _, _, rfl⟩
theorem sX10_301 : aSV RX10 301 mX1_copyFrom 1 1 := ⟨⟨tc_X1_copyFrom, tb_1065, tb_2, ⟨by decide, by decide, by decide +kernel⟩, by decide⟩, tb_1066, tb_1067, _, _, rfl⟩
theorem sX10_307 : aSV RX10 307 mX4_forgetTables 0 4 := ⟨⟨tc_X4_forgetTables, tb_390, tb_7, ⟨by decide, by decide, by decide +kernel⟩, by decide⟩, tb_391, tb_392, _, _, rfl⟩
theorem sX0_21 : aSV RX0 21 mX0_fillWords 2 0 := ⟨⟨tc_X0_fillWords, tb_694, tb_6, ⟨by decide, by decide, by decide +kernel⟩, by decide⟩, tb_696, ts_X0_fillWords, _, _, rfl⟩
theorem sX0_35 : aSV RX0 35 mX0_isSo 3 0 := ⟨⟨tc_X0_isSo, tb_704, tb_6, ⟨by decide, by decide, by decide +kernel⟩, by decide⟩, tb_706, ts_X0_isSo, _, _, rfl⟩
theorem sX0_39 : aSV RX0 39 mX0_works 3 0 := ⟨⟨tc_X0_works, tb_708, tb_6, ⟨by decide, by decide, by decide +kernel⟩, by decide⟩, tb_710, ts_X0_works, _, _, rfl⟩
theorem sX0_56 : aSV RX0 56 mX0_join 2 0 := ⟨⟨tc_X0_join, tb_714, tb_6, ⟨by decide, by decide, by decide +kernel⟩, by decide⟩, tb_716, ts_X0_join, _, _, rfl⟩
theorem sX0_67 : aSS RX0 67 mJ6_bitCount_0f7a4 1 := ⟨⟨tc_J6_bitCount_0f7a4, tb_698, tb_20, ⟨by decide, by decide, by decide +kernel⟩, by decide⟩, tb_699⟩
theorem sX1_37 : aSS RX1 37 mJ7_fill_53178 2 := ⟨⟨tc_J7_fill_53178, tb_37, tb_3, ⟨by decide, by decide, by decide +kernel⟩, by decide⟩, tb_38⟩
theorem sX1_43 : aSV RX1 43 mX1_full 0 1 := ⟨⟨tc_X1_full, tb_422, tb_2, ⟨by decide, by decide, by decide +kernel⟩, by decide⟩, tb_423, tb_424, _, _, rfl⟩
theorem sX1_50 : aSV RX1 50 mX1_isReached 1 1 := ⟨⟨tc_X1_isReached, tb_826, tb_2, ⟨by decide, by decide, by decide +kernel⟩, by decide⟩, tb_827, tb_828, _, _, rfl⟩
theorem sX1_54 : aSV RX1 54 mX1_canLight 2 1 := ⟨⟨tc_X1_canLight, tb_797, tb_2, ⟨by decide, by decide, by decide +kernel⟩, by decide⟩, tb_768, tb_769, _, _, rfl⟩
theorem sX2_11 : aSI RX2 11 mX5_init 1 := ⟨⟨tc_X5_init, tb_300, tb_8, ⟨by decide, by decide, by decide +kernel⟩, by decide⟩, rfl, rfl, tb_187⟩
theorem sX2_35 : aSS RX2 35 mX2_pairOf 2 := ⟨⟨tc_X2_pairOf, tb_862, tb_11, ⟨by decide, by decide, by decide +kernel⟩, by decide⟩, tb_863⟩
theorem sX2_39 : aSV RX2 39 mX2_search 3 2 := ⟨⟨tc_X2_search, tb_865, tb_11, ⟨by decide, by decide, by decide +kernel⟩, by decide⟩, tb_867, ts_X2_search, _, _, rfl⟩
theorem sX2_43 : aSV RX2 43 mX2_countCodes 3 2 := ⟨⟨tc_X2_countCodes, tb_894, tb_11, ⟨by decide, by decide, by decide +kernel⟩, by decide⟩, tb_859, tb_860, _, _, rfl⟩
theorem sX2_53 : aSS RX2 53 mJ7_fill_53178 2 := ⟨⟨tc_J7_fill_53178, tb_869, tb_3, ⟨by decide, by decide, by decide +kernel⟩, by decide⟩, tb_38⟩
theorem sX2_60 : aSV RX2 60 mX5_fill 4 5 := ⟨⟨tc_X5_fill, tb_871, tb_8, ⟨by decide, by decide, by decide +kernel⟩, by decide⟩, tb_741, tb_742, _, _, rfl⟩
theorem sX2_66 : aSS RX2 66 mX2_namings 2 := ⟨⟨tc_X2_namings, tb_872, tb_11, ⟨by decide, by decide, by decide +kernel⟩, by decide⟩, tb_873⟩
theorem sX2_69 : aSV RX2 69 mX2_note 3 2 := ⟨⟨tc_X2_note, tb_875, tb_11, ⟨by decide, by decide, by decide +kernel⟩, by decide⟩, tb_877, ts_X2_note, _, _, rfl⟩
theorem sX2_72 : aSV RX2 72 mX2_turnOn 2 2 := ⟨⟨tc_X2_turnOn, tb_880, tb_11, ⟨by decide, by decide, by decide +kernel⟩, by decide⟩, tb_882, ts_X2_turnOn, _, _, rfl⟩
theorem sX3_37 : aSV RX3 37 mX4_fillOil 0 4 := ⟨⟨tc_X4_fillOil, tb_1005, tb_7, ⟨by decide, by decide, by decide +kernel⟩, by decide⟩, tb_732, tb_733, _, _, rfl⟩
theorem sX3_40 : aSV RX3 40 mX3_countWays 0 3 := ⟨⟨tc_X3_countWays, tb_1006, tb_10, ⟨by decide, by decide, by decide +kernel⟩, by decide⟩, tb_1008, ts_X3_countWays, _, _, rfl⟩
theorem sX3_43 : aSV RX3 43 mX3_findLeast 0 3 := ⟨⟨tc_X3_findLeast, tb_1016, tb_10, ⟨by decide, by decide, by decide +kernel⟩, by decide⟩, tb_1018, ts_X3_findLeast, _, _, rfl⟩
theorem sX3_50 : aSV RX3 50 mX3_findOpen 0 3 := ⟨⟨tc_X3_findOpen, tb_1024, tb_10, ⟨by decide, by decide, by decide +kernel⟩, by decide⟩, tb_1026, ts_X3_findOpen, _, _, rfl⟩
theorem sX3_53 : aSV RX3 53 mX3_findStates 0 3 := ⟨⟨tc_X3_findStates, tb_1036, tb_10, ⟨by decide, by decide, by decide +kernel⟩, by decide⟩, tb_1038, ts_X3_findStates, _, _, rfl⟩
theorem sX3_56 : aSS RX3 56 mJ7_fill_d0a16 2 := ⟨⟨tc_J7_fill_d0a16, tb_1010, tb_3, ⟨by decide, by decide, by decide +kernel⟩, by decide⟩, tb_765⟩
theorem sX3_62 : aSV RX3 62 mX1_full 0 1 := ⟨⟨tc_X1_full, tb_1011, tb_2, ⟨by decide, by decide, by decide +kernel⟩, by decide⟩, tb_423, tb_424, _, _, rfl⟩
theorem sX3_74 : aSV RX3 74 mX3_spreadUp 2 3 := ⟨⟨tc_X3_spreadUp, tb_1012, tb_10, ⟨by decide, by decide, by decide +kernel⟩, by decide⟩, tb_1014, ts_X3_spreadUp, _, _, rfl⟩
theorem sX3_101 : aSV RX3 101 mX3_goesOn 2 3 := ⟨⟨tc_X3_goesOn, tb_1028, tb_10, ⟨by decide, by decide, by decide +kernel⟩, by decide⟩, tb_1030, ts_X3_goesOn, _, _, rfl⟩
theorem sX3_105 : aSV RX3 105 mX3_spreadDown 3 3 := ⟨⟨tc_X3_spreadDown, tb_1032, tb_10, ⟨by decide, by decide, by decide +kernel⟩, by decide⟩, tb_1034, ts_X3_spreadDown, _, _, rfl⟩
theorem sX3_109 : aSV RX3 109 mX1_canLight 2 1 := ⟨⟨tc_X1_canLight, tb_1040, tb_2, ⟨by decide, by decide, by decide +kernel⟩, by decide⟩, tb_768, tb_769, _, _, rfl⟩
theorem sX4_23 : aSI RX4 23 mX5_init 1 := ⟨⟨tc_X5_init, tb_186, tb_8, ⟨by decide, by decide, by decide +kernel⟩, by decide⟩, rfl, rfl, tb_187⟩
theorem sX4_61 : aSV RX4 61 mX4_fillOil 0 4 := ⟨⟨tc_X4_fillOil, tb_731, tb_7, ⟨by decide, by decide, by decide +kernel⟩, by decide⟩, tb_732, tb_733, _, _, rfl⟩
theorem sX4_64 : aSV RX4 64 mX4_fillLasting 0 4 := ⟨⟨tc_X4_fillLasting, tb_735, tb_7, ⟨by decide, by decide, by decide +kernel⟩, by decide⟩, tb_737, ts_X4_fillLasting, _, _, rfl⟩
theorem sX4_75 : aSV RX4 75 mX1_full 0 1 := ⟨⟨tc_X1_full, tb_739, tb_2, ⟨by decide, by decide, by decide +kernel⟩, by decide⟩, tb_423, tb_424, _, _, rfl⟩
theorem sX4_86 : aSV RX4 86 mX5_fill 4 5 := ⟨⟨tc_X5_fill, tb_740, tb_8, ⟨by decide, by decide, by decide +kernel⟩, by decide⟩, tb_741, tb_742, _, _, rfl⟩
theorem sX4_90 : aSV RX4 90 mX4_fillMean 0 4 := ⟨⟨tc_X4_fillMean, tb_751, tb_7, ⟨by decide, by decide, by decide +kernel⟩, by decide⟩, tb_753, ts_X4_fillMean, _, _, rfl⟩
theorem sX4_93 : aSS RX4 93 mX4_commonDivisor 2 := ⟨⟨tc_X4_commonDivisor, tb_815, tb_7, ⟨by decide, by decide, by decide +kernel⟩, by decide⟩, tb_816⟩
theorem sX4_102 : aSV RX4 102 mX4_chooseAll 2 4 := ⟨⟨tc_X4_chooseAll, tb_779, tb_7, ⟨by decide, by decide, by decide +kernel⟩, by decide⟩, tb_780, tb_781, _, _, rfl⟩
theorem sX4_106 : aSS RX4 106 mJ7_fill_53178 2 := ⟨⟨tc_J7_fill_53178, tb_783, tb_3, ⟨by decide, by decide, by decide +kernel⟩, by decide⟩, tb_38⟩
theorem sX4_111 : aSV RX4 111 mX1_canLight 2 1 := ⟨⟨tc_X1_canLight, tb_767, tb_2, ⟨by decide, by decide, by decide +kernel⟩, by decide⟩, tb_768, tb_769, _, _, rfl⟩
theorem sX4_115 : aSV RX4 115 mX4_isBetter 3 4 := ⟨⟨tc_X4_isBetter, tb_784, tb_7, ⟨by decide, by decide, by decide +kernel⟩, by decide⟩, tb_786, ts_X4_isBetter, _, _, rfl⟩
theorem sX4_119 : aSV RX4 119 mX1_isState 1 1 := ⟨⟨tc_X1_isState, tb_929, tb_2, ⟨by decide, by decide, by decide +kernel⟩, by decide⟩, tb_419, tb_420, _, _, rfl⟩
theorem sX4_123 : aSV RX4 123 mX4_choose 3 4 := ⟨⟨tc_X4_choose, tb_930, tb_7, ⟨by decide, by decide, by decide +kernel⟩, by decide⟩, tb_776, tb_777, _, _, rfl⟩
theorem sX4_127 : aSV RX4 127 mX4_lastsBy 1 4 := ⟨⟨tc_X4_lastsBy, tb_839, tb_7, ⟨by decide, by decide, by decide +kernel⟩, by decide⟩, tb_841, ts_X4_lastsBy, _, _, rfl⟩
theorem sX4_131 : aSV RX4 131 mX4_firstDoubt 2 4 := ⟨⟨tc_X4_firstDoubt, tb_979, tb_7, ⟨by decide, by decide, by decide +kernel⟩, by decide⟩, tb_981, ts_X4_firstDoubt, _, _, rfl⟩
theorem sX4_138 : aSS RX4 138 mJ6_bitCount_0f7a4 1 := ⟨⟨tc_J6_bitCount_0f7a4, tb_788, tb_20, ⟨by decide, by decide, by decide +kernel⟩, by decide⟩, tb_699⟩
theorem sX4_143 : aSV RX4 143 mX1_newsBit 1 1 := ⟨⟨tc_X1_newsBit, tb_983, tb_2, ⟨by decide, by decide, by decide +kernel⟩, by decide⟩, tb_968, tb_969, _, _, rfl⟩
theorem sX4_152 : aSV RX4 152 mX4_meanOf 1 4 := ⟨⟨tc_X4_meanOf, tb_755, tb_7, ⟨by decide, by decide, by decide +kernel⟩, by decide⟩, tb_757, ts_X4_meanOf, _, _, rfl⟩
theorem sX4_156 : aSV RX4 156 mX4_fillRichest 1 4 := ⟨⟨tc_X4_fillRichest, tb_759, tb_7, ⟨by decide, by decide, by decide +kernel⟩, by decide⟩, tb_761, ts_X4_fillRichest, _, _, rfl⟩
theorem sX4_163 : aSS RX4 163 mJ7_fill_d0a16 2 := ⟨⟨tc_J7_fill_d0a16, tb_764, tb_3, ⟨by decide, by decide, by decide +kernel⟩, by decide⟩, tb_765⟩
theorem sX5_24 : aSV RX5 24 mX5_fillBest 4 5 := ⟨⟨tc_X5_fillBest, tb_745, tb_8, ⟨by decide, by decide, by decide +kernel⟩, by decide⟩, tb_747, ts_X5_fillBest, _, _, rfl⟩
theorem sX5_28 : aSS RX5 28 mJ7_fill_53178 2 := ⟨⟨tc_J7_fill_53178, tb_749, tb_3, ⟨by decide, by decide, by decide +kernel⟩, by decide⟩, tb_38⟩
theorem sX7_32 : aSV RX7 32 mX7_findTokens 0 7 := ⟨⟨tc_X7_findTokens, tb_478, tb_5, ⟨by decide, by decide, by decide +kernel⟩, by decide⟩, tb_480, ts_X7_findTokens, _, _, rfl⟩
theorem sX7_50 : aSV RX7 50 mX7_takeClauses 0 7 := ⟨⟨tc_X7_takeClauses, tb_581, tb_5, ⟨by decide, by decide, by decide +kernel⟩, by decide⟩, tb_583, ts_X7_takeClauses, _, _, rfl⟩
theorem sX7_56 : aSS RX7 56 mJ7_copyOf_59c91 2 := ⟨⟨tc_J7_copyOf_59c91, tb_650, tb_3, ⟨by decide, by decide, by decide +kernel⟩, by decide⟩, tb_651⟩
theorem sX7_62 : aSI RX7 62 mX6_init 3 := ⟨⟨tc_X6_init, tb_664, tb_18, ⟨by decide, by decide, by decide +kernel⟩, by decide⟩, rfl, rfl, tb_665⟩
theorem sX7_65 : aSV RX7 65 mX7_takeClause 0 7 := ⟨⟨tc_X7_takeClause, tb_585, tb_5, ⟨by decide, by decide, by decide +kernel⟩, by decide⟩, tb_587, ts_X7_takeClause, _, _, rfl⟩
theorem sX7_68 : aSV RX7 68 mX7_fail 0 7 := ⟨⟨tc_X7_fail, tb_589, tb_5, ⟨by decide, by decide, by decide +kernel⟩, by decide⟩, tb_591, ts_X7_fail, _, _, rfl⟩
theorem sX7_71 : aSV RX7 71 mX7_advance 0 7 := ⟨⟨tc_X7_advance, tb_593, tb_5, ⟨by decide, by decide, by decide +kernel⟩, by decide⟩, tb_595, ts_X7_advance, _, _, rfl⟩
theorem sX7_74 : aSV RX7 74 mX7_takeSum 1 7 := ⟨⟨tc_X7_takeSum, tb_597, tb_5, ⟨by decide, by decide, by decide +kernel⟩, by decide⟩, tb_599, ts_X7_takeSum, _, _, rfl⟩
theorem sX7_78 : aSV RX7 78 mX7_takeTest 1 7 := ⟨⟨tc_X7_takeTest, tb_620, tb_5, ⟨by decide, by decide, by decide +kernel⟩, by decide⟩, tb_622, ts_X7_takeTest, _, _, rfl⟩
theorem sX7_81 : aSV RX7 81 mX7_takeBoth 1 7 := ⟨⟨tc_X7_takeBoth, tb_624, tb_5, ⟨by decide, by decide, by decide +kernel⟩, by decide⟩, tb_626, ts_X7_takeBoth, _, _, rfl⟩
theorem sX7_84 : aSV RX7 84 mX7_openSkip 1 7 := ⟨⟨tc_X7_openSkip, tb_640, tb_5, ⟨by decide, by decide, by decide +kernel⟩, by decide⟩, tb_642, ts_X7_openSkip, _, _, rfl⟩
theorem sX7_88 : aSV RX7 88 mX7_closeSkip 1 7 := ⟨⟨tc_X7_closeSkip, tb_644, tb_5, ⟨by decide, by decide, by decide +kernel⟩, by decide⟩, tb_646, ts_X7_closeSkip, _, _, rfl⟩
theorem sX7_92 : aSV RX7 92 mX7_takePlain 1 7 := ⟨⟨tc_X7_takePlain, tb_628, tb_5, ⟨by decide, by decide, by decide +kernel⟩, by decide⟩, tb_630, ts_X7_takePlain, _, _, rfl⟩
theorem sX7_95 : aSV RX7 95 mX7_takeBracketed 1 7 := ⟨⟨tc_X7_takeBracketed, tb_632, tb_5, ⟨by decide, by decide, by decide +kernel⟩, by decide⟩, tb_634, ts_X7_takeBracketed, _, _, rfl⟩
theorem sX7_98 : aSV RX7 98 mX7_takeComparison 1 7 := ⟨⟨tc_X7_takeComparison, tb_636, tb_5, ⟨by decide, by decide, by decide +kernel⟩, by decide⟩, tb_638, ts_X7_takeComparison, _, _, rfl⟩
theorem sX7_101 : aSV RX7 101 mX7_step 1 7 := ⟨⟨tc_X7_step, tb_613, tb_5, ⟨by decide, by decide, by decide +kernel⟩, by decide⟩, tb_615, ts_X7_step, _, _, rfl⟩
theorem sX7_104 : aSV RX7 104 mX7_takeSign 1 7 := ⟨⟨tc_X7_takeSign, tb_609, tb_5, ⟨by decide, by decide, by decide +kernel⟩, by decide⟩, tb_611, ts_X7_takeSign, _, _, rfl⟩
theorem sX7_107 : aSS RX7 107 mX7_stepOf 1 := ⟨⟨tc_X7_stepOf, tb_617, tb_5, ⟨by decide, by decide, by decide +kernel⟩, by decide⟩, tb_618⟩
theorem sX7_110 : aSV RX7 110 mX7_takeTerm 1 7 := ⟨⟨tc_X7_takeTerm, tb_601, tb_5, ⟨by decide, by decide, by decide +kernel⟩, by decide⟩, tb_603, ts_X7_takeTerm, _, _, rfl⟩
theorem sX7_113 : aSV RX7 113 mX7_takePart 1 7 := ⟨⟨tc_X7_takePart, tb_605, tb_5, ⟨by decide, by decide, by decide +kernel⟩, by decide⟩, tb_607, ts_X7_takePart, _, _, rfl⟩
theorem sX7_125 : aSV RX7 125 mX7_skipBlanks 1 7 := ⟨⟨tc_X7_skipBlanks, tb_482, tb_5, ⟨by decide, by decide, by decide +kernel⟩, by decide⟩, tb_484, ts_X7_skipBlanks, _, _, rfl⟩
theorem sX7_133 : aSV RX7 133 mX7_stopOf 1 7 := ⟨⟨tc_X7_stopOf, tb_487, tb_5, ⟨by decide, by decide, by decide +kernel⟩, by decide⟩, tb_489, ts_X7_stopOf, _, _, rfl⟩
theorem sX7_136 : aSV RX7 136 mX7_kindOf 2 7 := ⟨⟨tc_X7_kindOf, tb_497, tb_5, ⟨by decide, by decide, by decide +kernel⟩, by decide⟩, tb_499, ts_X7_kindOf, _, _, rfl⟩
theorem sX7_139 : aSV RX7 139 mX9_byteAt 1 9 := ⟨⟨tc_X9_byteAt, tb_486, tb_4, ⟨by decide, by decide, by decide +kernel⟩, by decide⟩, tb_456, tb_457, _, _, rfl⟩
theorem sX7_142 : aSS RX7 142 mX7_isLetter 1 := ⟨⟨tc_X7_isLetter, tb_491, tb_5, ⟨by decide, by decide, by decide +kernel⟩, by decide⟩, tb_492⟩
theorem sX7_145 : aSS RX7 145 mX7_isDigit 1 := ⟨⟨tc_X7_isDigit, tb_494, tb_5, ⟨by decide, by decide, by decide +kernel⟩, by decide⟩, tb_495⟩
theorem sX7_148 : aSV RX7 148 mX7_wordKind 2 7 := ⟨⟨tc_X7_wordKind, tb_501, tb_5, ⟨by decide, by decide, by decide +kernel⟩, by decide⟩, tb_503, ts_X7_wordKind, _, _, rfl⟩
theorem sX7_151 : aSV RX7 151 mX7_numberAt 2 7 := ⟨⟨tc_X7_numberAt, tb_574, tb_5, ⟨by decide, by decide, by decide +kernel⟩, by decide⟩, tb_576, ts_X7_numberAt, _, _, rfl⟩
theorem sX7_156 : aSV RX7 156 mX9_spells 3 9 := ⟨⟨tc_X9_spells, tb_506, tb_4, ⟨by decide, by decide, by decide +kernel⟩, by decide⟩, tb_507, tb_508, _, _, rfl⟩
theorem sX7_168 : aSV RX7 168 mX7_partKind 2 7 := ⟨⟨tc_X7_partKind, tb_562, tb_5, ⟨by decide, by decide, by decide +kernel⟩, by decide⟩, tb_564, ts_X7_partKind, _, _, rfl⟩
theorem sX8_19 : aSV RX8 19 mX4_prepare 1 4 := ⟨⟨tc_X4_prepare, tb_943, tb_7, ⟨by decide, by decide, by decide +kernel⟩, by decide⟩, tb_728, tb_729, _, _, rfl⟩
theorem sX8_25 : aSS RX8 25 mJ7_fill_bad5a 4 := ⟨⟨tc_J7_fill_bad5a, tb_944, tb_3, ⟨by decide, by decide, by decide +kernel⟩, by decide⟩, tb_945⟩
theorem sX8_31 : aSV RX8 31 mX8_isMet 2 8 := ⟨⟨tc_X8_isMet, tb_950, tb_9, ⟨by decide, by decide, by decide +kernel⟩, by decide⟩, tb_952, ts_X8_isMet, _, _, rfl⟩
theorem sX8_35 : aSV RX8 35 mX8_spread 5 8 := ⟨⟨tc_X8_spread, tb_954, tb_9, ⟨by decide, by decide, by decide +kernel⟩, by decide⟩, tb_956, ts_X8_spread, _, _, rfl⟩
theorem sX8_39 : aSV RX8 39 mX4_chooseAll 2 4 := ⟨⟨tc_X4_chooseAll, tb_958, tb_7, ⟨by decide, by decide, by decide +kernel⟩, by decide⟩, tb_780, tb_781, _, _, rfl⟩
theorem sX9_19 : aSX RX9 19 mJ0_length_8abf5 0 := ⟨⟨tc_J0_length_8abf5, tb_510, tb_14, ⟨by decide, by decide, by decide +kernel⟩, by decide⟩, tb_511, tb_512, rfl⟩
theorem sX9_24 : aSX RX9 24 mJ0_charAt_5068e 1 := ⟨⟨tc_J0_charAt_5068e, tb_520, tb_14, ⟨by decide, by decide, by decide +kernel⟩, by decide⟩, tb_521, tb_522, rfl⟩
theorem sL_9 : aSI RL 9 mX10_init 0 := ⟨⟨tc_X10_init, tb_23, tb_1, ⟨by decide, by decide, by decide +kernel⟩, by decide⟩, rfl, rfl, tb_24⟩
theorem sL_12 : aSI RL 12 mX11_init 0 := ⟨⟨tc_X11_init, tb_1084, tb_12, ⟨by decide, by decide, by decide +kernel⟩, by decide⟩, rfl, rfl, tb_1085⟩
theorem sL_13 : aSV RL 13 mX10_lamps 1 10 := ⟨⟨tc_X10_lamps, tb_373, tb_1, ⟨by decide, by decide, by decide +kernel⟩, by decide⟩, tb_374, tb_375, _, _, rfl⟩
theorem sL_17 : aSV RL 17 mX11_lamps 1 11 := ⟨⟨tc_X11_lamps, tb_1238, tb_12, ⟨by decide, by decide, by decide +kernel⟩, by decide⟩, tb_1239, tb_1240, _, _, rfl⟩
theorem sL_18 : aSV RL 18 mX10_news 1 10 := ⟨⟨tc_X10_news, tb_398, tb_1, ⟨by decide, by decide, by decide +kernel⟩, by decide⟩, tb_399, tb_400, _, _, rfl⟩
theorem sL_21 : aSV RL 21 mX11_news 1 11 := ⟨⟨tc_X11_news, tb_1242, tb_12, ⟨by decide, by decide, by decide +kernel⟩, by decide⟩, tb_1243, tb_1244, _, _, rfl⟩
theorem sL_22 : aSV RL 22 mX10_oil 2 10 := ⟨⟨tc_X10_oil, tb_402, tb_1, ⟨by decide, by decide, by decide +kernel⟩, by decide⟩, tb_403, tb_404, _, _, rfl⟩
theorem sL_26 : aSV RL 26 mX11_oil 2 11 := ⟨⟨tc_X11_oil, tb_1246, tb_12, ⟨by decide, by decide, by decide +kernel⟩, by decide⟩, tb_1247, tb_1248, _, _, rfl⟩
theorem sL_27 : aSV RL 27 mX10_broken 2 10 := ⟨⟨tc_X10_broken, tb_410, tb_1, ⟨by decide, by decide, by decide +kernel⟩, by decide⟩, tb_411, tb_412, _, _, rfl⟩
theorem sL_30 : aSV RL 30 mX11_broken 2 11 := ⟨⟨tc_X11_broken, tb_1254, tb_12, ⟨by decide, by decide, by decide +kernel⟩, by decide⟩, tb_1255, tb_1256, _, _, rfl⟩
theorem sL_31 : aSV RL 31 mX10_read 2 10 := ⟨⟨tc_X10_read, tb_414, tb_1, ⟨by decide, by decide, by decide +kernel⟩, by decide⟩, tb_415, tb_416, _, _, rfl⟩
theorem sL_34 : aSV RL 34 mX11_read 2 11 := ⟨⟨tc_X11_read, tb_1258, tb_12, ⟨by decide, by decide, by decide +kernel⟩, by decide⟩, tb_1259, tb_1260, _, _, rfl⟩
theorem sL_35 : aSV RL 35 mX10_of 1 10 := ⟨⟨tc_X10_of, tb_430, tb_1, ⟨by decide, by decide, by decide +kernel⟩, by decide⟩, tb_431, tb_432, _, _, rfl⟩
theorem sL_38 : aSV RL 38 mX11_of 1 11 := ⟨⟨tc_X11_of, tb_1278, tb_12, ⟨by decide, by decide, by decide +kernel⟩, by decide⟩, tb_1279, tb_1280, _, _, rfl⟩
theorem sL_39 : aSV RL 39 mX10_feed 5 10 := ⟨⟨tc_X10_feed, tb_434, tb_1, ⟨by decide, by decide, by decide +kernel⟩, by decide⟩, tb_435, tb_436, _, _, rfl⟩
theorem sL_43 : aSV RL 43 mX11_feed 5 11 := ⟨⟨tc_X11_feed, tb_1297, tb_12, ⟨by decide, by decide, by decide +kernel⟩, by decide⟩, tb_1298, tb_1299, _, _, rfl⟩
theorem sL_44 : aSV RL 44 mX10_end 1 10 := ⟨⟨tc_X10_end, tb_446, tb_1, ⟨by decide, by decide, by decide +kernel⟩, by decide⟩, tb_447, tb_448, _, _, rfl⟩
theorem sL_47 : aSV RL 47 mX11_end 1 11 := ⟨⟨tc_X11_end, tb_1301, tb_12, ⟨by decide, by decide, by decide +kernel⟩, by decide⟩, tb_1302, tb_1303, _, _, rfl⟩
theorem sL_48 : aSV RL 48 mX10_row 0 10 := ⟨⟨tc_X10_row, tb_450, tb_1, ⟨by decide, by decide, by decide +kernel⟩, by decide⟩, tb_451, tb_452, _, _, rfl⟩
theorem sL_52 : aSV RL 52 mX11_row 0 11 := ⟨⟨tc_X11_row, tb_1282, tb_12, ⟨by decide, by decide, by decide +kernel⟩, by decide⟩, tb_1283, tb_1284, _, _, rfl⟩
theorem sL_53 : aSV RL 53 mX10_torn 0 10 := ⟨⟨tc_X10_torn, tb_466, tb_1, ⟨by decide, by decide, by decide +kernel⟩, by decide⟩, tb_467, tb_468, _, _, rfl⟩
theorem sL_56 : aSV RL 56 mX11_torn 0 11 := ⟨⟨tc_X11_torn, tb_1293, tb_12, ⟨by decide, by decide, by decide +kernel⟩, by decide⟩, tb_1294, tb_1295, _, _, rfl⟩
theorem sL_57 : aSV RL 57 mX10_law 0 10 := ⟨⟨tc_X10_law, tb_470, tb_1, ⟨by decide, by decide, by decide +kernel⟩, by decide⟩, tb_471, tb_472, _, _, rfl⟩
theorem sL_60 : aSV RL 60 mX11_law 0 11 := ⟨⟨tc_X11_law, tb_1305, tb_12, ⟨by decide, by decide, by decide +kernel⟩, by decide⟩, tb_1306, tb_1307, _, _, rfl⟩
theorem sL_61 : aSV RL 61 mX10_fault 0 10 := ⟨⟨tc_X10_fault, tb_682, tb_1, ⟨by decide, by decide, by decide +kernel⟩, by decide⟩, tb_683, tb_684, _, _, rfl⟩
theorem sL_64 : aSV RL 64 mX11_fault 0 11 := ⟨⟨tc_X11_fault, tb_1379, tb_12, ⟨by decide, by decide, by decide +kernel⟩, by decide⟩, tb_1380, tb_1381, _, _, rfl⟩
theorem sL_65 : aSV RL 65 mX10_learn 1 10 := ⟨⟨tc_X10_learn, tb_686, tb_1, ⟨by decide, by decide, by decide +kernel⟩, by decide⟩, tb_687, tb_688, _, _, rfl⟩
theorem sL_68 : aSV RL 68 mX11_learn 1 11 := ⟨⟨tc_X11_learn, tb_1383, tb_12, ⟨by decide, by decide, by decide +kernel⟩, by decide⟩, tb_1384, tb_1385, _, _, rfl⟩
theorem sL_69 : aSV RL 69 mX10_next 3 10 := ⟨⟨tc_X10_next, tb_720, tb_1, ⟨by decide, by decide, by decide +kernel⟩, by decide⟩, tb_721, tb_722, _, _, rfl⟩
theorem sL_73 : aSV RL 73 mX11_next 3 11 := ⟨⟨tc_X11_next, tb_1485, tb_12, ⟨by decide, by decide, by decide +kernel⟩, by decide⟩, tb_1486, tb_1487, _, _, rfl⟩
theorem sL_74 : aSV RL 74 mX10_ways 2 10 := ⟨⟨tc_X10_ways, tb_789, tb_1, ⟨by decide, by decide, by decide +kernel⟩, by decide⟩, tb_790, tb_791, _, _, rfl⟩
theorem sL_77 : aSV RL 77 mX11_ways 2 11 := ⟨⟨tc_X11_ways, tb_1504, tb_12, ⟨by decide, by decide, by decide +kernel⟩, by decide⟩, tb_1505, tb_1506, _, _, rfl⟩
theorem sL_78 : aSV RL 78 mX10_lasts 1 10 := ⟨⟨tc_X10_lasts, tb_798, tb_1, ⟨by decide, by decide, by decide +kernel⟩, by decide⟩, tb_799, tb_800, _, _, rfl⟩
theorem sL_81 : aSV RL 81 mX11_lasts 1 11 := ⟨⟨tc_X11_lasts, tb_1441, tb_12, ⟨by decide, by decide, by decide +kernel⟩, by decide⟩, tb_1442, tb_1443, _, _, rfl⟩
theorem sL_82 : aSV RL 82 mX10_mean 2 10 := ⟨⟨tc_X10_mean, tb_806, tb_1, ⟨by decide, by decide, by decide +kernel⟩, by decide⟩, tb_807, tb_808, _, _, rfl⟩
theorem sL_86 : aSV RL 86 mX11_mean 2 11 := ⟨⟨tc_X11_mean, tb_1478, tb_12, ⟨by decide, by decide, by decide +kernel⟩, by decide⟩, tb_1479, tb_1480, _, _, rfl⟩
theorem sL_87 : aSV RL 87 mX10_reached 1 10 := ⟨⟨tc_X10_reached, tb_818, tb_1, ⟨by decide, by decide, by decide +kernel⟩, by decide⟩, tb_819, tb_820, _, _, rfl⟩
theorem sL_90 : aSV RL 90 mX11_reached 1 11 := ⟨⟨tc_X11_reached, tb_1508, tb_12, ⟨by decide, by decide, by decide +kernel⟩, by decide⟩, tb_1509, tb_1510, _, _, rfl⟩
theorem sL_91 : aSV RL 91 mX10_failing 1 10 := ⟨⟨tc_X10_failing, tb_831, tb_1, ⟨by decide, by decide, by decide +kernel⟩, by decide⟩, tb_832, tb_833, _, _, rfl⟩
theorem sL_94 : aSV RL 94 mX11_failing 1 11 := ⟨⟨tc_X11_failing, tb_1516, tb_12, ⟨by decide, by decide, by decide +kernel⟩, by decide⟩, tb_1517, tb_1518, _, _, rfl⟩
theorem sL_95 : aSV RL 95 mX10_hurts 1 10 := ⟨⟨tc_X10_hurts, tb_843, tb_1, ⟨by decide, by decide, by decide +kernel⟩, by decide⟩, tb_844, tb_845, _, _, rfl⟩
theorem sL_98 : aSV RL 98 mX11_hurts 1 11 := ⟨⟨tc_X11_hurts, tb_1524, tb_12, ⟨by decide, by decide, by decide +kernel⟩, by decide⟩, tb_1525, tb_1526, _, _, rfl⟩
theorem sL_99 : aSV RL 99 mX10_codes 3 10 := ⟨⟨tc_X10_codes, tb_851, tb_1, ⟨by decide, by decide, by decide +kernel⟩, by decide⟩, tb_852, tb_853, _, _, rfl⟩
theorem sL_102 : aSV RL 102 mX11_codes 3 11 := ⟨⟨tc_X11_codes, tb_1528, tb_12, ⟨by decide, by decide, by decide +kernel⟩, by decide⟩, tb_1529, tb_1530, _, _, rfl⟩
theorem sL_103 : aSV RL 103 mX10_make 3 10 := ⟨⟨tc_X10_make, tb_886, tb_1, ⟨by decide, by decide, by decide +kernel⟩, by decide⟩, tb_887, tb_888, _, _, rfl⟩
theorem sL_106 : aSV RL 106 mX11_make 3 11 := ⟨⟨tc_X11_make, tb_1539, tb_12, ⟨by decide, by decide, by decide +kernel⟩, by decide⟩, tb_1540, tb_1541, _, _, rfl⟩
theorem sL_107 : aSV RL 107 mX10_send 2 10 := ⟨⟨tc_X10_send, tb_895, tb_1, ⟨by decide, by decide, by decide +kernel⟩, by decide⟩, tb_896, tb_897, _, _, rfl⟩
theorem sL_110 : aSV RL 110 mX11_send 2 11 := ⟨⟨tc_X11_send, tb_1543, tb_12, ⟨by decide, by decide, by decide +kernel⟩, by decide⟩, tb_1544, tb_1545, _, _, rfl⟩
theorem sL_111 : aSV RL 111 mX10_dawn 0 10 := ⟨⟨tc_X10_dawn, tb_900, tb_1, ⟨by decide, by decide, by decide +kernel⟩, by decide⟩, tb_901, tb_902, _, _, rfl⟩
theorem sL_114 : aSV RL 114 mX11_dawn 0 11 := ⟨⟨tc_X11_dawn, tb_1547, tb_12, ⟨by decide, by decide, by decide +kernel⟩, by decide⟩, tb_1548, tb_1549, _, _, rfl⟩
theorem sL_115 : aSV RL 115 mX10_log 1 10 := ⟨⟨tc_X10_log, tb_904, tb_1, ⟨by decide, by decide, by decide +kernel⟩, by decide⟩, tb_905, tb_906, _, _, rfl⟩
theorem sL_118 : aSV RL 118 mX11_log 1 11 := ⟨⟨tc_X11_log, tb_1551, tb_12, ⟨by decide, by decide, by decide +kernel⟩, by decide⟩, tb_1552, tb_1553, _, _, rfl⟩
theorem sL_119 : aSV RL 119 mX10_burnt 0 10 := ⟨⟨tc_X10_burnt, tb_908, tb_1, ⟨by decide, by decide, by decide +kernel⟩, by decide⟩, tb_909, tb_910, _, _, rfl⟩
theorem sL_122 : aSV RL 122 mX11_burnt 0 11 := ⟨⟨tc_X11_burnt, tb_1555, tb_12, ⟨by decide, by decide, by decide +kernel⟩, by decide⟩, tb_1556, tb_1557, _, _, rfl⟩
theorem sL_123 : aSV RL 123 mX10_trail 0 10 := ⟨⟨tc_X10_trail, tb_916, tb_1, ⟨by decide, by decide, by decide +kernel⟩, by decide⟩, tb_917, tb_918, _, _, rfl⟩
theorem sL_126 : aSV RL 126 mX11_trail 0 11 := ⟨⟨tc_X11_trail, tb_1559, tb_12, ⟨by decide, by decide, by decide +kernel⟩, by decide⟩, tb_1560, tb_1561, _, _, rfl⟩
theorem sL_127 : aSV RL 127 mX10_judge 1 10 := ⟨⟨tc_X10_judge, tb_921, tb_1, ⟨by decide, by decide, by decide +kernel⟩, by decide⟩, tb_922, tb_923, _, _, rfl⟩
theorem sL_130 : aSV RL 130 mX11_judge 1 11 := ⟨⟨tc_X11_judge, tb_1563, tb_12, ⟨by decide, by decide, by decide +kernel⟩, by decide⟩, tb_1564, tb_1565, _, _, rfl⟩
theorem sL_131 : aSV RL 131 mX10_rows 3 10 := ⟨⟨tc_X10_rows, tb_931, tb_1, ⟨by decide, by decide, by decide +kernel⟩, by decide⟩, tb_932, tb_933, _, _, rfl⟩
theorem sL_135 : aSV RL 135 mX11_rows 3 11 := ⟨⟨tc_X11_rows, tb_1567, tb_12, ⟨by decide, by decide, by decide +kernel⟩, by decide⟩, tb_1568, tb_1569, _, _, rfl⟩
theorem sL_136 : aSV RL 136 mX10_could 5 10 := ⟨⟨tc_X10_could, tb_959, tb_1, ⟨by decide, by decide, by decide +kernel⟩, by decide⟩, tb_960, tb_961, _, _, rfl⟩
theorem sL_140 : aSV RL 140 mX11_could 5 11 := ⟨⟨tc_X11_could, tb_1575, tb_12, ⟨by decide, by decide, by decide +kernel⟩, by decide⟩, tb_1576, tb_1577, _, _, rfl⟩
theorem sL_141 : aSV RL 141 mX10_maybe 2 10 := ⟨⟨tc_X10_maybe, tb_963, tb_1, ⟨by decide, by decide, by decide +kernel⟩, by decide⟩, tb_964, tb_965, _, _, rfl⟩
theorem sL_144 : aSV RL 144 mX11_maybe 2 11 := ⟨⟨tc_X11_maybe, tb_1579, tb_12, ⟨by decide, by decide, by decide +kernel⟩, by decide⟩, tb_1580, tb_1581, _, _, rfl⟩
theorem sL_145 : aSV RL 145 mX10_safe 0 10 := ⟨⟨tc_X10_safe, tb_971, tb_1, ⟨by decide, by decide, by decide +kernel⟩, by decide⟩, tb_972, tb_973, _, _, rfl⟩
theorem sL_148 : aSV RL 148 mX11_safe 0 11 := ⟨⟨tc_X11_safe, tb_1583, tb_12, ⟨by decide, by decide, by decide +kernel⟩, by decide⟩, tb_1584, tb_1585, _, _, rfl⟩
theorem sL_149 : aSV RL 149 mX10_spy 1 10 := ⟨⟨tc_X10_spy, tb_985, tb_1, ⟨by decide, by decide, by decide +kernel⟩, by decide⟩, tb_986, tb_987, _, _, rfl⟩
theorem sL_152 : aSV RL 152 mX11_spy 1 11 := ⟨⟨tc_X11_spy, tb_1587, tb_12, ⟨by decide, by decide, by decide +kernel⟩, by decide⟩, tb_1588, tb_1589, _, _, rfl⟩
theorem sL_153 : aSV RL 153 mX10_want 1 10 := ⟨⟨tc_X10_want, tb_989, tb_1, ⟨by decide, by decide, by decide +kernel⟩, by decide⟩, tb_990, tb_991, _, _, rfl⟩
theorem sL_156 : aSV RL 156 mX11_want 1 11 := ⟨⟨tc_X11_want, tb_1591, tb_12, ⟨by decide, by decide, by decide +kernel⟩, by decide⟩, tb_1592, tb_1593, _, _, rfl⟩
theorem sL_157 : aSV RL 157 mX10_unwant 0 10 := ⟨⟨tc_X10_unwant, tb_993, tb_1, ⟨by decide, by decide, by decide +kernel⟩, by decide⟩, tb_994, tb_995, _, _, rfl⟩
theorem sL_160 : aSV RL 160 mX11_unwant 0 11 := ⟨⟨tc_X11_unwant, tb_1595, tb_12, ⟨by decide, by decide, by decide +kernel⟩, by decide⟩, tb_1596, tb_1597, _, _, rfl⟩
theorem sL_161 : aSV RL 161 mX10_cheap 1 10 := ⟨⟨tc_X10_cheap, tb_997, tb_1, ⟨by decide, by decide, by decide +kernel⟩, by decide⟩, tb_998, tb_999, _, _, rfl⟩
theorem sL_164 : aSV RL 164 mX11_cheap 1 11 := ⟨⟨tc_X11_cheap, tb_1599, tb_12, ⟨by decide, by decide, by decide +kernel⟩, by decide⟩, tb_1600, tb_1601, _, _, rfl⟩
theorem sL_165 : aSV RL 165 mX10_plan 1 10 := ⟨⟨tc_X10_plan, tb_1041, tb_1, ⟨by decide, by decide, by decide +kernel⟩, by decide⟩, tb_1042, tb_1043, _, _, rfl⟩
theorem sL_168 : aSV RL 168 mX11_plan 1 11 := ⟨⟨tc_X11_plan, tb_1607, tb_12, ⟨by decide, by decide, by decide +kernel⟩, by decide⟩, tb_1608, tb_1609, _, _, rfl⟩
theorem sL_169 : aSV RL 169 mX10_night 3 10 := ⟨⟨tc_X10_night, tb_1045, tb_1, ⟨by decide, by decide, by decide +kernel⟩, by decide⟩, tb_1046, tb_1047, _, _, rfl⟩
theorem sL_172 : aSV RL 172 mX11_night 3 11 := ⟨⟨tc_X11_night, tb_1611, tb_12, ⟨by decide, by decide, by decide +kernel⟩, by decide⟩, tb_1612, tb_1613, _, _, rfl⟩
theorem sL_173 : aSV RL 173 mX10_drawn 1 10 := ⟨⟨tc_X10_drawn, tb_1057, tb_1, ⟨by decide, by decide, by decide +kernel⟩, by decide⟩, tb_1058, tb_1059, _, _, rfl⟩
theorem sL_176 : aSV RL 176 mX11_drawn 1 11 := ⟨⟨tc_X11_drawn, tb_1618, tb_12, ⟨by decide, by decide, by decide +kernel⟩, by decide⟩, tb_1619, tb_1620, _, _, rfl⟩
theorem sL_177 : aSV RL 177 mX10_image 1 10 := ⟨⟨tc_X10_image, tb_1061, tb_1, ⟨by decide, by decide, by decide +kernel⟩, by decide⟩, tb_1062, tb_1063, _, _, rfl⟩
theorem sL_180 : aSV RL 180 mX11_image 1 11 := ⟨⟨tc_X11_image, tb_1219, tb_12, ⟨by decide, by decide, by decide +kernel⟩, by decide⟩, tb_1220, tb_1221, _, _, rfl⟩
theorem sL_181 : aSV RL 181 mX10_back 1 10 := ⟨⟨tc_X10_back, tb_1070, tb_1, ⟨by decide, by decide, by decide +kernel⟩, by decide⟩, tb_1071, tb_1072, _, _, rfl⟩
theorem sL_184 : aSV RL 184 mX11_back 1 11 := ⟨⟨tc_X11_back, tb_1234, tb_12, ⟨by decide, by decide, by decide +kernel⟩, by decide⟩, tb_1235, tb_1236, _, _, rfl⟩
theorem sL_185 : aSV RL 185 mX10_count 1 10 := ⟨⟨tc_X10_count, tb_1074, tb_1, ⟨by decide, by decide, by decide +kernel⟩, by decide⟩, tb_1075, tb_1076, _, _, rfl⟩
theorem sL_188 : aSV RL 188 mX11_count 1 11 := ⟨⟨tc_X11_count, tb_1622, tb_12, ⟨by decide, by decide, by decide +kernel⟩, by decide⟩, tb_1623, tb_1624, _, _, rfl⟩
theorem sL_189 : aSV RL 189 mX10_status 0 10 := ⟨⟨tc_X10_status, tb_1078, tb_1, ⟨by decide, by decide, by decide +kernel⟩, by decide⟩, tb_1079, tb_1080, _, _, rfl⟩
theorem sL_192 : aSV RL 192 mX11_status 0 11 := ⟨⟨tc_X11_status, tb_1626, tb_12, ⟨by decide, by decide, by decide +kernel⟩, by decide⟩, tb_1627, tb_1628, _, _, rfl⟩
theorem sX11_98 : aSV RX11 98 mX11_empties 0 11 := ⟨⟨tc_X11_empties, tb_1088, tb_12, ⟨by decide, by decide, by decide +kernel⟩, by decide⟩, tb_1090, ts_X11_empties, _, _, rfl⟩
theorem sX11_101 : aSS RX11 101 mX11_lies 3 := ⟨⟨tc_X11_lies, tb_1223, tb_12, ⟨by decide, by decide, by decide +kernel⟩, by decide⟩, tb_1224⟩
theorem sX11_105 : aSV RX11 105 mX11_refuses 1 11 := ⟨⟨tc_X11_refuses, tb_1226, tb_12, ⟨by decide, by decide, by decide +kernel⟩, by decide⟩, tb_1228, ts_X11_refuses, _, _, rfl⟩
theorem sX11_109 : aSV RX11 109 mX11_good 1 11 := ⟨⟨tc_X11_good, tb_1230, tb_12, ⟨by decide, by decide, by decide +kernel⟩, by decide⟩, tb_1232, ts_X11_good, _, _, rfl⟩
theorem sX11_112 : aSV RX11 112 mX11_states 0 11 := ⟨⟨tc_X11_states, tb_1266, tb_12, ⟨by decide, by decide, by decide +kernel⟩, by decide⟩, tb_1268, ts_X11_states, _, _, rfl⟩
theorem sX11_116 : aSV RX11 116 mX11_isLamp 1 11 := ⟨⟨tc_X11_isLamp, tb_1250, tb_12, ⟨by decide, by decide, by decide +kernel⟩, by decide⟩, tb_1252, ts_X11_isLamp, _, _, rfl⟩
theorem sX11_120 : aSV RX11 120 mX11_isState 1 11 := ⟨⟨tc_X11_isState, tb_1262, tb_12, ⟨by decide, by decide, by decide +kernel⟩, by decide⟩, tb_1264, ts_X11_isState, _, _, rfl⟩
theorem sX11_123 : aSV RX11 123 mX11_isNews 1 11 := ⟨⟨tc_X11_isNews, tb_1270, tb_12, ⟨by decide, by decide, by decide +kernel⟩, by decide⟩, tb_1272, ts_X11_isNews, _, _, rfl⟩
theorem sX11_126 : aSV RX11 126 mX11_readOf 1 11 := ⟨⟨tc_X11_readOf, tb_1274, tb_12, ⟨by decide, by decide, by decide +kernel⟩, by decide⟩, tb_1276, ts_X11_readOf, _, _, rfl⟩
theorem sX11_132 : aSS RX11 132 mX11_greater 2 := ⟨⟨tc_X11_greater, tb_1286, tb_12, ⟨by decide, by decide, by decide +kernel⟩, by decide⟩, tb_1287⟩
theorem sX11_139 : aSV RX11 139 mX11_readMany 0 11 := ⟨⟨tc_X11_readMany, tb_1289, tb_12, ⟨by decide, by decide, by decide +kernel⟩, by decide⟩, tb_1291, ts_X11_readMany, _, _, rfl⟩
theorem sX11_145 : aSS RX11 145 mX11_isSmall 1 := ⟨⟨tc_X11_isSmall, tb_1317, tb_12, ⟨by decide, by decide, by decide +kernel⟩, by decide⟩, tb_1318⟩
theorem sX11_148 : aSS RX11 148 mX11_isDigit 1 := ⟨⟨tc_X11_isDigit, tb_1320, tb_12, ⟨by decide, by decide, by decide +kernel⟩, by decide⟩, tb_1321⟩
theorem sX11_151 : aSV RX11 151 mX11_wordOf 2 11 := ⟨⟨tc_X11_wordOf, tb_1323, tb_12, ⟨by decide, by decide, by decide +kernel⟩, by decide⟩, tb_1325, ts_X11_wordOf, _, _, rfl⟩
theorem sX11_158 : aSV RX11 158 mX11_fine 0 11 := ⟨⟨tc_X11_fine, tb_1340, tb_12, ⟨by decide, by decide, by decide +kernel⟩, by decide⟩, tb_1342, ts_X11_fine, _, _, rfl⟩
theorem sX11_165 : aSV RX11 165 mX11_takes0 1 11 := ⟨⟨tc_X11_takes0, tb_1336, tb_12, ⟨by decide, by decide, by decide +kernel⟩, by decide⟩, tb_1338, ts_X11_takes0, _, _, rfl⟩
theorem sX11_168 : aSV RX11 168 mX11_faults 0 11 := ⟨⟨tc_X11_faults, tb_1344, tb_12, ⟨by decide, by decide, by decide +kernel⟩, by decide⟩, tb_1346, ts_X11_faults, _, _, rfl⟩
theorem sX11_174 : aSV RX11 174 mX11_must 1 11 := ⟨⟨tc_X11_must, tb_1332, tb_12, ⟨by decide, by decide, by decide +kernel⟩, by decide⟩, tb_1334, ts_X11_must, _, _, rfl⟩
theorem sX11_178 : aSV RX11 178 mX11_readSum 1 11 := ⟨⟨tc_X11_readSum, tb_1348, tb_12, ⟨by decide, by decide, by decide +kernel⟩, by decide⟩, tb_1350, ts_X11_readSum, _, _, rfl⟩
theorem sX11_181 : aSV RX11 181 mX11_readTest 1 11 := ⟨⟨tc_X11_readTest, tb_1367, tb_12, ⟨by decide, by decide, by decide +kernel⟩, by decide⟩, tb_1369, ts_X11_readTest, _, _, rfl⟩
theorem sX11_184 : aSV RX11 184 mX11_readBoth 1 11 := ⟨⟨tc_X11_readBoth, tb_1371, tb_12, ⟨by decide, by decide, by decide +kernel⟩, by decide⟩, tb_1373, ts_X11_readBoth, _, _, rfl⟩
theorem sX11_187 : aSV RX11 187 mX11_readPlain 1 11 := ⟨⟨tc_X11_readPlain, tb_1375, tb_12, ⟨by decide, by decide, by decide +kernel⟩, by decide⟩, tb_1377, ts_X11_readPlain, _, _, rfl⟩
theorem sX11_190 : aSS RX11 190 mX11_sign 1 := ⟨⟨tc_X11_sign, tb_1360, tb_12, ⟨by decide, by decide, by decide +kernel⟩, by decide⟩, tb_1361⟩
theorem sX11_194 : aSV RX11 194 mX11_readTerm 1 11 := ⟨⟨tc_X11_readTerm, tb_1352, tb_12, ⟨by decide, by decide, by decide +kernel⟩, by decide⟩, tb_1354, ts_X11_readTerm, _, _, rfl⟩
theorem sX11_197 : aSV RX11 197 mX11_readPart 1 11 := ⟨⟨tc_X11_readPart, tb_1356, tb_12, ⟨by decide, by decide, by decide +kernel⟩, by decide⟩, tb_1358, ts_X11_readPart, _, _, rfl⟩
theorem sX11_200 : aSV RX11 200 mX11_leaf 0 11 := ⟨⟨tc_X11_leaf, tb_1363, tb_12, ⟨by decide, by decide, by decide +kernel⟩, by decide⟩, tb_1365, ts_X11_leaf, _, _, rfl⟩
theorem sX11_203 : aSV RX11 203 mX11_splits 1 11 := ⟨⟨tc_X11_splits, tb_1313, tb_12, ⟨by decide, by decide, by decide +kernel⟩, by decide⟩, tb_1315, ts_X11_splits, _, _, rfl⟩
theorem sX11_206 : aSV RX11 206 mX11_readClause 0 11 := ⟨⟨tc_X11_readClause, tb_1328, tb_12, ⟨by decide, by decide, by decide +kernel⟩, by decide⟩, tb_1330, ts_X11_readClause, _, _, rfl⟩
theorem sX11_209 : aSV RX11 209 mX11_reads 0 11 := ⟨⟨tc_X11_reads, tb_1309, tb_12, ⟨by decide, by decide, by decide +kernel⟩, by decide⟩, tb_1311, ts_X11_reads, _, _, rfl⟩
theorem sX11_218 : aSV RX11 218 mX11_codeAt 1 11 := ⟨⟨tc_X11_codeAt, tb_1415, tb_12, ⟨by decide, by decide, by decide +kernel⟩, by decide⟩, tb_1417, ts_X11_codeAt, _, _, rfl⟩
theorem sX11_229 : aSV RX11 229 mX11_termOf 1 11 := ⟨⟨tc_X11_termOf, tb_1403, tb_12, ⟨by decide, by decide, by decide +kernel⟩, by decide⟩, tb_1405, ts_X11_termOf, _, _, rfl⟩
theorem sX11_233 : aSV RX11 233 mX11_bounded 2 11 := ⟨⟨tc_X11_bounded, tb_1419, tb_12, ⟨by decide, by decide, by decide +kernel⟩, by decide⟩, tb_1421, ts_X11_bounded, _, _, rfl⟩
theorem sX11_237 : aSV RX11 237 mX11_partOf 1 11 := ⟨⟨tc_X11_partOf, tb_1407, tb_12, ⟨by decide, by decide, by decide +kernel⟩, by decide⟩, tb_1409, ts_X11_partOf, _, _, rfl⟩
theorem sX11_240 : aSV RX11 240 mX11_passes0 1 11 := ⟨⟨tc_X11_passes0, tb_1411, tb_12, ⟨by decide, by decide, by decide +kernel⟩, by decide⟩, tb_1413, ts_X11_passes0, _, _, rfl⟩
theorem sX11_243 : aSV RX11 243 mX11_sumOf 1 11 := ⟨⟨tc_X11_sumOf, tb_1399, tb_12, ⟨by decide, by decide, by decide +kernel⟩, by decide⟩, tb_1401, ts_X11_sumOf, _, _, rfl⟩
theorem sX11_246 : aSV RX11 246 mX11_bothOf 1 11 := ⟨⟨tc_X11_bothOf, tb_1429, tb_12, ⟨by decide, by decide, by decide +kernel⟩, by decide⟩, tb_1431, ts_X11_bothOf, _, _, rfl⟩
theorem sX11_250 : aSV RX11 250 mX11_plainOf 1 11 := ⟨⟨tc_X11_plainOf, tb_1433, tb_12, ⟨by decide, by decide, by decide +kernel⟩, by decide⟩, tb_1435, ts_X11_plainOf, _, _, rfl⟩
theorem sX11_253 : aSV RX11 253 mX11_positiveOf 1 11 := ⟨⟨tc_X11_positiveOf, tb_1437, tb_12, ⟨by decide, by decide, by decide +kernel⟩, by decide⟩, tb_1439, ts_X11_positiveOf, _, _, rfl⟩
theorem sX11_256 : aSV RX11 256 mX11_testOf 1 11 := ⟨⟨tc_X11_testOf, tb_1425, tb_12, ⟨by decide, by decide, by decide +kernel⟩, by decide⟩, tb_1427, ts_X11_testOf, _, _, rfl⟩
theorem sX11_259 : aSS RX11 259 mX11_ones 1 := ⟨⟨tc_X11_ones, tb_1391, tb_12, ⟨by decide, by decide, by decide +kernel⟩, by decide⟩, tb_1392⟩
theorem sX11_264 : aSV RX11 264 mX11_asksOf 1 11 := ⟨⟨tc_X11_asksOf, tb_1387, tb_12, ⟨by decide, by decide, by decide +kernel⟩, by decide⟩, tb_1389, ts_X11_asksOf, _, _, rfl⟩
theorem sX11_267 : aSV RX11 267 mX11_toldBy 1 11 := ⟨⟨tc_X11_toldBy, tb_1394, tb_12, ⟨by decide, by decide, by decide +kernel⟩, by decide⟩, tb_1396, ts_X11_toldBy, _, _, rfl⟩
theorem sX11_271 : aSV RX11 271 mX11_canCome 3 11 := ⟨⟨tc_X11_canCome, tb_1458, tb_12, ⟨by decide, by decide, by decide +kernel⟩, by decide⟩, tb_1460, ts_X11_canCome, _, _, rfl⟩
theorem sX11_274 : aSV RX11 274 mX11_dark 1 11 := ⟨⟨tc_X11_dark, tb_1466, tb_12, ⟨by decide, by decide, by decide +kernel⟩, by decide⟩, tb_1468, ts_X11_dark, _, _, rfl⟩
theorem sX11_277 : aSV RX11 277 mX11_power 1 11 := ⟨⟨tc_X11_power, tb_1470, tb_12, ⟨by decide, by decide, by decide +kernel⟩, by decide⟩, tb_1472, ts_X11_power, _, _, rfl⟩
theorem sX11_281 : aSV RX11 281 mX11_meanIn 2 11 := ⟨⟨tc_X11_meanIn, tb_1474, tb_12, ⟨by decide, by decide, by decide +kernel⟩, by decide⟩, tb_1476, ts_X11_meanIn, _, _, rfl⟩
theorem sX11_285 : aSV RX11 285 mX11_lasts0 1 11 := ⟨⟨tc_X11_lasts0, tb_1449, tb_12, ⟨by decide, by decide, by decide +kernel⟩, by decide⟩, tb_1451, ts_X11_lasts0, _, _, rfl⟩
theorem sX11_288 : aSV RX11 288 mX11_meanOf 1 11 := ⟨⟨tc_X11_meanOf, tb_1462, tb_12, ⟨by decide, by decide, by decide +kernel⟩, by decide⟩, tb_1464, ts_X11_meanOf, _, _, rfl⟩
theorem sX11_291 : aSV RX11 291 mX11_lastingOf 2 11 := ⟨⟨tc_X11_lastingOf, tb_1453, tb_12, ⟨by decide, by decide, by decide +kernel⟩, by decide⟩, tb_1455, ts_X11_lastingOf, _, _, rfl⟩
theorem sX11_294 : aSV RX11 294 mX11_looks 0 11 := ⟨⟨tc_X11_looks, tb_1445, tb_12, ⟨by decide, by decide, by decide +kernel⟩, by decide⟩, tb_1447, ts_X11_looks, _, _, rfl⟩
theorem sX11_297 : aSS RX11 297 mX11_gcd 2 := ⟨⟨tc_X11_gcd, tb_1482, tb_12, ⟨by decide, by decide, by decide +kernel⟩, by decide⟩, tb_1483⟩
theorem sX11_301 : aSV RX11 301 mX11_oilOf 1 11 := ⟨⟨tc_X11_oilOf, tb_1500, tb_12, ⟨by decide, by decide, by decide +kernel⟩, by decide⟩, tb_1502, ts_X11_oilOf, _, _, rfl⟩
theorem sX11_304 : aSV RX11 304 mX11_isBetter 4 11 := ⟨⟨tc_X11_isBetter, tb_1496, tb_12, ⟨by decide, by decide, by decide +kernel⟩, by decide⟩, tb_1498, ts_X11_isBetter, _, _, rfl⟩
theorem sX11_308 : aSS RX11 308 mX11_isManner 1 := ⟨⟨tc_X11_isManner, tb_1489, tb_12, ⟨by decide, by decide, by decide +kernel⟩, by decide⟩, tb_1490⟩
theorem sX11_311 : aSV RX11 311 mX11_nextOf 3 11 := ⟨⟨tc_X11_nextOf, tb_1492, tb_12, ⟨by decide, by decide, by decide +kernel⟩, by decide⟩, tb_1494, ts_X11_nextOf, _, _, rfl⟩
theorem sX11_315 : aSV RX11 315 mX11_reaches 0 11 := ⟨⟨tc_X11_reaches, tb_1512, tb_12, ⟨by decide, by decide, by decide +kernel⟩, by decide⟩, tb_1514, ts_X11_reaches, _, _, rfl⟩
theorem sX11_321 : aSV RX11 321 mX11_failing0 0 11 := ⟨⟨tc_X11_failing0, tb_1520, tb_12, ⟨by decide, by decide, by decide +kernel⟩, by decide⟩, tb_1522, ts_X11_failing0, _, _, rfl⟩
theorem sX11_327 : aSS RX11 327 mX11_areCodes 3 := ⟨⟨tc_X11_areCodes, tb_1532, tb_12, ⟨by decide, by decide, by decide +kernel⟩, by decide⟩, tb_1533⟩
theorem sX11_330 : aSV RX11 330 mX11_codes0 3 11 := ⟨⟨tc_X11_codes0, tb_1535, tb_12, ⟨by decide, by decide, by decide +kernel⟩, by decide⟩, tb_1537, ts_X11_codes0, _, _, rfl⟩
theorem sX11_337 : aSV RX11 337 mX11_rowsOf 5 11 := ⟨⟨tc_X11_rowsOf, tb_1571, tb_12, ⟨by decide, by decide, by decide +kernel⟩, by decide⟩, tb_1573, ts_X11_rowsOf, _, _, rfl⟩
theorem sX11_341 : aSV RX11 341 mX11_plans 0 11 := ⟨⟨tc_X11_plans, tb_1603, tb_12, ⟨by decide, by decide, by decide +kernel⟩, by decide⟩, tb_1605, ts_X11_plans, _, _, rfl⟩
theorem sJ0_335 : aSX RJ0 335 mJ0_coder_7d493 0 := ⟨⟨tc_J0_coder_7d493, tb_514, tb_14, ⟨by decide, by decide, by decide +kernel⟩, by decide⟩, tb_515, tb_516, rfl⟩
theorem sJ0_492 : aSX RJ0 492 mJ0_isLatin1_aae02 0 := ⟨⟨tc_J0_isLatin1_aae02, tb_524, tb_14, ⟨by decide, by decide, by decide +kernel⟩, by decide⟩, tb_525, tb_526, rfl⟩
theorem sJ0_495 : aSS RJ0 495 mJ1_charAt_3b067 2 := ⟨⟨tc_J1_charAt_3b067, tb_528, tb_15, ⟨by decide, by decide, by decide +kernel⟩, by decide⟩, tb_529⟩
theorem sJ0_1059 : aSS RJ0 1059 mJ3_checkIndex_8e157 3 := ⟨⟨tc_J3_checkIndex_8e157, tb_536, tb_16, ⟨by decide, by decide, by decide +kernel⟩, by decide⟩, tb_537⟩
theorem sJ1_9 : aSS RJ1 9 mJ0_checkIndex_df160 2 := ⟨⟨tc_J0_checkIndex_df160, tb_531, tb_14, ⟨by decide, by decide, by decide +kernel⟩, by decide⟩, tb_532⟩
theorem sJ7_13 : aSS RJ7 13 mJ7_rangeCheck_23922 3 := ⟨⟨tc_J7_rangeCheck_23922, tb_947, tb_3, ⟨by decide, by decide, by decide +kernel⟩, by decide⟩, tb_948⟩
