theorem tot_2_2 : TOTc 2 2 = 33554436 := by decide +kernel
theorem cnt_2_2 : cntL 2 2 [] [] = 33554436 := by decide +kernel
theorem tot_3_2 : TOTc 3 2 = 9 := by decide +kernel
theorem cnt_3_2 : cntL 3 2 [] [] = 9 := by decide +kernel
theorem tot_4_2 : TOTc 4 2 = 16 := by decide +kernel
theorem cnt_4_2 : cntL 4 2 [] [] = 16 := by decide +kernel
theorem tot_2_4 : TOTc 2 4 = 1688850095144976 := by decide +kernel
theorem cnt_2_4 : cntL 2 4 [] [] = 1688850095144976 := by decide +kernel
theorem tot_3_4 : TOTc 3 4 = 603979857 := by decide +kernel
theorem cnt_3_4 : cntL 3 4 [] [] = 603979857 := by decide +kernel
theorem tot_4_4 : TOTc 4 4 = 402653440 := by decide +kernel
theorem cnt_4_4 : cntL 4 4 [] [] = 402653440 := by decide +kernel
theorem tot_2_8 : TOTc 2 8 = 434457777785556543996160 := by decide +kernel
theorem cnt_2_8 : cntL 2 8 [] [] = 434457777785556543996160 := by decide +kernel
theorem tot_3_8 : TOTc 3 8 = 187462431730047393 := by decide +kernel
theorem cnt_3_8 : cntL 3 8 [] [] = 187462431730047393 := by decide +kernel
theorem tot_4_8 : TOTc 4 8 = 6756084354187264 := by decide +kernel
theorem cnt_4_8 : cntL 4 8 [] [] = 6756084354187264 := by decide +kernel
/-- class and reference count CODES alike -/
theorem codes_eq {n k t : Int} (n0 : 1 ≤ n) (n1 : n ≤ 3) (k0 : 2 ≤ k) (k1 : k ≤ 4) (t0 : 0 ≤ t) : ((cN k.toNat (2 ^ n.toNat) t.toNat (k.toNat ^ (2 ^ n.toNat)) : Nat) : Int) = TBX n k t := by
  unfold TBX
  have key : ∀ (kk N : Nat), 0 < kk → kk ^ N ≤ 65536 → cntL kk N [] [] = TOTc kk N → TOTc kk N < 79228162514264337593543950336 → ((cN kk N t.toNat (kk ^ N) : Nat) : Int) = if t ≤ 3 then TBt kk N t.toNat else 0 := fun kk N h1 h2 h3 h4 => by
    have h5 := cN_T h1 h2 h3 h4
    by_cases ht : t ≤ 3
    · rw [if_pos ht, h5.1 t.toNat (by omega)]
      rfl
    · rw [if_neg ht, h5.2 t.toNat (by omega)]
      rfl
  rcases (show n = 1 ∨ n = 2 ∨ n = 3 by omega) with rfl | rfl | rfl
  · rcases (show k = 2 ∨ k = 3 ∨ k = 4 by omega) with rfl | rfl | rfl
    · exact key 2 2 (by decide) (by decide) (by rw [cnt_2_2, tot_2_2]) (by rw [tot_2_2]; decide)
    · exact key 3 2 (by decide) (by decide) (by rw [cnt_3_2, tot_3_2]) (by rw [tot_3_2]; decide)
    · exact key 4 2 (by decide) (by decide) (by rw [cnt_4_2, tot_4_2]) (by rw [tot_4_2]; decide)
  · rcases (show k = 2 ∨ k = 3 ∨ k = 4 by omega) with rfl | rfl | rfl
    · exact key 2 4 (by decide) (by decide) (by rw [cnt_2_4, tot_2_4]) (by rw [tot_2_4]; decide)
    · exact key 3 4 (by decide) (by decide) (by rw [cnt_3_4, tot_3_4]) (by rw [tot_3_4]; decide)
    · exact key 4 4 (by decide) (by decide) (by rw [cnt_4_4, tot_4_4]) (by rw [tot_4_4]; decide)
  · rcases (show k = 2 ∨ k = 3 ∨ k = 4 by omega) with rfl | rfl | rfl
    · exact key 2 8 (by decide) (by decide) (by rw [cnt_2_8, tot_2_8]) (by rw [tot_2_8]; decide)
    · exact key 3 8 (by decide) (by decide) (by rw [cnt_3_8, tot_3_8]) (by rw [tot_3_8]; decide)
    · exact key 4 8 (by decide) (by decide) (by rw [cnt_4_8, tot_4_8]) (by rw [tot_4_8]; decide)
