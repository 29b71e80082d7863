theorem tot_2_2 : TOTc 2 2 = 33554436 := by decide +kernel
theorem cnt_2_2 : cntL 2 2 [] [] = 33554436 := by decide +kernel
theorem tot_3_2 : TOTc 3 2 = 9 := by decide +kernel
theorem cnt_3_2 : cntL 3 2 [] [] = 9 := by decide +kernel
theorem tot_4_2 : TOTc 4 2 = 16 := by decide +kernel
theorem cnt_4_2 : cntL 4 2 [] [] = 16 := by decide +kernel
theorem tot_2_4 : TOTc 2 4 = 1688850095144976 := by decide +kernel
theorem cnt_2_4 : cntL 2 4 [] [] = 1688850095144976 := by decide +kernel
theorem tot_3_4 : TOTc 3 4 = 603979857 := by decide +kernel
theorem cnt_3_4 : cntL 3 4 [] [] = 603979857 := by decide +kernel
