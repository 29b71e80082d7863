theorem tot_4_4 : TOTc 4 4 = 402653440 := by decide +kernel
theorem cnt_4_4 : cntL 4 4 [] [] = 402653440 := by decide +kernel
theorem tot_2_8 : TOTc 2 8 = 434457777785556543996160 := by decide +kernel
theorem cnt_2_8 : cntL 2 8 [] [] = 434457777785556543996160 := by decide +kernel
theorem tot_3_8 : TOTc 3 8 = 187462431730047393 := by decide +kernel
theorem cnt_3_8 : cntL 3 8 [] [] = 187462431730047393 := by decide +kernel
theorem tot_4_8 : TOTc 4 8 = 6756084354187264 := by decide +kernel
theorem cnt_4_8 : cntL 4 8 [] [] = 6756084354187264 := by decide +kernel
