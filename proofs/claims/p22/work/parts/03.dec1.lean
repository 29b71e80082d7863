theorem dX7_takeBracketed_25 : decode cX7_takeBracketed 25 = .ok (.aload_n 0, 1) := by decide +kernel
theorem dX7_takeBracketed_26 : decode cX7_takeBracketed 26 = .ok (.bipush 41, 2) := by decide +kernel
theorem dX7_takeBracketed_28 : decode cX7_takeBracketed 28 = .ok (.invokevirtual 104, 3) := by decide +kernel
theorem dX7_takeBracketed_31 : decode cX7_takeBracketed 31 = .ok (.ifCond .eq 7, 3) := by decide +kernel
theorem dX7_takeBracketed_34 : decode cX7_takeBracketed 34 = .ok (.iconst 1, 1) := by decide +kernel
theorem dX7_takeBracketed_35 : decode cX7_takeBracketed 35 = .ok (.goto 4, 3) := by decide +kernel
theorem dX7_takeBracketed_38 : decode cX7_takeBracketed 38 = .ok (.iconst 0, 1) := by decide +kernel
theorem dX7_takeBracketed_39 : decode cX7_takeBracketed 39 = .ok (.ireturn, 1) := by decide +kernel
theorem dX7_takeComparison_0 : decode cX7_takeComparison 0 = .ok (.aload_n 0, 1) := by decide +kernel
theorem dX7_takeComparison_1 : decode cX7_takeComparison 1 = .ok (.iload_n 1, 1) := by decide +kernel
theorem dX7_takeComparison_2 : decode cX7_takeComparison 2 = .ok (.invokevirtual 74, 3) := by decide +kernel
theorem dX7_takeComparison_5 : decode cX7_takeComparison 5 = .ok (.ifCond .ne 5, 3) := by decide +kernel
theorem dX7_takeComparison_8 : decode cX7_takeComparison 8 = .ok (.iconst 0, 1) := by decide +kernel
theorem dX7_takeComparison_9 : decode cX7_takeComparison 9 = .ok (.ireturn, 1) := by decide +kernel
theorem dX7_takeComparison_10 : decode cX7_takeComparison 10 = .ok (.aload_n 0, 1) := by decide +kernel
theorem dX7_takeComparison_11 : decode cX7_takeComparison 11 = .ok (.getfield 38, 3) := by decide +kernel
theorem dX7_takeComparison_14 : decode cX7_takeComparison 14 = .ok (.bipush 60, 2) := by decide +kernel
theorem dX7_takeComparison_16 : decode cX7_takeComparison 16 = .ok (.if_icmp .eq 26, 3) := by decide +kernel
theorem dX7_takeComparison_19 : decode cX7_takeComparison 19 = .ok (.aload_n 0, 1) := by decide +kernel
theorem dX7_takeComparison_20 : decode cX7_takeComparison 20 = .ok (.getfield 38, 3) := by decide +kernel
theorem dX7_takeComparison_23 : decode cX7_takeComparison 23 = .ok (.bipush 62, 2) := by decide +kernel
theorem dX7_takeComparison_25 : decode cX7_takeComparison 25 = .ok (.if_icmp .eq 17, 3) := by decide +kernel
theorem dX7_takeComparison_28 : decode cX7_takeComparison 28 = .ok (.aload_n 0, 1) := by decide +kernel
theorem dX7_takeComparison_29 : decode cX7_takeComparison 29 = .ok (.getfield 38, 3) := by decide +kernel
theorem dX7_takeComparison_32 : decode cX7_takeComparison 32 = .ok (.bipush 61, 2) := by decide +kernel
theorem dX7_takeComparison_34 : decode cX7_takeComparison 34 = .ok (.if_icmp .eq 8, 3) := by decide +kernel
theorem dX7_takeComparison_37 : decode cX7_takeComparison 37 = .ok (.aload_n 0, 1) := by decide +kernel
theorem dX7_takeComparison_38 : decode cX7_takeComparison 38 = .ok (.invokevirtual 68, 3) := by decide +kernel
theorem dX7_takeComparison_41 : decode cX7_takeComparison 41 = .ok (.ireturn, 1) := by decide +kernel
theorem dX7_takeComparison_42 : decode cX7_takeComparison 42 = .ok (.aload_n 0, 1) := by decide +kernel
theorem dX7_takeComparison_43 : decode cX7_takeComparison 43 = .ok (.getfield 38, 3) := by decide +kernel
theorem dX7_takeComparison_46 : decode cX7_takeComparison 46 = .ok (.istore_n 2, 1) := by decide +kernel
theorem dX7_takeComparison_47 : decode cX7_takeComparison 47 = .ok (.aload_n 0, 1) := by decide +kernel
theorem dX7_takeComparison_48 : decode cX7_takeComparison 48 = .ok (.invokevirtual 71, 3) := by decide +kernel
theorem dX7_takeComparison_51 : decode cX7_takeComparison 51 = .ok (.aload_n 0, 1) := by decide +kernel
theorem dX7_takeComparison_52 : decode cX7_takeComparison 52 = .ok (.iload_n 1, 1) := by decide +kernel
theorem dX7_takeComparison_53 : decode cX7_takeComparison 53 = .ok (.invokevirtual 74, 3) := by decide +kernel
theorem dX7_takeComparison_56 : decode cX7_takeComparison 56 = .ok (.ifCond .ne 5, 3) := by decide +kernel
theorem dX7_takeComparison_59 : decode cX7_takeComparison 59 = .ok (.iconst 0, 1) := by decide +kernel
theorem dX7_takeComparison_60 : decode cX7_takeComparison 60 = .ok (.ireturn, 1) := by decide +kernel
theorem dX7_takeComparison_61 : decode cX7_takeComparison 61 = .ok (.aload_n 0, 1) := by decide +kernel
theorem dX7_takeComparison_62 : decode cX7_takeComparison 62 = .ok (.iload_n 2, 1) := by decide +kernel
theorem dX7_takeComparison_63 : decode cX7_takeComparison 63 = .ok (.invokestatic 107, 3) := by decide +kernel
theorem dX7_takeComparison_66 : decode cX7_takeComparison 66 = .ok (.invokevirtual 101, 3) := by decide +kernel
theorem dX7_takeComparison_69 : decode cX7_takeComparison 69 = .ok (.iconst 1, 1) := by decide +kernel
theorem dX7_takeComparison_70 : decode cX7_takeComparison 70 = .ok (.ireturn, 1) := by decide +kernel
theorem dX7_takeSum_0 : decode cX7_takeSum 0 = .ok (.aload_n 0, 1) := by decide +kernel
theorem dX7_takeSum_1 : decode cX7_takeSum 1 = .ok (.iload_n 1, 1) := by decide +kernel
theorem dX7_takeSum_2 : decode cX7_takeSum 2 = .ok (.invokevirtual 110, 3) := by decide +kernel
theorem dX7_takeSum_5 : decode cX7_takeSum 5 = .ok (.ifCond .ne 5, 3) := by decide +kernel
theorem dX7_takeSum_8 : decode cX7_takeSum 8 = .ok (.iconst 0, 1) := by decide +kernel
theorem dX7_takeSum_9 : decode cX7_takeSum 9 = .ok (.ireturn, 1) := by decide +kernel
theorem dX7_takeSum_10 : decode cX7_takeSum 10 = .ok (.iconst 0, 1) := by decide +kernel
theorem dX7_takeSum_11 : decode cX7_takeSum 11 = .ok (.istore_n 2, 1) := by decide +kernel
theorem dX7_takeSum_12 : decode cX7_takeSum 12 = .ok (.iload_n 2, 1) := by decide +kernel
theorem dX7_takeSum_13 : decode cX7_takeSum 13 = .ok (.sipush 400, 3) := by decide +kernel
theorem dX7_takeSum_16 : decode cX7_takeSum 16 = .ok (.if_icmp .ge 54, 3) := by decide +kernel
theorem dX7_takeSum_19 : decode cX7_takeSum 19 = .ok (.aload_n 0, 1) := by decide +kernel
theorem dX7_takeSum_20 : decode cX7_takeSum 20 = .ok (.getfield 38, 3) := by decide +kernel
theorem dX7_takeSum_23 : decode cX7_takeSum 23 = .ok (.bipush 43, 2) := by decide +kernel
theorem dX7_takeSum_25 : decode cX7_takeSum 25 = .ok (.if_icmp .eq 12, 3) := by decide +kernel
theorem dX7_takeSum_28 : decode cX7_takeSum 28 = .ok (.aload_n 0, 1) := by decide +kernel
theorem dX7_takeSum_29 : decode cX7_takeSum 29 = .ok (.getfield 38, 3) := by decide +kernel
theorem dX7_takeSum_32 : decode cX7_takeSum 32 = .ok (.bipush 45, 2) := by decide +kernel
theorem dX7_takeSum_34 : decode cX7_takeSum 34 = .ok (.if_icmp .ne 36, 3) := by decide +kernel
theorem dX7_takeSum_37 : decode cX7_takeSum 37 = .ok (.aload_n 0, 1) := by decide +kernel
theorem dX7_takeSum_38 : decode cX7_takeSum 38 = .ok (.getfield 38, 3) := by decide +kernel
theorem dX7_takeSum_41 : decode cX7_takeSum 41 = .ok (.istore_n 3, 1) := by decide +kernel
theorem dX7_takeSum_42 : decode cX7_takeSum 42 = .ok (.aload_n 0, 1) := by decide +kernel
theorem dX7_takeSum_43 : decode cX7_takeSum 43 = .ok (.invokevirtual 71, 3) := by decide +kernel
theorem dX7_takeSum_46 : decode cX7_takeSum 46 = .ok (.aload_n 0, 1) := by decide +kernel
theorem dX7_takeSum_47 : decode cX7_takeSum 47 = .ok (.iload_n 1, 1) := by decide +kernel
theorem dX7_takeSum_48 : decode cX7_takeSum 48 = .ok (.invokevirtual 110, 3) := by decide +kernel
theorem dX7_takeSum_51 : decode cX7_takeSum 51 = .ok (.ifCond .ne 5, 3) := by decide +kernel
theorem dX7_takeSum_54 : decode cX7_takeSum 54 = .ok (.iconst 0, 1) := by decide +kernel
theorem dX7_takeSum_55 : decode cX7_takeSum 55 = .ok (.ireturn, 1) := by decide +kernel
theorem dX7_takeSum_56 : decode cX7_takeSum 56 = .ok (.aload_n 0, 1) := by decide +kernel
theorem dX7_takeSum_57 : decode cX7_takeSum 57 = .ok (.iload_n 3, 1) := by decide +kernel
theorem dX7_takeSum_58 : decode cX7_takeSum 58 = .ok (.invokestatic 107, 3) := by decide +kernel
theorem dX7_takeSum_61 : decode cX7_takeSum 61 = .ok (.invokevirtual 101, 3) := by decide +kernel
theorem dX7_takeSum_64 : decode cX7_takeSum 64 = .ok (.iinc 2 1, 3) := by decide +kernel
theorem dX7_takeSum_67 : decode cX7_takeSum 67 = .ok (.goto (-55), 3) := by decide +kernel
theorem dX7_takeSum_70 : decode cX7_takeSum 70 = .ok (.iconst 1, 1) := by decide +kernel
theorem dX7_takeSum_71 : decode cX7_takeSum 71 = .ok (.ireturn, 1) := by decide +kernel
theorem dX7_takeTerm_0 : decode cX7_takeTerm 0 = .ok (.aload_n 0, 1) := by decide +kernel
theorem dX7_takeTerm_1 : decode cX7_takeTerm 1 = .ok (.iload_n 1, 1) := by decide +kernel
theorem dX7_takeTerm_2 : decode cX7_takeTerm 2 = .ok (.invokevirtual 113, 3) := by decide +kernel
theorem dX7_takeTerm_5 : decode cX7_takeTerm 5 = .ok (.ifCond .ne 5, 3) := by decide +kernel
theorem dX7_takeTerm_8 : decode cX7_takeTerm 8 = .ok (.iconst 0, 1) := by decide +kernel
theorem dX7_takeTerm_9 : decode cX7_takeTerm 9 = .ok (.ireturn, 1) := by decide +kernel
theorem dX7_takeTerm_10 : decode cX7_takeTerm 10 = .ok (.iconst 0, 1) := by decide +kernel
theorem dX7_takeTerm_11 : decode cX7_takeTerm 11 = .ok (.istore_n 2, 1) := by decide +kernel
theorem dX7_takeTerm_12 : decode cX7_takeTerm 12 = .ok (.iload_n 2, 1) := by decide +kernel
theorem dX7_takeTerm_13 : decode cX7_takeTerm 13 = .ok (.sipush 400, 3) := by decide +kernel
theorem dX7_takeTerm_16 : decode cX7_takeTerm 16 = .ok (.if_icmp .ge 63, 3) := by decide +kernel
theorem dX7_takeTerm_19 : decode cX7_takeTerm 19 = .ok (.aload_n 0, 1) := by decide +kernel
theorem dX7_takeTerm_20 : decode cX7_takeTerm 20 = .ok (.getfield 38, 3) := by decide +kernel
theorem dX7_takeTerm_23 : decode cX7_takeTerm 23 = .ok (.bipush 42, 2) := by decide +kernel
theorem dX7_takeTerm_25 : decode cX7_takeTerm 25 = .ok (.if_icmp .eq 21, 3) := by decide +kernel
theorem dX7_takeTerm_28 : decode cX7_takeTerm 28 = .ok (.aload_n 0, 1) := by decide +kernel
theorem dX7_takeTerm_29 : decode cX7_takeTerm 29 = .ok (.getfield 38, 3) := by decide +kernel
theorem dX7_takeTerm_32 : decode cX7_takeTerm 32 = .ok (.bipush 47, 2) := by decide +kernel
theorem dX7_takeTerm_34 : decode cX7_takeTerm 34 = .ok (.if_icmp .eq 12, 3) := by decide +kernel
theorem dX7_takeTerm_37 : decode cX7_takeTerm 37 = .ok (.aload_n 0, 1) := by decide +kernel
theorem dX7_takeTerm_38 : decode cX7_takeTerm 38 = .ok (.getfield 38, 3) := by decide +kernel
theorem dX7_takeTerm_41 : decode cX7_takeTerm 41 = .ok (.bipush 37, 2) := by decide +kernel
theorem dX7_takeTerm_43 : decode cX7_takeTerm 43 = .ok (.if_icmp .ne 36, 3) := by decide +kernel
theorem dX7_takeTerm_46 : decode cX7_takeTerm 46 = .ok (.aload_n 0, 1) := by decide +kernel
theorem dX7_takeTerm_47 : decode cX7_takeTerm 47 = .ok (.getfield 38, 3) := by decide +kernel
theorem dX7_takeTerm_50 : decode cX7_takeTerm 50 = .ok (.istore_n 3, 1) := by decide +kernel
theorem dX7_takeTerm_51 : decode cX7_takeTerm 51 = .ok (.aload_n 0, 1) := by decide +kernel
theorem dX7_takeTerm_52 : decode cX7_takeTerm 52 = .ok (.invokevirtual 71, 3) := by decide +kernel
theorem dX7_takeTerm_55 : decode cX7_takeTerm 55 = .ok (.aload_n 0, 1) := by decide +kernel
theorem dX7_takeTerm_56 : decode cX7_takeTerm 56 = .ok (.iload_n 1, 1) := by decide +kernel
theorem dX7_takeTerm_57 : decode cX7_takeTerm 57 = .ok (.invokevirtual 113, 3) := by decide +kernel
theorem dX7_takeTerm_60 : decode cX7_takeTerm 60 = .ok (.ifCond .ne 5, 3) := by decide +kernel
theorem dX7_takeTerm_63 : decode cX7_takeTerm 63 = .ok (.iconst 0, 1) := by decide +kernel
theorem dX7_takeTerm_64 : decode cX7_takeTerm 64 = .ok (.ireturn, 1) := by decide +kernel
theorem dX7_takeTerm_65 : decode cX7_takeTerm 65 = .ok (.aload_n 0, 1) := by decide +kernel
theorem dX7_takeTerm_66 : decode cX7_takeTerm 66 = .ok (.iload_n 3, 1) := by decide +kernel
theorem dX7_takeTerm_67 : decode cX7_takeTerm 67 = .ok (.invokestatic 107, 3) := by decide +kernel
theorem dX7_takeTerm_70 : decode cX7_takeTerm 70 = .ok (.invokevirtual 101, 3) := by decide +kernel
theorem dX7_takeTerm_73 : decode cX7_takeTerm 73 = .ok (.iinc 2 1, 3) := by decide +kernel
theorem dX7_takeTerm_76 : decode cX7_takeTerm 76 = .ok (.goto (-64), 3) := by decide +kernel
theorem dX7_takeTerm_79 : decode cX7_takeTerm 79 = .ok (.iconst 1, 1) := by decide +kernel
theorem dX7_takeTerm_80 : decode cX7_takeTerm 80 = .ok (.ireturn, 1) := by decide +kernel
theorem dX7_takePart_0 : decode cX7_takePart 0 = .ok (.aload_n 0, 1) := by decide +kernel
theorem dX7_takePart_1 : decode cX7_takePart 1 = .ok (.getfield 38, 3) := by decide +kernel
theorem dX7_takePart_4 : decode cX7_takePart 4 = .ok (.bipush 91, 2) := by decide +kernel
theorem dX7_takePart_6 : decode cX7_takePart 6 = .ok (.if_icmp .ne 43, 3) := by decide +kernel
theorem dX7_takePart_9 : decode cX7_takePart 9 = .ok (.iload_n 1, 1) := by decide +kernel
theorem dX7_takePart_10 : decode cX7_takePart 10 = .ok (.bipush 8, 2) := by decide +kernel
theorem dX7_takePart_12 : decode cX7_takePart 12 = .ok (.if_icmp .lt 8, 3) := by decide +kernel
theorem dX7_takePart_15 : decode cX7_takePart 15 = .ok (.aload_n 0, 1) := by decide +kernel
theorem dX7_takePart_16 : decode cX7_takePart 16 = .ok (.invokevirtual 68, 3) := by decide +kernel
theorem dX7_takePart_19 : decode cX7_takePart 19 = .ok (.ireturn, 1) := by decide +kernel
theorem dX7_takePart_20 : decode cX7_takePart 20 = .ok (.aload_n 0, 1) := by decide +kernel
theorem dX7_takePart_21 : decode cX7_takePart 21 = .ok (.invokevirtual 71, 3) := by decide +kernel
theorem dX7_takePart_24 : decode cX7_takePart 24 = .ok (.aload_n 0, 1) := by decide +kernel
theorem dX7_takePart_25 : decode cX7_takePart 25 = .ok (.iload_n 1, 1) := by decide +kernel
theorem dX7_takePart_26 : decode cX7_takePart 26 = .ok (.iconst 1, 1) := by decide +kernel
theorem dX7_takePart_27 : decode cX7_takePart 27 = .ok (.iadd, 1) := by decide +kernel
theorem dX7_takePart_28 : decode cX7_takePart 28 = .ok (.invokevirtual 74, 3) := by decide +kernel
theorem dX7_takePart_31 : decode cX7_takePart 31 = .ok (.ifCond .eq 16, 3) := by decide +kernel
theorem dX7_takePart_34 : decode cX7_takePart 34 = .ok (.aload_n 0, 1) := by decide +kernel
theorem dX7_takePart_35 : decode cX7_takePart 35 = .ok (.bipush 93, 2) := by decide +kernel
theorem dX7_takePart_37 : decode cX7_takePart 37 = .ok (.invokevirtual 104, 3) := by decide +kernel
theorem dX7_takePart_40 : decode cX7_takePart 40 = .ok (.ifCond .eq 7, 3) := by decide +kernel
theorem dX7_takePart_43 : decode cX7_takePart 43 = .ok (.iconst 1, 1) := by decide +kernel
theorem dX7_takePart_44 : decode cX7_takePart 44 = .ok (.goto 4, 3) := by decide +kernel
theorem dX7_takePart_47 : decode cX7_takePart 47 = .ok (.iconst 0, 1) := by decide +kernel
theorem dX7_takePart_48 : decode cX7_takePart 48 = .ok (.ireturn, 1) := by decide +kernel
theorem dX7_takePart_49 : decode cX7_takePart 49 = .ok (.aload_n 0, 1) := by decide +kernel
theorem dX7_takePart_50 : decode cX7_takePart 50 = .ok (.getfield 38, 3) := by decide +kernel
theorem dX7_takePart_53 : decode cX7_takePart 53 = .ok (.ifCond .lt 23, 3) := by decide +kernel
theorem dX7_takePart_56 : decode cX7_takePart 56 = .ok (.aload_n 0, 1) := by decide +kernel
theorem dX7_takePart_57 : decode cX7_takePart 57 = .ok (.getfield 38, 3) := by decide +kernel
theorem dX7_takePart_60 : decode cX7_takePart 60 = .ok (.sipush 300, 3) := by decide +kernel
theorem dX7_takePart_63 : decode cX7_takePart 63 = .ok (.if_icmp .lt 17, 3) := by decide +kernel
theorem dX7_takePart_66 : decode cX7_takePart 66 = .ok (.aload_n 0, 1) := by decide +kernel
theorem dX7_takePart_67 : decode cX7_takePart 67 = .ok (.getfield 38, 3) := by decide +kernel
theorem dX7_takePart_70 : decode cX7_takePart 70 = .ok (.sipush 1300, 3) := by decide +kernel
theorem dX7_takePart_73 : decode cX7_takePart 73 = .ok (.if_icmp .gt 7, 3) := by decide +kernel
theorem dX7_takePart_76 : decode cX7_takePart 76 = .ok (.iconst 1, 1) := by decide +kernel
theorem dX7_takePart_77 : decode cX7_takePart 77 = .ok (.goto 4, 3) := by decide +kernel
theorem dX7_takePart_80 : decode cX7_takePart 80 = .ok (.iconst 0, 1) := by decide +kernel
theorem dX7_takePart_81 : decode cX7_takePart 81 = .ok (.istore_n 2, 1) := by decide +kernel
theorem dX7_takePart_82 : decode cX7_takePart 82 = .ok (.iload_n 2, 1) := by decide +kernel
theorem dX7_takePart_83 : decode cX7_takePart 83 = .ok (.ifCond .eq 12, 3) := by decide +kernel
theorem dX7_takePart_86 : decode cX7_takePart 86 = .ok (.aload_n 0, 1) := by decide +kernel
theorem dX7_takePart_87 : decode cX7_takePart 87 = .ok (.getfield 44, 3) := by decide +kernel
theorem dX7_takePart_90 : decode cX7_takePart 90 = .ok (.bipush 50, 2) := by decide +kernel
theorem dX7_takePart_92 : decode cX7_takePart 92 = .ok (.if_icmp .lt 8, 3) := by decide +kernel
theorem dX7_takePart_95 : decode cX7_takePart 95 = .ok (.aload_n 0, 1) := by decide +kernel
theorem dX7_takePart_96 : decode cX7_takePart 96 = .ok (.invokevirtual 68, 3) := by decide +kernel
theorem dX7_takePart_99 : decode cX7_takePart 99 = .ok (.ireturn, 1) := by decide +kernel
theorem dX7_takePart_100 : decode cX7_takePart 100 = .ok (.aload_n 0, 1) := by decide +kernel
theorem dX7_takePart_101 : decode cX7_takePart 101 = .ok (.dup, 1) := by decide +kernel
theorem dX7_takePart_102 : decode cX7_takePart 102 = .ok (.getfield 44, 3) := by decide +kernel
theorem dX7_takePart_105 : decode cX7_takePart 105 = .ok (.iconst 1, 1) := by decide +kernel
theorem dX7_takePart_106 : decode cX7_takePart 106 = .ok (.iadd, 1) := by decide +kernel
theorem dX7_takePart_107 : decode cX7_takePart 107 = .ok (.putfield 44, 3) := by decide +kernel
theorem dX7_takePart_110 : decode cX7_takePart 110 = .ok (.aload_n 0, 1) := by decide +kernel
theorem dX7_takePart_111 : decode cX7_takePart 111 = .ok (.aload_n 0, 1) := by decide +kernel
theorem dX7_takePart_112 : decode cX7_takePart 112 = .ok (.getfield 38, 3) := by decide +kernel
theorem dX7_takePart_115 : decode cX7_takePart 115 = .ok (.ifCond .ge 10, 3) := by decide +kernel
theorem dX7_takePart_118 : decode cX7_takePart 118 = .ok (.aload_n 0, 1) := by decide +kernel
theorem dX7_takePart_119 : decode cX7_takePart 119 = .ok (.getfield 38, 3) := by decide +kernel
theorem dX7_takePart_122 : decode cX7_takePart 122 = .ok (.goto 11, 3) := by decide +kernel
theorem dX7_takePart_125 : decode cX7_takePart 125 = .ok (.aload_n 0, 1) := by decide +kernel
theorem dX7_takePart_126 : decode cX7_takePart 126 = .ok (.getfield 38, 3) := by decide +kernel
theorem dX7_takePart_129 : decode cX7_takePart 129 = .ok (.sipush 300, 3) := by decide +kernel
theorem dX7_takePart_132 : decode cX7_takePart 132 = .ok (.isub, 1) := by decide +kernel
theorem dX7_takePart_133 : decode cX7_takePart 133 = .ok (.invokevirtual 101, 3) := by decide +kernel
theorem dX7_takePart_136 : decode cX7_takePart 136 = .ok (.aload_n 0, 1) := by decide +kernel
theorem dX7_takePart_137 : decode cX7_takePart 137 = .ok (.invokevirtual 71, 3) := by decide +kernel
theorem dX7_takePart_140 : decode cX7_takePart 140 = .ok (.iconst 1, 1) := by decide +kernel
theorem dX7_takePart_141 : decode cX7_takePart 141 = .ok (.ireturn, 1) := by decide +kernel
theorem dX7_takeSign_0 : decode cX7_takeSign 0 = .ok (.aload_n 0, 1) := by decide +kernel
theorem dX7_takeSign_1 : decode cX7_takeSign 1 = .ok (.getfield 38, 3) := by decide +kernel
theorem dX7_takeSign_4 : decode cX7_takeSign 4 = .ok (.iload_n 1, 1) := by decide +kernel
theorem dX7_takeSign_5 : decode cX7_takeSign 5 = .ok (.if_icmp .eq 8, 3) := by decide +kernel
theorem dX7_takeSign_8 : decode cX7_takeSign 8 = .ok (.aload_n 0, 1) := by decide +kernel
theorem dX7_takeSign_9 : decode cX7_takeSign 9 = .ok (.invokevirtual 68, 3) := by decide +kernel
theorem dX7_takeSign_12 : decode cX7_takeSign 12 = .ok (.ireturn, 1) := by decide +kernel
theorem dX7_takeSign_13 : decode cX7_takeSign 13 = .ok (.aload_n 0, 1) := by decide +kernel
theorem dX7_takeSign_14 : decode cX7_takeSign 14 = .ok (.invokevirtual 71, 3) := by decide +kernel
theorem dX7_takeSign_17 : decode cX7_takeSign 17 = .ok (.iconst 1, 1) := by decide +kernel
theorem dX7_takeSign_18 : decode cX7_takeSign 18 = .ok (.ireturn, 1) := by decide +kernel
theorem dX7_fail_0 : decode cX7_fail 0 = .ok (.aload_n 0, 1) := by decide +kernel
theorem dX7_fail_1 : decode cX7_fail 1 = .ok (.aload_n 0, 1) := by decide +kernel
theorem dX7_fail_2 : decode cX7_fail 2 = .ok (.getfield 19, 3) := by decide +kernel
theorem dX7_fail_5 : decode cX7_fail 5 = .ok (.aload_n 0, 1) := by decide +kernel
theorem dX7_fail_6 : decode cX7_fail 6 = .ok (.getfield 35, 3) := by decide +kernel
theorem dX7_fail_9 : decode cX7_fail 9 = .ok (.iaload, 1) := by decide +kernel
theorem dX7_fail_10 : decode cX7_fail 10 = .ok (.putfield 9, 3) := by decide +kernel
theorem dX7_fail_13 : decode cX7_fail 13 = .ok (.iconst 0, 1) := by decide +kernel
theorem dX7_fail_14 : decode cX7_fail 14 = .ok (.ireturn, 1) := by decide +kernel
theorem dX7_step_0 : decode cX7_step 0 = .ok (.aload_n 0, 1) := by decide +kernel
theorem dX7_step_1 : decode cX7_step 1 = .ok (.getfield 41, 3) := by decide +kernel
theorem dX7_step_4 : decode cX7_step 4 = .ok (.sipush 400, 3) := by decide +kernel
theorem dX7_step_7 : decode cX7_step 7 = .ok (.if_icmp .ge 23, 3) := by decide +kernel
theorem dX7_step_10 : decode cX7_step 10 = .ok (.aload_n 0, 1) := by decide +kernel
theorem dX7_step_11 : decode cX7_step 11 = .ok (.getfield 22, 3) := by decide +kernel
theorem dX7_step_14 : decode cX7_step 14 = .ok (.aload_n 0, 1) := by decide +kernel
theorem dX7_step_15 : decode cX7_step 15 = .ok (.getfield 41, 3) := by decide +kernel
theorem dX7_step_18 : decode cX7_step 18 = .ok (.iload_n 1, 1) := by decide +kernel
theorem dX7_step_19 : decode cX7_step 19 = .ok (.iastore, 1) := by decide +kernel
theorem dX7_step_20 : decode cX7_step 20 = .ok (.aload_n 0, 1) := by decide +kernel
theorem dX7_step_21 : decode cX7_step 21 = .ok (.dup, 1) := by decide +kernel
theorem dX7_step_22 : decode cX7_step 22 = .ok (.getfield 41, 3) := by decide +kernel
theorem dX7_step_25 : decode cX7_step 25 = .ok (.iconst 1, 1) := by decide +kernel
theorem dX7_step_26 : decode cX7_step 26 = .ok (.iadd, 1) := by decide +kernel
theorem dX7_step_27 : decode cX7_step 27 = .ok (.putfield 41, 3) := by decide +kernel
theorem dX7_step_30 : decode cX7_step 30 = .ok (.return_, 1) := by decide +kernel
theorem dX7_openSkip_0 : decode cX7_openSkip 0 = .ok (.aload_n 0, 1) := by decide +kernel
theorem dX7_openSkip_1 : decode cX7_openSkip 1 = .ok (.iload_n 1, 1) := by decide +kernel
theorem dX7_openSkip_2 : decode cX7_openSkip 2 = .ok (.invokevirtual 101, 3) := by decide +kernel
theorem dX7_openSkip_5 : decode cX7_openSkip 5 = .ok (.aload_n 0, 1) := by decide +kernel
theorem dX7_openSkip_6 : decode cX7_openSkip 6 = .ok (.iconst 0, 1) := by decide +kernel
theorem dX7_openSkip_7 : decode cX7_openSkip 7 = .ok (.invokevirtual 101, 3) := by decide +kernel
theorem dX7_openSkip_10 : decode cX7_openSkip 10 = .ok (.aload_n 0, 1) := by decide +kernel
theorem dX7_openSkip_11 : decode cX7_openSkip 11 = .ok (.getfield 41, 3) := by decide +kernel
theorem dX7_openSkip_14 : decode cX7_openSkip 14 = .ok (.iconst 1, 1) := by decide +kernel
theorem dX7_openSkip_15 : decode cX7_openSkip 15 = .ok (.isub, 1) := by decide +kernel
theorem dX7_openSkip_16 : decode cX7_openSkip 16 = .ok (.ireturn, 1) := by decide +kernel
theorem dX7_closeSkip_0 : decode cX7_closeSkip 0 = .ok (.iload_n 1, 1) := by decide +kernel
theorem dX7_closeSkip_1 : decode cX7_closeSkip 1 = .ok (.ifCond .lt 20, 3) := by decide +kernel
theorem dX7_closeSkip_4 : decode cX7_closeSkip 4 = .ok (.iload_n 1, 1) := by decide +kernel
theorem dX7_closeSkip_5 : decode cX7_closeSkip 5 = .ok (.sipush 400, 3) := by decide +kernel
theorem dX7_closeSkip_8 : decode cX7_closeSkip 8 = .ok (.if_icmp .ge 13, 3) := by decide +kernel
theorem dX7_closeSkip_11 : decode cX7_closeSkip 11 = .ok (.aload_n 0, 1) := by decide +kernel
theorem dX7_closeSkip_12 : decode cX7_closeSkip 12 = .ok (.getfield 22, 3) := by decide +kernel
theorem dX7_closeSkip_15 : decode cX7_closeSkip 15 = .ok (.iload_n 1, 1) := by decide +kernel
theorem dX7_closeSkip_16 : decode cX7_closeSkip 16 = .ok (.aload_n 0, 1) := by decide +kernel
theorem dX7_closeSkip_17 : decode cX7_closeSkip 17 = .ok (.getfield 41, 3) := by decide +kernel
theorem dX7_closeSkip_20 : decode cX7_closeSkip 20 = .ok (.iastore, 1) := by decide +kernel
theorem dX7_closeSkip_21 : decode cX7_closeSkip 21 = .ok (.return_, 1) := by decide +kernel
theorem dX7_stepOf_0 : decode cX7_stepOf 0 = .ok (.iload_n 0, 1) := by decide +kernel
theorem dX7_stepOf_1 : decode cX7_stepOf 1 = .ok (.lookupswitch 88 #[(37, 79), (42, 73), (43, 67), (45, 70), (47, 76), (60, 82), (62, 85)], 67) := by decide +kernel
theorem dX7_stepOf_68 : decode cX7_stepOf 68 = .ok (.bipush (-11), 2) := by decide +kernel
theorem dX7_stepOf_70 : decode cX7_stepOf 70 = .ok (.ireturn, 1) := by decide +kernel
theorem dX7_stepOf_71 : decode cX7_stepOf 71 = .ok (.bipush (-12), 2) := by decide +kernel
theorem dX7_stepOf_73 : decode cX7_stepOf 73 = .ok (.ireturn, 1) := by decide +kernel
theorem dX7_stepOf_74 : decode cX7_stepOf 74 = .ok (.bipush (-13), 2) := by decide +kernel
theorem dX7_stepOf_76 : decode cX7_stepOf 76 = .ok (.ireturn, 1) := by decide +kernel
theorem dX7_stepOf_77 : decode cX7_stepOf 77 = .ok (.bipush (-14), 2) := by decide +kernel
theorem dX7_stepOf_79 : decode cX7_stepOf 79 = .ok (.ireturn, 1) := by decide +kernel
theorem dX7_stepOf_80 : decode cX7_stepOf 80 = .ok (.bipush (-15), 2) := by decide +kernel
theorem dX7_stepOf_82 : decode cX7_stepOf 82 = .ok (.ireturn, 1) := by decide +kernel
theorem dX7_stepOf_83 : decode cX7_stepOf 83 = .ok (.bipush (-16), 2) := by decide +kernel
theorem dX7_stepOf_85 : decode cX7_stepOf 85 = .ok (.ireturn, 1) := by decide +kernel
theorem dX7_stepOf_86 : decode cX7_stepOf 86 = .ok (.bipush (-17), 2) := by decide +kernel
theorem dX7_stepOf_88 : decode cX7_stepOf 88 = .ok (.ireturn, 1) := by decide +kernel
theorem dX7_stepOf_89 : decode cX7_stepOf 89 = .ok (.bipush (-18), 2) := by decide +kernel
theorem dX7_stepOf_91 : decode cX7_stepOf 91 = .ok (.ireturn, 1) := by decide +kernel
theorem dX7_advance_0 : decode cX7_advance 0 = .ok (.aload_n 0, 1) := by decide +kernel
theorem dX7_advance_1 : decode cX7_advance 1 = .ok (.aload_n 0, 1) := by decide +kernel
theorem dX7_advance_2 : decode cX7_advance 2 = .ok (.getfield 35, 3) := by decide +kernel
theorem dX7_advance_5 : decode cX7_advance 5 = .ok (.iconst 1, 1) := by decide +kernel
theorem dX7_advance_6 : decode cX7_advance 6 = .ok (.iadd, 1) := by decide +kernel
theorem dX7_advance_7 : decode cX7_advance 7 = .ok (.aload_n 0, 1) := by decide +kernel
theorem dX7_advance_8 : decode cX7_advance 8 = .ok (.getfield 116, 3) := by decide +kernel
theorem dX7_advance_11 : decode cX7_advance 11 = .ok (.invokestatic 119, 3) := by decide +kernel
theorem dX7_advance_14 : decode cX7_advance 14 = .ok (.putfield 35, 3) := by decide +kernel
theorem dX7_advance_17 : decode cX7_advance 17 = .ok (.aload_n 0, 1) := by decide +kernel
theorem dX7_advance_18 : decode cX7_advance 18 = .ok (.aload_n 0, 1) := by decide +kernel
theorem dX7_advance_19 : decode cX7_advance 19 = .ok (.getfield 15, 3) := by decide +kernel
theorem dX7_advance_22 : decode cX7_advance 22 = .ok (.aload_n 0, 1) := by decide +kernel
theorem dX7_advance_23 : decode cX7_advance 23 = .ok (.getfield 35, 3) := by decide +kernel
theorem dX7_advance_26 : decode cX7_advance 26 = .ok (.iaload, 1) := by decide +kernel
theorem dX7_advance_27 : decode cX7_advance 27 = .ok (.putfield 38, 3) := by decide +kernel
theorem dX7_advance_30 : decode cX7_advance 30 = .ok (.return_, 1) := by decide +kernel
theorem dX7_findTokens_0 : decode cX7_findTokens 0 = .ok (.aload_n 0, 1) := by decide +kernel
theorem dX7_findTokens_1 : decode cX7_findTokens 1 = .ok (.iconst 0, 1) := by decide +kernel
theorem dX7_findTokens_2 : decode cX7_findTokens 2 = .ok (.putfield 116, 3) := by decide +kernel
theorem dX7_findTokens_5 : decode cX7_findTokens 5 = .ok (.aload_n 0, 1) := by decide +kernel
theorem dX7_findTokens_6 : decode cX7_findTokens 6 = .ok (.iconst 0, 1) := by decide +kernel
theorem dX7_findTokens_7 : decode cX7_findTokens 7 = .ok (.invokevirtual 125, 3) := by decide +kernel
theorem dX7_findTokens_10 : decode cX7_findTokens 10 = .ok (.istore_n 1, 1) := by decide +kernel
theorem dX7_findTokens_11 : decode cX7_findTokens 11 = .ok (.iload_n 1, 1) := by decide +kernel
theorem dX7_findTokens_12 : decode cX7_findTokens 12 = .ok (.aload_n 0, 1) := by decide +kernel
theorem dX7_findTokens_13 : decode cX7_findTokens 13 = .ok (.getfield 28, 3) := by decide +kernel
theorem dX7_findTokens_16 : decode cX7_findTokens 16 = .ok (.getfield 128, 3) := by decide +kernel
theorem dX7_findTokens_19 : decode cX7_findTokens 19 = .ok (.if_icmp .ge 63, 3) := by decide +kernel
theorem dX7_findTokens_22 : decode cX7_findTokens 22 = .ok (.aload_n 0, 1) := by decide +kernel
theorem dX7_findTokens_23 : decode cX7_findTokens 23 = .ok (.getfield 116, 3) := by decide +kernel
theorem dX7_findTokens_26 : decode cX7_findTokens 26 = .ok (.sipush 400, 3) := by decide +kernel
theorem dX7_findTokens_29 : decode cX7_findTokens 29 = .ok (.if_icmp .ge 53, 3) := by decide +kernel
theorem dX7_findTokens_32 : decode cX7_findTokens 32 = .ok (.aload_n 0, 1) := by decide +kernel
theorem dX7_findTokens_33 : decode cX7_findTokens 33 = .ok (.iload_n 1, 1) := by decide +kernel
theorem dX7_findTokens_34 : decode cX7_findTokens 34 = .ok (.invokevirtual 133, 3) := by decide +kernel
theorem dX7_findTokens_37 : decode cX7_findTokens 37 = .ok (.istore_n 2, 1) := by decide +kernel
theorem dX7_findTokens_38 : decode cX7_findTokens 38 = .ok (.aload_n 0, 1) := by decide +kernel
theorem dX7_findTokens_39 : decode cX7_findTokens 39 = .ok (.getfield 19, 3) := by decide +kernel
theorem dX7_findTokens_42 : decode cX7_findTokens 42 = .ok (.aload_n 0, 1) := by decide +kernel
theorem dX7_findTokens_43 : decode cX7_findTokens 43 = .ok (.getfield 116, 3) := by decide +kernel
theorem dX7_findTokens_46 : decode cX7_findTokens 46 = .ok (.iload_n 1, 1) := by decide +kernel
theorem dX7_findTokens_47 : decode cX7_findTokens 47 = .ok (.iastore, 1) := by decide +kernel
theorem dX7_findTokens_48 : decode cX7_findTokens 48 = .ok (.aload_n 0, 1) := by decide +kernel
theorem dX7_findTokens_49 : decode cX7_findTokens 49 = .ok (.getfield 15, 3) := by decide +kernel
theorem dX7_findTokens_52 : decode cX7_findTokens 52 = .ok (.aload_n 0, 1) := by decide +kernel
theorem dX7_findTokens_53 : decode cX7_findTokens 53 = .ok (.getfield 116, 3) := by decide +kernel
theorem dX7_findTokens_56 : decode cX7_findTokens 56 = .ok (.aload_n 0, 1) := by decide +kernel
theorem dX7_findTokens_57 : decode cX7_findTokens 57 = .ok (.iload_n 1, 1) := by decide +kernel
theorem dX7_findTokens_58 : decode cX7_findTokens 58 = .ok (.iload_n 2, 1) := by decide +kernel
theorem dX7_findTokens_59 : decode cX7_findTokens 59 = .ok (.invokevirtual 136, 3) := by decide +kernel
theorem dX7_findTokens_62 : decode cX7_findTokens 62 = .ok (.iastore, 1) := by decide +kernel
theorem dX7_findTokens_63 : decode cX7_findTokens 63 = .ok (.aload_n 0, 1) := by decide +kernel
theorem dX7_findTokens_64 : decode cX7_findTokens 64 = .ok (.dup, 1) := by decide +kernel
theorem dX7_findTokens_65 : decode cX7_findTokens 65 = .ok (.getfield 116, 3) := by decide +kernel
theorem dX7_findTokens_68 : decode cX7_findTokens 68 = .ok (.iconst 1, 1) := by decide +kernel
theorem dX7_findTokens_69 : decode cX7_findTokens 69 = .ok (.iadd, 1) := by decide +kernel
theorem dX7_findTokens_70 : decode cX7_findTokens 70 = .ok (.putfield 116, 3) := by decide +kernel
theorem dX7_findTokens_73 : decode cX7_findTokens 73 = .ok (.aload_n 0, 1) := by decide +kernel
theorem dX7_findTokens_74 : decode cX7_findTokens 74 = .ok (.iload_n 2, 1) := by decide +kernel
theorem dX7_findTokens_75 : decode cX7_findTokens 75 = .ok (.invokevirtual 125, 3) := by decide +kernel
theorem dX7_findTokens_78 : decode cX7_findTokens 78 = .ok (.istore_n 1, 1) := by decide +kernel
theorem dX7_findTokens_79 : decode cX7_findTokens 79 = .ok (.goto (-68), 3) := by decide +kernel
theorem dX7_findTokens_82 : decode cX7_findTokens 82 = .ok (.aload_n 0, 1) := by decide +kernel
theorem dX7_findTokens_83 : decode cX7_findTokens 83 = .ok (.getfield 19, 3) := by decide +kernel
theorem dX7_findTokens_86 : decode cX7_findTokens 86 = .ok (.aload_n 0, 1) := by decide +kernel
theorem dX7_findTokens_87 : decode cX7_findTokens 87 = .ok (.getfield 116, 3) := by decide +kernel
theorem dX7_findTokens_90 : decode cX7_findTokens 90 = .ok (.aload_n 0, 1) := by decide +kernel
theorem dX7_findTokens_91 : decode cX7_findTokens 91 = .ok (.getfield 28, 3) := by decide +kernel
theorem dX7_findTokens_94 : decode cX7_findTokens 94 = .ok (.getfield 128, 3) := by decide +kernel
theorem dX7_findTokens_97 : decode cX7_findTokens 97 = .ok (.iastore, 1) := by decide +kernel
theorem dX7_findTokens_98 : decode cX7_findTokens 98 = .ok (.aload_n 0, 1) := by decide +kernel
theorem dX7_findTokens_99 : decode cX7_findTokens 99 = .ok (.getfield 15, 3) := by decide +kernel
theorem dX7_findTokens_102 : decode cX7_findTokens 102 = .ok (.aload_n 0, 1) := by decide +kernel
theorem dX7_findTokens_103 : decode cX7_findTokens 103 = .ok (.getfield 116, 3) := by decide +kernel
theorem dX7_findTokens_106 : decode cX7_findTokens 106 = .ok (.sipush 256, 3) := by decide +kernel
theorem dX7_findTokens_109 : decode cX7_findTokens 109 = .ok (.iastore, 1) := by decide +kernel
theorem dX7_findTokens_110 : decode cX7_findTokens 110 = .ok (.return_, 1) := by decide +kernel
theorem dX7_skipBlanks_0 : decode cX7_skipBlanks 0 = .ok (.iload_n 1, 1) := by decide +kernel
theorem dX7_skipBlanks_1 : decode cX7_skipBlanks 1 = .ok (.istore_n 2, 1) := by decide +kernel
theorem dX7_skipBlanks_2 : decode cX7_skipBlanks 2 = .ok (.iload_n 2, 1) := by decide +kernel
theorem dX7_skipBlanks_3 : decode cX7_skipBlanks 3 = .ok (.aload_n 0, 1) := by decide +kernel
theorem dX7_skipBlanks_4 : decode cX7_skipBlanks 4 = .ok (.getfield 28, 3) := by decide +kernel
theorem dX7_skipBlanks_7 : decode cX7_skipBlanks 7 = .ok (.getfield 128, 3) := by decide +kernel
theorem dX7_skipBlanks_10 : decode cX7_skipBlanks 10 = .ok (.if_icmp .ge 22, 3) := by decide +kernel
theorem dX7_skipBlanks_13 : decode cX7_skipBlanks 13 = .ok (.aload_n 0, 1) := by decide +kernel
theorem dX7_skipBlanks_14 : decode cX7_skipBlanks 14 = .ok (.getfield 28, 3) := by decide +kernel
theorem dX7_skipBlanks_17 : decode cX7_skipBlanks 17 = .ok (.iload_n 2, 1) := by decide +kernel
theorem dX7_skipBlanks_18 : decode cX7_skipBlanks 18 = .ok (.invokevirtual 139, 3) := by decide +kernel
theorem dX7_skipBlanks_21 : decode cX7_skipBlanks 21 = .ok (.bipush 32, 2) := by decide +kernel
theorem dX7_skipBlanks_23 : decode cX7_skipBlanks 23 = .ok (.if_icmp .ne 9, 3) := by decide +kernel
theorem dX7_skipBlanks_26 : decode cX7_skipBlanks 26 = .ok (.iinc 2 1, 3) := by decide +kernel
theorem dX7_skipBlanks_29 : decode cX7_skipBlanks 29 = .ok (.goto (-27), 3) := by decide +kernel
theorem dX7_skipBlanks_32 : decode cX7_skipBlanks 32 = .ok (.iload_n 2, 1) := by decide +kernel
theorem dX7_skipBlanks_33 : decode cX7_skipBlanks 33 = .ok (.ireturn, 1) := by decide +kernel
theorem dX7_stopOf_0 : decode cX7_stopOf 0 = .ok (.aload_n 0, 1) := by decide +kernel
theorem dX7_stopOf_1 : decode cX7_stopOf 1 = .ok (.getfield 28, 3) := by decide +kernel
theorem dX7_stopOf_4 : decode cX7_stopOf 4 = .ok (.iload_n 1, 1) := by decide +kernel
theorem dX7_stopOf_5 : decode cX7_stopOf 5 = .ok (.invokevirtual 139, 3) := by decide +kernel
theorem dX7_stopOf_8 : decode cX7_stopOf 8 = .ok (.invokestatic 142, 3) := by decide +kernel
theorem dX7_stopOf_11 : decode cX7_stopOf 11 = .ok (.istore_n 2, 1) := by decide +kernel
theorem dX7_stopOf_12 : decode cX7_stopOf 12 = .ok (.aload_n 0, 1) := by decide +kernel
theorem dX7_stopOf_13 : decode cX7_stopOf 13 = .ok (.getfield 28, 3) := by decide +kernel
theorem dX7_stopOf_16 : decode cX7_stopOf 16 = .ok (.iload_n 1, 1) := by decide +kernel
theorem dX7_stopOf_17 : decode cX7_stopOf 17 = .ok (.invokevirtual 139, 3) := by decide +kernel
theorem dX7_stopOf_20 : decode cX7_stopOf 20 = .ok (.invokestatic 145, 3) := by decide +kernel
theorem dX7_stopOf_23 : decode cX7_stopOf 23 = .ok (.istore_n 3, 1) := by decide +kernel
theorem dX7_stopOf_24 : decode cX7_stopOf 24 = .ok (.iload_n 1, 1) := by decide +kernel
theorem dX7_stopOf_25 : decode cX7_stopOf 25 = .ok (.iconst 1, 1) := by decide +kernel
theorem dX7_stopOf_26 : decode cX7_stopOf 26 = .ok (.iadd, 1) := by decide +kernel
theorem dX7_stopOf_27 : decode cX7_stopOf 27 = .ok (.istore 4, 2) := by decide +kernel
theorem dX7_stopOf_29 : decode cX7_stopOf 29 = .ok (.iload 4, 2) := by decide +kernel
theorem dX7_stopOf_31 : decode cX7_stopOf 31 = .ok (.aload_n 0, 1) := by decide +kernel
theorem dX7_stopOf_32 : decode cX7_stopOf 32 = .ok (.getfield 28, 3) := by decide +kernel
theorem dX7_stopOf_35 : decode cX7_stopOf 35 = .ok (.getfield 128, 3) := by decide +kernel
theorem dX7_stopOf_38 : decode cX7_stopOf 38 = .ok (.if_icmp .ge 47, 3) := by decide +kernel
theorem dX7_stopOf_41 : decode cX7_stopOf 41 = .ok (.iload_n 2, 1) := by decide +kernel
theorem dX7_stopOf_42 : decode cX7_stopOf 42 = .ok (.ifCond .eq 18, 3) := by decide +kernel
theorem dX7_stopOf_45 : decode cX7_stopOf 45 = .ok (.aload_n 0, 1) := by decide +kernel
theorem dX7_stopOf_46 : decode cX7_stopOf 46 = .ok (.getfield 28, 3) := by decide +kernel
theorem dX7_stopOf_49 : decode cX7_stopOf 49 = .ok (.iload 4, 2) := by decide +kernel
theorem dX7_stopOf_51 : decode cX7_stopOf 51 = .ok (.invokevirtual 139, 3) := by decide +kernel
theorem dX7_stopOf_54 : decode cX7_stopOf 54 = .ok (.invokestatic 142, 3) := by decide +kernel
theorem dX7_stopOf_57 : decode cX7_stopOf 57 = .ok (.ifCond .ne 22, 3) := by decide +kernel
theorem dX7_stopOf_60 : decode cX7_stopOf 60 = .ok (.iload_n 3, 1) := by decide +kernel
theorem dX7_stopOf_61 : decode cX7_stopOf 61 = .ok (.ifCond .eq 24, 3) := by decide +kernel
theorem dX7_stopOf_64 : decode cX7_stopOf 64 = .ok (.aload_n 0, 1) := by decide +kernel
theorem dX7_stopOf_65 : decode cX7_stopOf 65 = .ok (.getfield 28, 3) := by decide +kernel
theorem dX7_stopOf_68 : decode cX7_stopOf 68 = .ok (.iload 4, 2) := by decide +kernel
theorem dX7_stopOf_70 : decode cX7_stopOf 70 = .ok (.invokevirtual 139, 3) := by decide +kernel
theorem dX7_stopOf_73 : decode cX7_stopOf 73 = .ok (.invokestatic 145, 3) := by decide +kernel
theorem dX7_stopOf_76 : decode cX7_stopOf 76 = .ok (.ifCond .eq 9, 3) := by decide +kernel
theorem dX7_stopOf_79 : decode cX7_stopOf 79 = .ok (.iinc 4 1, 3) := by decide +kernel
theorem dX7_stopOf_82 : decode cX7_stopOf 82 = .ok (.goto (-53), 3) := by decide +kernel
theorem dX7_stopOf_85 : decode cX7_stopOf 85 = .ok (.iload 4, 2) := by decide +kernel
theorem dX7_stopOf_87 : decode cX7_stopOf 87 = .ok (.ireturn, 1) := by decide +kernel
theorem dX7_kindOf_0 : decode cX7_kindOf 0 = .ok (.aload_n 0, 1) := by decide +kernel
theorem dX7_kindOf_1 : decode cX7_kindOf 1 = .ok (.getfield 28, 3) := by decide +kernel
theorem dX7_kindOf_4 : decode cX7_kindOf 4 = .ok (.iload_n 1, 1) := by decide +kernel
theorem dX7_kindOf_5 : decode cX7_kindOf 5 = .ok (.invokevirtual 139, 3) := by decide +kernel
theorem dX7_kindOf_8 : decode cX7_kindOf 8 = .ok (.istore_n 3, 1) := by decide +kernel
theorem dX7_kindOf_9 : decode cX7_kindOf 9 = .ok (.iload_n 3, 1) := by decide +kernel
theorem dX7_kindOf_10 : decode cX7_kindOf 10 = .ok (.invokestatic 142, 3) := by decide +kernel
theorem dX7_kindOf_13 : decode cX7_kindOf 13 = .ok (.ifCond .eq 10, 3) := by decide +kernel
theorem dX7_kindOf_16 : decode cX7_kindOf 16 = .ok (.aload_n 0, 1) := by decide +kernel
theorem dX7_kindOf_17 : decode cX7_kindOf 17 = .ok (.iload_n 1, 1) := by decide +kernel
theorem dX7_kindOf_18 : decode cX7_kindOf 18 = .ok (.iload_n 2, 1) := by decide +kernel
theorem dX7_kindOf_19 : decode cX7_kindOf 19 = .ok (.invokevirtual 148, 3) := by decide +kernel
theorem dX7_kindOf_22 : decode cX7_kindOf 22 = .ok (.ireturn, 1) := by decide +kernel
theorem dX7_kindOf_23 : decode cX7_kindOf 23 = .ok (.iload_n 3, 1) := by decide +kernel
theorem dX7_kindOf_24 : decode cX7_kindOf 24 = .ok (.invokestatic 145, 3) := by decide +kernel
theorem dX7_kindOf_27 : decode cX7_kindOf 27 = .ok (.ifCond .eq 16, 3) := by decide +kernel
theorem dX7_kindOf_30 : decode cX7_kindOf 30 = .ok (.sipush 300, 3) := by decide +kernel
theorem dX7_kindOf_33 : decode cX7_kindOf 33 = .ok (.aload_n 0, 1) := by decide +kernel
theorem dX7_kindOf_34 : decode cX7_kindOf 34 = .ok (.iload_n 1, 1) := by decide +kernel
theorem dX7_kindOf_35 : decode cX7_kindOf 35 = .ok (.iload_n 2, 1) := by decide +kernel
theorem dX7_kindOf_36 : decode cX7_kindOf 36 = .ok (.invokevirtual 151, 3) := by decide +kernel
theorem dX7_kindOf_39 : decode cX7_kindOf 39 = .ok (.iadd, 1) := by decide +kernel
theorem dX7_kindOf_40 : decode cX7_kindOf 40 = .ok (.goto 4, 3) := by decide +kernel
theorem dX7_kindOf_43 : decode cX7_kindOf 43 = .ok (.iload_n 3, 1) := by decide +kernel
theorem dX7_kindOf_44 : decode cX7_kindOf 44 = .ok (.ireturn, 1) := by decide +kernel
theorem dX7_numberAt_0 : decode cX7_numberAt 0 = .ok (.iconst 0, 1) := by decide +kernel
theorem dX7_numberAt_1 : decode cX7_numberAt 1 = .ok (.istore_n 3, 1) := by decide +kernel
theorem dX7_numberAt_2 : decode cX7_numberAt 2 = .ok (.iload_n 1, 1) := by decide +kernel
theorem dX7_numberAt_3 : decode cX7_numberAt 3 = .ok (.istore 4, 2) := by decide +kernel
theorem dX7_numberAt_5 : decode cX7_numberAt 5 = .ok (.iload 4, 2) := by decide +kernel
theorem dX7_numberAt_7 : decode cX7_numberAt 7 = .ok (.iload_n 2, 1) := by decide +kernel
theorem dX7_numberAt_8 : decode cX7_numberAt 8 = .ok (.if_icmp .ge 33, 3) := by decide +kernel
theorem dX7_numberAt_11 : decode cX7_numberAt 11 = .ok (.iload_n 3, 1) := by decide +kernel
theorem dX7_numberAt_12 : decode cX7_numberAt 12 = .ok (.bipush 10, 2) := by decide +kernel
theorem dX7_numberAt_14 : decode cX7_numberAt 14 = .ok (.imul, 1) := by decide +kernel
theorem dX7_numberAt_15 : decode cX7_numberAt 15 = .ok (.aload_n 0, 1) := by decide +kernel
theorem dX7_numberAt_16 : decode cX7_numberAt 16 = .ok (.getfield 28, 3) := by decide +kernel
theorem dX7_numberAt_19 : decode cX7_numberAt 19 = .ok (.iload 4, 2) := by decide +kernel
theorem dX7_numberAt_21 : decode cX7_numberAt 21 = .ok (.invokevirtual 139, 3) := by decide +kernel
theorem dX7_numberAt_24 : decode cX7_numberAt 24 = .ok (.iadd, 1) := by decide +kernel
theorem dX7_numberAt_25 : decode cX7_numberAt 25 = .ok (.bipush 48, 2) := by decide +kernel
theorem dX7_numberAt_27 : decode cX7_numberAt 27 = .ok (.isub, 1) := by decide +kernel
theorem dX7_numberAt_28 : decode cX7_numberAt 28 = .ok (.sipush 1001, 3) := by decide +kernel
theorem dX7_numberAt_31 : decode cX7_numberAt 31 = .ok (.invokestatic 119, 3) := by decide +kernel
theorem dX7_numberAt_34 : decode cX7_numberAt 34 = .ok (.istore_n 3, 1) := by decide +kernel
theorem dX7_numberAt_35 : decode cX7_numberAt 35 = .ok (.iinc 4 1, 3) := by decide +kernel
theorem dX7_numberAt_38 : decode cX7_numberAt 38 = .ok (.goto (-33), 3) := by decide +kernel
theorem dX7_numberAt_41 : decode cX7_numberAt 41 = .ok (.iload_n 3, 1) := by decide +kernel
theorem dX7_numberAt_42 : decode cX7_numberAt 42 = .ok (.ireturn, 1) := by decide +kernel
theorem dX7_isLetter_0 : decode cX7_isLetter 0 = .ok (.iload_n 0, 1) := by decide +kernel
theorem dX7_isLetter_1 : decode cX7_isLetter 1 = .ok (.bipush 97, 2) := by decide +kernel
theorem dX7_isLetter_3 : decode cX7_isLetter 3 = .ok (.if_icmp .lt 13, 3) := by decide +kernel
theorem dX7_isLetter_6 : decode cX7_isLetter 6 = .ok (.iload_n 0, 1) := by decide +kernel
theorem dX7_isLetter_7 : decode cX7_isLetter 7 = .ok (.bipush 122, 2) := by decide +kernel
theorem dX7_isLetter_9 : decode cX7_isLetter 9 = .ok (.if_icmp .gt 7, 3) := by decide +kernel
theorem dX7_isLetter_12 : decode cX7_isLetter 12 = .ok (.iconst 1, 1) := by decide +kernel
theorem dX7_isLetter_13 : decode cX7_isLetter 13 = .ok (.goto 4, 3) := by decide +kernel
theorem dX7_isLetter_16 : decode cX7_isLetter 16 = .ok (.iconst 0, 1) := by decide +kernel
theorem dX7_isLetter_17 : decode cX7_isLetter 17 = .ok (.ireturn, 1) := by decide +kernel
theorem dX7_isDigit_0 : decode cX7_isDigit 0 = .ok (.iload_n 0, 1) := by decide +kernel
theorem dX7_isDigit_1 : decode cX7_isDigit 1 = .ok (.bipush 48, 2) := by decide +kernel
theorem dX7_isDigit_3 : decode cX7_isDigit 3 = .ok (.if_icmp .lt 13, 3) := by decide +kernel
theorem dX7_isDigit_6 : decode cX7_isDigit 6 = .ok (.iload_n 0, 1) := by decide +kernel
theorem dX7_isDigit_7 : decode cX7_isDigit 7 = .ok (.bipush 57, 2) := by decide +kernel
theorem dX7_isDigit_9 : decode cX7_isDigit 9 = .ok (.if_icmp .gt 7, 3) := by decide +kernel
theorem dX7_isDigit_12 : decode cX7_isDigit 12 = .ok (.iconst 1, 1) := by decide +kernel
theorem dX7_isDigit_13 : decode cX7_isDigit 13 = .ok (.goto 4, 3) := by decide +kernel
theorem dX7_isDigit_16 : decode cX7_isDigit 16 = .ok (.iconst 0, 1) := by decide +kernel
theorem dX7_isDigit_17 : decode cX7_isDigit 17 = .ok (.ireturn, 1) := by decide +kernel
theorem dX7_wordKind_0 : decode cX7_wordKind 0 = .ok (.aload_n 0, 1) := by decide +kernel
theorem dX7_wordKind_1 : decode cX7_wordKind 1 = .ok (.getfield 28, 3) := by decide +kernel
theorem dX7_wordKind_4 : decode cX7_wordKind 4 = .ok (.ldc 154, 2) := by decide +kernel
theorem dX7_wordKind_6 : decode cX7_wordKind 6 = .ok (.iload_n 1, 1) := by decide +kernel
theorem dX7_wordKind_7 : decode cX7_wordKind 7 = .ok (.iload_n 2, 1) := by decide +kernel
theorem dX7_wordKind_8 : decode cX7_wordKind 8 = .ok (.invokevirtual 156, 3) := by decide +kernel
theorem dX7_wordKind_11 : decode cX7_wordKind 11 = .ok (.ifCond .eq 7, 3) := by decide +kernel
theorem dX7_wordKind_14 : decode cX7_wordKind 14 = .ok (.sipush 258, 3) := by decide +kernel
theorem dX7_wordKind_17 : decode cX7_wordKind 17 = .ok (.ireturn, 1) := by decide +kernel
theorem dX7_wordKind_18 : decode cX7_wordKind 18 = .ok (.aload_n 0, 1) := by decide +kernel
theorem dX7_wordKind_19 : decode cX7_wordKind 19 = .ok (.getfield 28, 3) := by decide +kernel
theorem dX7_wordKind_22 : decode cX7_wordKind 22 = .ok (.ldc 160, 2) := by decide +kernel
theorem dX7_wordKind_24 : decode cX7_wordKind 24 = .ok (.iload_n 1, 1) := by decide +kernel
theorem dX7_wordKind_25 : decode cX7_wordKind 25 = .ok (.iload_n 2, 1) := by decide +kernel
theorem dX7_wordKind_26 : decode cX7_wordKind 26 = .ok (.invokevirtual 156, 3) := by decide +kernel
theorem dX7_wordKind_29 : decode cX7_wordKind 29 = .ok (.ifCond .eq 7, 3) := by decide +kernel
theorem dX7_wordKind_32 : decode cX7_wordKind 32 = .ok (.sipush 259, 3) := by decide +kernel
theorem dX7_wordKind_35 : decode cX7_wordKind 35 = .ok (.ireturn, 1) := by decide +kernel
theorem dX7_wordKind_36 : decode cX7_wordKind 36 = .ok (.aload_n 0, 1) := by decide +kernel
theorem dX7_wordKind_37 : decode cX7_wordKind 37 = .ok (.getfield 28, 3) := by decide +kernel
theorem dX7_wordKind_40 : decode cX7_wordKind 40 = .ok (.ldc 162, 2) := by decide +kernel
theorem dX7_wordKind_42 : decode cX7_wordKind 42 = .ok (.iload_n 1, 1) := by decide +kernel
theorem dX7_wordKind_43 : decode cX7_wordKind 43 = .ok (.iload_n 2, 1) := by decide +kernel
theorem dX7_wordKind_44 : decode cX7_wordKind 44 = .ok (.invokevirtual 156, 3) := by decide +kernel
theorem dX7_wordKind_47 : decode cX7_wordKind 47 = .ok (.ifCond .eq 7, 3) := by decide +kernel
theorem dX7_wordKind_50 : decode cX7_wordKind 50 = .ok (.sipush 260, 3) := by decide +kernel
theorem dX7_wordKind_53 : decode cX7_wordKind 53 = .ok (.ireturn, 1) := by decide +kernel
theorem dX7_wordKind_54 : decode cX7_wordKind 54 = .ok (.aload_n 0, 1) := by decide +kernel
theorem dX7_wordKind_55 : decode cX7_wordKind 55 = .ok (.getfield 28, 3) := by decide +kernel
theorem dX7_wordKind_58 : decode cX7_wordKind 58 = .ok (.ldc 164, 2) := by decide +kernel
theorem dX7_wordKind_60 : decode cX7_wordKind 60 = .ok (.iload_n 1, 1) := by decide +kernel
theorem dX7_wordKind_61 : decode cX7_wordKind 61 = .ok (.iload_n 2, 1) := by decide +kernel
theorem dX7_wordKind_62 : decode cX7_wordKind 62 = .ok (.invokevirtual 156, 3) := by decide +kernel
theorem dX7_wordKind_65 : decode cX7_wordKind 65 = .ok (.ifCond .eq 7, 3) := by decide +kernel
theorem dX7_wordKind_68 : decode cX7_wordKind 68 = .ok (.sipush 261, 3) := by decide +kernel
theorem dX7_wordKind_71 : decode cX7_wordKind 71 = .ok (.ireturn, 1) := by decide +kernel
theorem dX7_wordKind_72 : decode cX7_wordKind 72 = .ok (.aload_n 0, 1) := by decide +kernel
theorem dX7_wordKind_73 : decode cX7_wordKind 73 = .ok (.getfield 28, 3) := by decide +kernel
theorem dX7_wordKind_76 : decode cX7_wordKind 76 = .ok (.ldc 166, 2) := by decide +kernel
theorem dX7_wordKind_78 : decode cX7_wordKind 78 = .ok (.iload_n 1, 1) := by decide +kernel
theorem dX7_wordKind_79 : decode cX7_wordKind 79 = .ok (.iload_n 2, 1) := by decide +kernel
theorem dX7_wordKind_80 : decode cX7_wordKind 80 = .ok (.invokevirtual 156, 3) := by decide +kernel
theorem dX7_wordKind_83 : decode cX7_wordKind 83 = .ok (.ifCond .eq 7, 3) := by decide +kernel
theorem dX7_wordKind_86 : decode cX7_wordKind 86 = .ok (.sipush 262, 3) := by decide +kernel
theorem dX7_wordKind_89 : decode cX7_wordKind 89 = .ok (.ireturn, 1) := by decide +kernel
theorem dX7_wordKind_90 : decode cX7_wordKind 90 = .ok (.aload_n 0, 1) := by decide +kernel
theorem dX7_wordKind_91 : decode cX7_wordKind 91 = .ok (.iload_n 1, 1) := by decide +kernel
theorem dX7_wordKind_92 : decode cX7_wordKind 92 = .ok (.iload_n 2, 1) := by decide +kernel
theorem dX7_wordKind_93 : decode cX7_wordKind 93 = .ok (.invokevirtual 168, 3) := by decide +kernel
theorem dX7_wordKind_96 : decode cX7_wordKind 96 = .ok (.ireturn, 1) := by decide +kernel
theorem dX7_partKind_0 : decode cX7_partKind 0 = .ok (.aload_n 0, 1) := by decide +kernel
theorem dX7_partKind_1 : decode cX7_partKind 1 = .ok (.getfield 28, 3) := by decide +kernel
theorem dX7_partKind_4 : decode cX7_partKind 4 = .ok (.ldc 171, 2) := by decide +kernel
theorem dX7_partKind_6 : decode cX7_partKind 6 = .ok (.iload_n 1, 1) := by decide +kernel
theorem dX7_partKind_7 : decode cX7_partKind 7 = .ok (.iload_n 2, 1) := by decide +kernel
theorem dX7_partKind_8 : decode cX7_partKind 8 = .ok (.invokevirtual 156, 3) := by decide +kernel
theorem dX7_partKind_11 : decode cX7_partKind 11 = .ok (.ifCond .eq 5, 3) := by decide +kernel
theorem dX7_partKind_14 : decode cX7_partKind 14 = .ok (.iconst (-1), 1) := by decide +kernel
theorem dX7_partKind_15 : decode cX7_partKind 15 = .ok (.ireturn, 1) := by decide +kernel
theorem dX7_partKind_16 : decode cX7_partKind 16 = .ok (.aload_n 0, 1) := by decide +kernel
theorem dX7_partKind_17 : decode cX7_partKind 17 = .ok (.getfield 28, 3) := by decide +kernel
theorem dX7_partKind_20 : decode cX7_partKind 20 = .ok (.ldc 173, 2) := by decide +kernel
theorem dX7_partKind_22 : decode cX7_partKind 22 = .ok (.iload_n 1, 1) := by decide +kernel
theorem dX7_partKind_23 : decode cX7_partKind 23 = .ok (.iload_n 2, 1) := by decide +kernel
theorem dX7_partKind_24 : decode cX7_partKind 24 = .ok (.invokevirtual 156, 3) := by decide +kernel
theorem dX7_partKind_27 : decode cX7_partKind 27 = .ok (.ifCond .eq 6, 3) := by decide +kernel
theorem dX7_partKind_30 : decode cX7_partKind 30 = .ok (.bipush (-2), 2) := by decide +kernel
theorem dX7_partKind_32 : decode cX7_partKind 32 = .ok (.ireturn, 1) := by decide +kernel
theorem dX7_partKind_33 : decode cX7_partKind 33 = .ok (.aload_n 0, 1) := by decide +kernel
theorem dX7_partKind_34 : decode cX7_partKind 34 = .ok (.getfield 28, 3) := by decide +kernel
theorem dX7_partKind_37 : decode cX7_partKind 37 = .ok (.ldc 175, 2) := by decide +kernel
theorem dX7_partKind_39 : decode cX7_partKind 39 = .ok (.iload_n 1, 1) := by decide +kernel
theorem dX7_partKind_40 : decode cX7_partKind 40 = .ok (.iload_n 2, 1) := by decide +kernel
theorem dX7_partKind_41 : decode cX7_partKind 41 = .ok (.invokevirtual 156, 3) := by decide +kernel
theorem dX7_partKind_44 : decode cX7_partKind 44 = .ok (.ifCond .eq 6, 3) := by decide +kernel
theorem dX7_partKind_47 : decode cX7_partKind 47 = .ok (.bipush (-3), 2) := by decide +kernel
theorem dX7_partKind_49 : decode cX7_partKind 49 = .ok (.ireturn, 1) := by decide +kernel
theorem dX7_partKind_50 : decode cX7_partKind 50 = .ok (.aload_n 0, 1) := by decide +kernel
theorem dX7_partKind_51 : decode cX7_partKind 51 = .ok (.getfield 28, 3) := by decide +kernel
theorem dX7_partKind_54 : decode cX7_partKind 54 = .ok (.ldc 177, 2) := by decide +kernel
theorem dX7_partKind_56 : decode cX7_partKind 56 = .ok (.iload_n 1, 1) := by decide +kernel
theorem dX7_partKind_57 : decode cX7_partKind 57 = .ok (.iload_n 2, 1) := by decide +kernel
theorem dX7_partKind_58 : decode cX7_partKind 58 = .ok (.invokevirtual 156, 3) := by decide +kernel
theorem dX7_partKind_61 : decode cX7_partKind 61 = .ok (.ifCond .eq 6, 3) := by decide +kernel
theorem dX7_partKind_64 : decode cX7_partKind 64 = .ok (.bipush (-4), 2) := by decide +kernel
theorem dX7_partKind_66 : decode cX7_partKind 66 = .ok (.ireturn, 1) := by decide +kernel
theorem dX7_partKind_67 : decode cX7_partKind 67 = .ok (.aload_n 0, 1) := by decide +kernel
theorem dX7_partKind_68 : decode cX7_partKind 68 = .ok (.getfield 28, 3) := by decide +kernel
theorem dX7_partKind_71 : decode cX7_partKind 71 = .ok (.ldc 179, 2) := by decide +kernel
theorem dX7_partKind_73 : decode cX7_partKind 73 = .ok (.iload_n 1, 1) := by decide +kernel
theorem dX7_partKind_74 : decode cX7_partKind 74 = .ok (.iload_n 2, 1) := by decide +kernel
theorem dX7_partKind_75 : decode cX7_partKind 75 = .ok (.invokevirtual 156, 3) := by decide +kernel
theorem dX7_partKind_78 : decode cX7_partKind 78 = .ok (.ifCond .eq 6, 3) := by decide +kernel
theorem dX7_partKind_81 : decode cX7_partKind 81 = .ok (.bipush (-5), 2) := by decide +kernel
theorem dX7_partKind_83 : decode cX7_partKind 83 = .ok (.ireturn, 1) := by decide +kernel
theorem dX7_partKind_84 : decode cX7_partKind 84 = .ok (.aload_n 0, 1) := by decide +kernel
theorem dX7_partKind_85 : decode cX7_partKind 85 = .ok (.getfield 28, 3) := by decide +kernel
theorem dX7_partKind_88 : decode cX7_partKind 88 = .ok (.ldc 181, 2) := by decide +kernel
theorem dX7_partKind_90 : decode cX7_partKind 90 = .ok (.iload_n 1, 1) := by decide +kernel
theorem dX7_partKind_91 : decode cX7_partKind 91 = .ok (.iload_n 2, 1) := by decide +kernel
theorem dX7_partKind_92 : decode cX7_partKind 92 = .ok (.invokevirtual 156, 3) := by decide +kernel
theorem dX7_partKind_95 : decode cX7_partKind 95 = .ok (.ifCond .eq 6, 3) := by decide +kernel
theorem dX7_partKind_98 : decode cX7_partKind 98 = .ok (.bipush (-6), 2) := by decide +kernel
theorem dX7_partKind_100 : decode cX7_partKind 100 = .ok (.ireturn, 1) := by decide +kernel
theorem dX7_partKind_101 : decode cX7_partKind 101 = .ok (.aload_n 0, 1) := by decide +kernel
theorem dX7_partKind_102 : decode cX7_partKind 102 = .ok (.getfield 28, 3) := by decide +kernel
theorem dX7_partKind_105 : decode cX7_partKind 105 = .ok (.ldc 183, 2) := by decide +kernel
theorem dX7_partKind_107 : decode cX7_partKind 107 = .ok (.iload_n 1, 1) := by decide +kernel
theorem dX7_partKind_108 : decode cX7_partKind 108 = .ok (.iload_n 2, 1) := by decide +kernel
theorem dX7_partKind_109 : decode cX7_partKind 109 = .ok (.invokevirtual 156, 3) := by decide +kernel
theorem dX7_partKind_112 : decode cX7_partKind 112 = .ok (.ifCond .eq 6, 3) := by decide +kernel
theorem dX7_partKind_115 : decode cX7_partKind 115 = .ok (.bipush (-7), 2) := by decide +kernel
theorem dX7_partKind_117 : decode cX7_partKind 117 = .ok (.ireturn, 1) := by decide +kernel
theorem dX7_partKind_118 : decode cX7_partKind 118 = .ok (.aload_n 0, 1) := by decide +kernel
theorem dX7_partKind_119 : decode cX7_partKind 119 = .ok (.getfield 28, 3) := by decide +kernel
theorem dX7_partKind_122 : decode cX7_partKind 122 = .ok (.ldc 185, 2) := by decide +kernel
theorem dX7_partKind_124 : decode cX7_partKind 124 = .ok (.iload_n 1, 1) := by decide +kernel
theorem dX7_partKind_125 : decode cX7_partKind 125 = .ok (.iload_n 2, 1) := by decide +kernel
theorem dX7_partKind_126 : decode cX7_partKind 126 = .ok (.invokevirtual 156, 3) := by decide +kernel
theorem dX7_partKind_129 : decode cX7_partKind 129 = .ok (.ifCond .eq 6, 3) := by decide +kernel
theorem dX7_partKind_132 : decode cX7_partKind 132 = .ok (.bipush (-8), 2) := by decide +kernel
theorem dX7_partKind_134 : decode cX7_partKind 134 = .ok (.ireturn, 1) := by decide +kernel
theorem dX7_partKind_135 : decode cX7_partKind 135 = .ok (.sipush 257, 3) := by decide +kernel
theorem dX7_partKind_138 : decode cX7_partKind 138 = .ok (.ireturn, 1) := by decide +kernel
theorem dX8_init_0 : decode cX8_init 0 = .ok (.aload_n 0, 1) := by decide +kernel
theorem dX8_init_1 : decode cX8_init 1 = .ok (.invokespecial 3, 3) := by decide +kernel
theorem dX8_init_4 : decode cX8_init 4 = .ok (.aload_n 0, 1) := by decide +kernel
theorem dX8_init_5 : decode cX8_init 5 = .ok (.sipush 2304, 3) := by decide +kernel
theorem dX8_init_8 : decode cX8_init 8 = .ok (.newarray .long, 2) := by decide +kernel
theorem dX8_init_10 : decode cX8_init 10 = .ok (.putfield 9, 3) := by decide +kernel
theorem dX8_init_13 : decode cX8_init 13 = .ok (.aload_n 0, 1) := by decide +kernel
theorem dX8_init_14 : decode cX8_init 14 = .ok (.aload_n 1, 1) := by decide +kernel
theorem dX8_init_15 : decode cX8_init 15 = .ok (.putfield 15, 3) := by decide +kernel
theorem dX8_init_18 : decode cX8_init 18 = .ok (.return_, 1) := by decide +kernel
theorem dX8_countRows_0 : decode cX8_countRows 0 = .ok (.aload_n 0, 1) := by decide +kernel
theorem dX8_countRows_1 : decode cX8_countRows 1 = .ok (.getfield 15, 3) := by decide +kernel
theorem dX8_countRows_4 : decode cX8_countRows 4 = .ok (.iload_n 3, 1) := by decide +kernel
theorem dX8_countRows_5 : decode cX8_countRows 5 = .ok (.invokevirtual 19, 3) := by decide +kernel
theorem dX8_countRows_8 : decode cX8_countRows 8 = .ok (.aload_n 0, 1) := by decide +kernel
theorem dX8_countRows_9 : decode cX8_countRows 9 = .ok (.getfield 9, 3) := by decide +kernel
theorem dX8_countRows_12 : decode cX8_countRows 12 = .ok (.iconst 0, 1) := by decide +kernel
theorem dX8_countRows_13 : decode cX8_countRows 13 = .ok (.iload_n 1, 1) := by decide +kernel
theorem dX8_countRows_14 : decode cX8_countRows 14 = .ok (.iconst 1, 1) := by decide +kernel
theorem dX8_countRows_15 : decode cX8_countRows 15 = .ok (.iadd, 1) := by decide +kernel
theorem dX8_countRows_16 : decode cX8_countRows 16 = .ok (.sipush 256, 3) := by decide +kernel
theorem dX8_countRows_19 : decode cX8_countRows 19 = .ok (.imul, 1) := by decide +kernel
theorem dX8_countRows_20 : decode cX8_countRows 20 = .ok (.lconst 0, 1) := by decide +kernel
theorem dX8_countRows_21 : decode cX8_countRows 21 = .ok (.invokestatic 25, 3) := by decide +kernel
theorem dX8_countRows_24 : decode cX8_countRows 24 = .ok (.aload_n 0, 1) := by decide +kernel
theorem dX8_countRows_25 : decode cX8_countRows 25 = .ok (.getfield 9, 3) := by decide +kernel
theorem dX8_countRows_28 : decode cX8_countRows 28 = .ok (.iconst 0, 1) := by decide +kernel
theorem dX8_countRows_29 : decode cX8_countRows 29 = .ok (.lconst 1, 1) := by decide +kernel
theorem dX8_countRows_30 : decode cX8_countRows 30 = .ok (.lastore, 1) := by decide +kernel
theorem dX8_countRows_31 : decode cX8_countRows 31 = .ok (.iconst 0, 1) := by decide +kernel
theorem dX8_countRows_32 : decode cX8_countRows 32 = .ok (.istore 6, 2) := by decide +kernel
theorem dX8_countRows_34 : decode cX8_countRows 34 = .ok (.iload 6, 2) := by decide +kernel
theorem dX8_countRows_36 : decode cX8_countRows 36 = .ok (.iload_n 2, 1) := by decide +kernel
theorem dX8_countRows_37 : decode cX8_countRows 37 = .ok (.if_icmp .ge 40, 3) := by decide +kernel
theorem dX8_countRows_40 : decode cX8_countRows 40 = .ok (.iload 6, 2) := by decide +kernel
theorem dX8_countRows_42 : decode cX8_countRows 42 = .ok (.iload_n 2, 1) := by decide +kernel
theorem dX8_countRows_43 : decode cX8_countRows 43 = .ok (.iand, 1) := by decide +kernel
theorem dX8_countRows_44 : decode cX8_countRows 44 = .ok (.iload 6, 2) := by decide +kernel
theorem dX8_countRows_46 : decode cX8_countRows 46 = .ok (.if_icmp .ne 25, 3) := by decide +kernel
theorem dX8_countRows_49 : decode cX8_countRows 49 = .ok (.aload_n 0, 1) := by decide +kernel
theorem dX8_countRows_50 : decode cX8_countRows 50 = .ok (.iload 6, 2) := by decide +kernel
theorem dX8_countRows_52 : decode cX8_countRows 52 = .ok (.iload_n 1, 1) := by decide +kernel
theorem dX8_countRows_53 : decode cX8_countRows 53 = .ok (.invokevirtual 31, 3) := by decide +kernel
theorem dX8_countRows_56 : decode cX8_countRows 56 = .ok (.ifCond .eq 15, 3) := by decide +kernel
theorem dX8_countRows_59 : decode cX8_countRows 59 = .ok (.aload_n 0, 1) := by decide +kernel
theorem dX8_countRows_60 : decode cX8_countRows 60 = .ok (.iload 6, 2) := by decide +kernel
theorem dX8_countRows_62 : decode cX8_countRows 62 = .ok (.iload_n 1, 1) := by decide +kernel
theorem dX8_countRows_63 : decode cX8_countRows 63 = .ok (.iload_n 3, 1) := by decide +kernel
theorem dX8_countRows_64 : decode cX8_countRows 64 = .ok (.iload 4, 2) := by decide +kernel
theorem dX8_countRows_66 : decode cX8_countRows 66 = .ok (.iload 5, 2) := by decide +kernel
theorem dX8_countRows_68 : decode cX8_countRows 68 = .ok (.invokevirtual 35, 3) := by decide +kernel
theorem dX8_countRows_71 : decode cX8_countRows 71 = .ok (.iinc 6 1, 3) := by decide +kernel
theorem dX8_countRows_74 : decode cX8_countRows 74 = .ok (.goto (-40), 3) := by decide +kernel
theorem dX8_countRows_77 : decode cX8_countRows 77 = .ok (.aload_n 0, 1) := by decide +kernel
theorem dX8_countRows_78 : decode cX8_countRows 78 = .ok (.getfield 9, 3) := by decide +kernel
theorem dX8_countRows_81 : decode cX8_countRows 81 = .ok (.iload_n 1, 1) := by decide +kernel
theorem dX8_countRows_82 : decode cX8_countRows 82 = .ok (.sipush 256, 3) := by decide +kernel
theorem dX8_countRows_85 : decode cX8_countRows 85 = .ok (.imul, 1) := by decide +kernel
theorem dX8_countRows_86 : decode cX8_countRows 86 = .ok (.iload_n 2, 1) := by decide +kernel
theorem dX8_countRows_87 : decode cX8_countRows 87 = .ok (.iadd, 1) := by decide +kernel
theorem dX8_countRows_88 : decode cX8_countRows 88 = .ok (.laload, 1) := by decide +kernel
theorem dX8_countRows_89 : decode cX8_countRows 89 = .ok (.lreturn, 1) := by decide +kernel
theorem dX8_isMet_0 : decode cX8_isMet 0 = .ok (.iconst 0, 1) := by decide +kernel
theorem dX8_isMet_1 : decode cX8_isMet 1 = .ok (.istore_n 3, 1) := by decide +kernel
theorem dX8_isMet_2 : decode cX8_isMet 2 = .ok (.iload_n 3, 1) := by decide +kernel
theorem dX8_isMet_3 : decode cX8_isMet 3 = .ok (.iload_n 2, 1) := by decide +kernel
theorem dX8_isMet_4 : decode cX8_isMet 4 = .ok (.if_icmp .ge 28, 3) := by decide +kernel
theorem dX8_isMet_7 : decode cX8_isMet 7 = .ok (.aload_n 0, 1) := by decide +kernel
theorem dX8_isMet_8 : decode cX8_isMet 8 = .ok (.getfield 9, 3) := by decide +kernel
theorem dX8_isMet_11 : decode cX8_isMet 11 = .ok (.iload_n 3, 1) := by decide +kernel
theorem dX8_isMet_12 : decode cX8_isMet 12 = .ok (.sipush 256, 3) := by decide +kernel
theorem dX8_isMet_15 : decode cX8_isMet 15 = .ok (.imul, 1) := by decide +kernel
theorem dX8_isMet_16 : decode cX8_isMet 16 = .ok (.iload_n 1, 1) := by decide +kernel
theorem dX8_isMet_17 : decode cX8_isMet 17 = .ok (.iadd, 1) := by decide +kernel
theorem dX8_isMet_18 : decode cX8_isMet 18 = .ok (.laload, 1) := by decide +kernel
theorem dX8_isMet_19 : decode cX8_isMet 19 = .ok (.lconst 0, 1) := by decide +kernel
theorem dX8_isMet_20 : decode cX8_isMet 20 = .ok (.lcmp, 1) := by decide +kernel
theorem dX8_isMet_21 : decode cX8_isMet 21 = .ok (.ifCond .eq 5, 3) := by decide +kernel
theorem dX8_isMet_24 : decode cX8_isMet 24 = .ok (.iconst 1, 1) := by decide +kernel
theorem dX8_isMet_25 : decode cX8_isMet 25 = .ok (.ireturn, 1) := by decide +kernel
theorem dX8_isMet_26 : decode cX8_isMet 26 = .ok (.iinc 3 1, 3) := by decide +kernel
theorem dX8_isMet_29 : decode cX8_isMet 29 = .ok (.goto (-27), 3) := by decide +kernel
theorem dX8_isMet_32 : decode cX8_isMet 32 = .ok (.iconst 0, 1) := by decide +kernel
theorem dX8_isMet_33 : decode cX8_isMet 33 = .ok (.ireturn, 1) := by decide +kernel
theorem dX8_spread_0 : decode cX8_spread 0 = .ok (.aload_n 0, 1) := by decide +kernel
theorem dX8_spread_1 : decode cX8_spread 1 = .ok (.getfield 15, 3) := by decide +kernel
theorem dX8_spread_4 : decode cX8_spread 4 = .ok (.iload_n 1, 1) := by decide +kernel
theorem dX8_spread_5 : decode cX8_spread 5 = .ok (.iload_n 3, 1) := by decide +kernel
theorem dX8_spread_6 : decode cX8_spread 6 = .ok (.invokevirtual 39, 3) := by decide +kernel
theorem dX8_spread_9 : decode cX8_spread 9 = .ok (.aload_n 0, 1) := by decide +kernel
theorem dX8_spread_10 : decode cX8_spread 10 = .ok (.getfield 15, 3) := by decide +kernel
theorem dX8_spread_13 : decode cX8_spread 13 = .ok (.getfield 43, 3) := by decide +kernel
theorem dX8_spread_16 : decode cX8_spread 16 = .ok (.getfield 47, 3) := by decide +kernel
theorem dX8_spread_19 : decode cX8_spread 19 = .ok (.iload_n 1, 1) := by decide +kernel
theorem dX8_spread_20 : decode cX8_spread 20 = .ok (.iaload, 1) := by decide +kernel
theorem dX8_spread_21 : decode cX8_spread 21 = .ok (.istore 6, 2) := by decide +kernel
theorem dX8_spread_23 : decode cX8_spread 23 = .ok (.iconst 0, 1) := by decide +kernel
theorem dX8_spread_24 : decode cX8_spread 24 = .ok (.istore 7, 2) := by decide +kernel
theorem dX8_spread_26 : decode cX8_spread 26 = .ok (.iload 7, 2) := by decide +kernel
theorem dX8_spread_28 : decode cX8_spread 28 = .ok (.aload_n 0, 1) := by decide +kernel
theorem dX8_spread_29 : decode cX8_spread 29 = .ok (.getfield 15, 3) := by decide +kernel
theorem dX8_spread_32 : decode cX8_spread 32 = .ok (.getfield 43, 3) := by decide +kernel
theorem dX8_spread_35 : decode cX8_spread 35 = .ok (.getfield 53, 3) := by decide +kernel
theorem dX8_spread_38 : decode cX8_spread 38 = .ok (.if_icmp .ge 98, 3) := by decide +kernel
theorem dX8_spread_41 : decode cX8_spread 41 = .ok (.aload_n 0, 1) := by decide +kernel
theorem dX8_spread_42 : decode cX8_spread 42 = .ok (.getfield 15, 3) := by decide +kernel
theorem dX8_spread_45 : decode cX8_spread 45 = .ok (.getfield 57, 3) := by decide +kernel
theorem dX8_spread_48 : decode cX8_spread 48 = .ok (.iload 7, 2) := by decide +kernel
theorem dX8_spread_50 : decode cX8_spread 50 = .ok (.iaload, 1) := by decide +kernel
theorem dX8_spread_51 : decode cX8_spread 51 = .ok (.istore 8, 2) := by decide +kernel
theorem dX8_spread_53 : decode cX8_spread 53 = .ok (.iload 7, 2) := by decide +kernel
theorem dX8_spread_55 : decode cX8_spread 55 = .ok (.iload 6, 2) := by decide +kernel
theorem dX8_spread_57 : decode cX8_spread 57 = .ok (.if_icmp .eq 73, 3) := by decide +kernel
theorem dX8_spread_60 : decode cX8_spread 60 = .ok (.iload 8, 2) := by decide +kernel
theorem dX8_spread_62 : decode cX8_spread 62 = .ok (.iconst (-1), 1) := by decide +kernel
theorem dX8_spread_63 : decode cX8_spread 63 = .ok (.if_icmp .ne 6, 3) := by decide +kernel
theorem dX8_spread_66 : decode cX8_spread 66 = .ok (.goto 64, 3) := by decide +kernel
theorem dX8_spread_69 : decode cX8_spread 69 = .ok (.iconst 0, 1) := by decide +kernel
theorem dX8_spread_70 : decode cX8_spread 70 = .ok (.istore 9, 2) := by decide +kernel
theorem dX8_spread_72 : decode cX8_spread 72 = .ok (.iload 9, 2) := by decide +kernel
theorem dX8_spread_74 : decode cX8_spread 74 = .ok (.iload_n 2, 1) := by decide +kernel
theorem dX8_spread_75 : decode cX8_spread 75 = .ok (.if_icmp .ge 55, 3) := by decide +kernel
theorem dX8_spread_78 : decode cX8_spread 78 = .ok (.iload 9, 2) := by decide +kernel
theorem dX8_spread_80 : decode cX8_spread 80 = .ok (.iload 4, 2) := by decide +kernel
theorem dX8_spread_82 : decode cX8_spread 82 = .ok (.if_icmp .ne 10, 3) := by decide +kernel
theorem dX8_spread_85 : decode cX8_spread 85 = .ok (.iload 7, 2) := by decide +kernel
theorem dX8_spread_87 : decode cX8_spread 87 = .ok (.iload 5, 2) := by decide +kernel
theorem dX8_spread_89 : decode cX8_spread 89 = .ok (.if_icmp .ne 35, 3) := by decide +kernel
theorem dX8_spread_92 : decode cX8_spread 92 = .ok (.aload_n 0, 1) := by decide +kernel
theorem dX8_spread_93 : decode cX8_spread 93 = .ok (.getfield 9, 3) := by decide +kernel
theorem dX8_spread_96 : decode cX8_spread 96 = .ok (.iload 9, 2) := by decide +kernel
theorem dX8_spread_98 : decode cX8_spread 98 = .ok (.iconst 1, 1) := by decide +kernel
theorem dX8_spread_99 : decode cX8_spread 99 = .ok (.iadd, 1) := by decide +kernel
theorem dX8_spread_100 : decode cX8_spread 100 = .ok (.sipush 256, 3) := by decide +kernel
theorem dX8_spread_103 : decode cX8_spread 103 = .ok (.imul, 1) := by decide +kernel
theorem dX8_spread_104 : decode cX8_spread 104 = .ok (.iload 8, 2) := by decide +kernel
theorem dX8_spread_106 : decode cX8_spread 106 = .ok (.iadd, 1) := by decide +kernel
theorem dX8_spread_107 : decode cX8_spread 107 = .ok (.dup2, 1) := by decide +kernel
theorem dX8_spread_108 : decode cX8_spread 108 = .ok (.laload, 1) := by decide +kernel
theorem dX8_spread_109 : decode cX8_spread 109 = .ok (.aload_n 0, 1) := by decide +kernel
theorem dX8_spread_110 : decode cX8_spread 110 = .ok (.getfield 9, 3) := by decide +kernel
theorem dX8_spread_113 : decode cX8_spread 113 = .ok (.iload 9, 2) := by decide +kernel
theorem dX8_spread_115 : decode cX8_spread 115 = .ok (.sipush 256, 3) := by decide +kernel
theorem dX8_spread_118 : decode cX8_spread 118 = .ok (.imul, 1) := by decide +kernel
theorem dX8_spread_119 : decode cX8_spread 119 = .ok (.iload_n 1, 1) := by decide +kernel
theorem dX8_spread_120 : decode cX8_spread 120 = .ok (.iadd, 1) := by decide +kernel
theorem dX8_spread_121 : decode cX8_spread 121 = .ok (.laload, 1) := by decide +kernel
theorem dX8_spread_122 : decode cX8_spread 122 = .ok (.ladd, 1) := by decide +kernel
theorem dX8_spread_123 : decode cX8_spread 123 = .ok (.lastore, 1) := by decide +kernel
theorem dX8_spread_124 : decode cX8_spread 124 = .ok (.iinc 9 1, 3) := by decide +kernel
theorem dX8_spread_127 : decode cX8_spread 127 = .ok (.goto (-55), 3) := by decide +kernel
theorem dX8_spread_130 : decode cX8_spread 130 = .ok (.iinc 7 1, 3) := by decide +kernel
theorem dX8_spread_133 : decode cX8_spread 133 = .ok (.goto (-107), 3) := by decide +kernel
theorem dX8_spread_136 : decode cX8_spread 136 = .ok (.return_, 1) := by decide +kernel
theorem dX9_init_0 : decode cX9_init 0 = .ok (.aload_n 0, 1) := by decide +kernel
theorem dX9_init_1 : decode cX9_init 1 = .ok (.invokespecial 3, 3) := by decide +kernel
theorem dX9_init_4 : decode cX9_init 4 = .ok (.aload_n 0, 1) := by decide +kernel
theorem dX9_init_5 : decode cX9_init 5 = .ok (.sipush 400, 3) := by decide +kernel
theorem dX9_init_8 : decode cX9_init 8 = .ok (.newarray .int, 2) := by decide +kernel
theorem dX9_init_10 : decode cX9_init 10 = .ok (.putfield 9, 3) := by decide +kernel
theorem dX9_init_13 : decode cX9_init 13 = .ok (.return_, 1) := by decide +kernel
theorem dX9_hasRoom_0 : decode cX9_hasRoom 0 = .ok (.aload_n 0, 1) := by decide +kernel
theorem dX9_hasRoom_1 : decode cX9_hasRoom 1 = .ok (.getfield 15, 3) := by decide +kernel
theorem dX9_hasRoom_4 : decode cX9_hasRoom 4 = .ok (.sipush 380, 3) := by decide +kernel
theorem dX9_hasRoom_7 : decode cX9_hasRoom 7 = .ok (.if_icmp .gt 7, 3) := by decide +kernel
theorem dX9_hasRoom_10 : decode cX9_hasRoom 10 = .ok (.iconst 1, 1) := by decide +kernel
theorem dX9_hasRoom_11 : decode cX9_hasRoom 11 = .ok (.goto 4, 3) := by decide +kernel
theorem dX9_hasRoom_14 : decode cX9_hasRoom 14 = .ok (.iconst 0, 1) := by decide +kernel
theorem dX9_hasRoom_15 : decode cX9_hasRoom 15 = .ok (.ireturn, 1) := by decide +kernel
theorem dX9_put_0 : decode cX9_put 0 = .ok (.bipush 24, 2) := by decide +kernel
theorem dX9_put_2 : decode cX9_put 2 = .ok (.istore_n 2, 1) := by decide +kernel
theorem dX9_put_3 : decode cX9_put 3 = .ok (.iload_n 2, 1) := by decide +kernel
theorem dX9_put_4 : decode cX9_put 4 = .ok (.ifCond .lt 45, 3) := by decide +kernel
theorem dX9_put_7 : decode cX9_put 7 = .ok (.aload_n 0, 1) := by decide +kernel
theorem dX9_put_8 : decode cX9_put 8 = .ok (.getfield 15, 3) := by decide +kernel
theorem dX9_put_11 : decode cX9_put 11 = .ok (.sipush 400, 3) := by decide +kernel
theorem dX9_put_14 : decode cX9_put 14 = .ok (.if_icmp .ge 35, 3) := by decide +kernel
theorem dX9_put_17 : decode cX9_put 17 = .ok (.aload_n 0, 1) := by decide +kernel
theorem dX9_put_18 : decode cX9_put 18 = .ok (.getfield 9, 3) := by decide +kernel
theorem dX9_put_21 : decode cX9_put 21 = .ok (.aload_n 0, 1) := by decide +kernel
theorem dX9_put_22 : decode cX9_put 22 = .ok (.getfield 15, 3) := by decide +kernel
theorem dX9_put_25 : decode cX9_put 25 = .ok (.iload_n 1, 1) := by decide +kernel
theorem dX9_put_26 : decode cX9_put 26 = .ok (.iload_n 2, 1) := by decide +kernel
theorem dX9_put_27 : decode cX9_put 27 = .ok (.iushr, 1) := by decide +kernel
theorem dX9_put_28 : decode cX9_put 28 = .ok (.sipush 255, 3) := by decide +kernel
theorem dX9_put_31 : decode cX9_put 31 = .ok (.iand, 1) := by decide +kernel
theorem dX9_put_32 : decode cX9_put 32 = .ok (.iastore, 1) := by decide +kernel
theorem dX9_put_33 : decode cX9_put 33 = .ok (.aload_n 0, 1) := by decide +kernel
theorem dX9_put_34 : decode cX9_put 34 = .ok (.dup, 1) := by decide +kernel
theorem dX9_put_35 : decode cX9_put 35 = .ok (.getfield 15, 3) := by decide +kernel
theorem dX9_put_38 : decode cX9_put 38 = .ok (.iconst 1, 1) := by decide +kernel
theorem dX9_put_39 : decode cX9_put 39 = .ok (.iadd, 1) := by decide +kernel
theorem dX9_put_40 : decode cX9_put 40 = .ok (.putfield 15, 3) := by decide +kernel
theorem dX9_put_43 : decode cX9_put 43 = .ok (.iinc 2 (-8), 3) := by decide +kernel
theorem dX9_put_46 : decode cX9_put 46 = .ok (.goto (-43), 3) := by decide +kernel
theorem dX9_put_49 : decode cX9_put 49 = .ok (.return_, 1) := by decide +kernel
theorem dX9_byteAt_0 : decode cX9_byteAt 0 = .ok (.iload_n 1, 1) := by decide +kernel
theorem dX9_byteAt_1 : decode cX9_byteAt 1 = .ok (.ifCond .lt 20, 3) := by decide +kernel
theorem dX9_byteAt_4 : decode cX9_byteAt 4 = .ok (.iload_n 1, 1) := by decide +kernel
theorem dX9_byteAt_5 : decode cX9_byteAt 5 = .ok (.aload_n 0, 1) := by decide +kernel
theorem dX9_byteAt_6 : decode cX9_byteAt 6 = .ok (.getfield 15, 3) := by decide +kernel
theorem dX9_byteAt_9 : decode cX9_byteAt 9 = .ok (.if_icmp .ge 12, 3) := by decide +kernel
theorem dX9_byteAt_12 : decode cX9_byteAt 12 = .ok (.aload_n 0, 1) := by decide +kernel
theorem dX9_byteAt_13 : decode cX9_byteAt 13 = .ok (.getfield 9, 3) := by decide +kernel
theorem dX9_byteAt_16 : decode cX9_byteAt 16 = .ok (.iload_n 1, 1) := by decide +kernel
theorem dX9_byteAt_17 : decode cX9_byteAt 17 = .ok (.iaload, 1) := by decide +kernel
theorem dX9_byteAt_18 : decode cX9_byteAt 18 = .ok (.goto 4, 3) := by decide +kernel
theorem dX9_byteAt_21 : decode cX9_byteAt 21 = .ok (.iconst (-1), 1) := by decide +kernel
theorem dX9_byteAt_22 : decode cX9_byteAt 22 = .ok (.ireturn, 1) := by decide +kernel
theorem dX9_spells_0 : decode cX9_spells 0 = .ok (.iload_n 2, 1) := by decide +kernel
theorem dX9_spells_1 : decode cX9_spells 1 = .ok (.ifCond .lt 21, 3) := by decide +kernel
theorem dX9_spells_4 : decode cX9_spells 4 = .ok (.iload_n 3, 1) := by decide +kernel
theorem dX9_spells_5 : decode cX9_spells 5 = .ok (.aload_n 0, 1) := by decide +kernel
theorem dX9_spells_6 : decode cX9_spells 6 = .ok (.getfield 15, 3) := by decide +kernel
theorem dX9_spells_9 : decode cX9_spells 9 = .ok (.if_icmp .gt 13, 3) := by decide +kernel
theorem dX9_spells_12 : decode cX9_spells 12 = .ok (.aload_n 1, 1) := by decide +kernel
theorem dX9_spells_13 : decode cX9_spells 13 = .ok (.invokevirtual 19, 3) := by decide +kernel
theorem dX9_spells_16 : decode cX9_spells 16 = .ok (.iload_n 3, 1) := by decide +kernel
theorem dX9_spells_17 : decode cX9_spells 17 = .ok (.iload_n 2, 1) := by decide +kernel
theorem dX9_spells_18 : decode cX9_spells 18 = .ok (.isub, 1) := by decide +kernel
theorem dX9_spells_19 : decode cX9_spells 19 = .ok (.if_icmp .eq 5, 3) := by decide +kernel
theorem dX9_spells_22 : decode cX9_spells 22 = .ok (.iconst 0, 1) := by decide +kernel
theorem dX9_spells_23 : decode cX9_spells 23 = .ok (.ireturn, 1) := by decide +kernel
theorem dX9_spells_24 : decode cX9_spells 24 = .ok (.iconst 0, 1) := by decide +kernel
theorem dX9_spells_25 : decode cX9_spells 25 = .ok (.istore 4, 2) := by decide +kernel
theorem dX9_spells_27 : decode cX9_spells 27 = .ok (.iload 4, 2) := by decide +kernel
theorem dX9_spells_29 : decode cX9_spells 29 = .ok (.aload_n 1, 1) := by decide +kernel
theorem dX9_spells_30 : decode cX9_spells 30 = .ok (.invokevirtual 19, 3) := by decide +kernel
theorem dX9_spells_33 : decode cX9_spells 33 = .ok (.if_icmp .ge 29, 3) := by decide +kernel
theorem dX9_spells_36 : decode cX9_spells 36 = .ok (.aload_n 0, 1) := by decide +kernel
theorem dX9_spells_37 : decode cX9_spells 37 = .ok (.getfield 9, 3) := by decide +kernel
theorem dX9_spells_40 : decode cX9_spells 40 = .ok (.iload_n 2, 1) := by decide +kernel
theorem dX9_spells_41 : decode cX9_spells 41 = .ok (.iload 4, 2) := by decide +kernel
theorem dX9_spells_43 : decode cX9_spells 43 = .ok (.iadd, 1) := by decide +kernel
theorem dX9_spells_44 : decode cX9_spells 44 = .ok (.iaload, 1) := by decide +kernel
theorem dX9_spells_45 : decode cX9_spells 45 = .ok (.aload_n 1, 1) := by decide +kernel
theorem dX9_spells_46 : decode cX9_spells 46 = .ok (.iload 4, 2) := by decide +kernel
theorem dX9_spells_48 : decode cX9_spells 48 = .ok (.invokevirtual 24, 3) := by decide +kernel
theorem dX9_spells_51 : decode cX9_spells 51 = .ok (.if_icmp .eq 5, 3) := by decide +kernel
theorem dX9_spells_54 : decode cX9_spells 54 = .ok (.iconst 0, 1) := by decide +kernel
theorem dX9_spells_55 : decode cX9_spells 55 = .ok (.ireturn, 1) := by decide +kernel
theorem dX9_spells_56 : decode cX9_spells 56 = .ok (.iinc 4 1, 3) := by decide +kernel
theorem dX9_spells_59 : decode cX9_spells 59 = .ok (.goto (-32), 3) := by decide +kernel
theorem dX9_spells_62 : decode cX9_spells 62 = .ok (.iconst 1, 1) := by decide +kernel
theorem dX9_spells_63 : decode cX9_spells 63 = .ok (.ireturn, 1) := by decide +kernel
theorem dX10_init_0 : decode cX10_init 0 = .ok (.aload_n 0, 1) := by decide +kernel
theorem dX10_init_1 : decode cX10_init 1 = .ok (.invokespecial 1, 3) := by decide +kernel
theorem dX10_init_4 : decode cX10_init 4 = .ok (.aload_n 0, 1) := by decide +kernel
theorem dX10_init_5 : decode cX10_init 5 = .ok (.new 7, 3) := by decide +kernel
theorem dX10_init_8 : decode cX10_init 8 = .ok (.dup, 1) := by decide +kernel
theorem dX10_init_9 : decode cX10_init 9 = .ok (.invokespecial 9, 3) := by decide +kernel
theorem dX10_init_12 : decode cX10_init 12 = .ok (.putfield 10, 3) := by decide +kernel
theorem dX10_init_15 : decode cX10_init 15 = .ok (.aload_n 0, 1) := by decide +kernel
theorem dX10_init_16 : decode cX10_init 16 = .ok (.iconst 2, 1) := by decide +kernel
theorem dX10_init_17 : decode cX10_init 17 = .ok (.anewarray 7, 3) := by decide +kernel
theorem dX10_init_20 : decode cX10_init 20 = .ok (.putfield 16, 3) := by decide +kernel
theorem dX10_init_23 : decode cX10_init 23 = .ok (.aload_n 0, 1) := by decide +kernel
theorem dX10_init_24 : decode cX10_init 24 = .ok (.new 20, 3) := by decide +kernel
theorem dX10_init_27 : decode cX10_init 27 = .ok (.dup, 1) := by decide +kernel
theorem dX10_init_28 : decode cX10_init 28 = .ok (.invokespecial 22, 3) := by decide +kernel
theorem dX10_init_31 : decode cX10_init 31 = .ok (.putfield 23, 3) := by decide +kernel
theorem dX10_init_34 : decode cX10_init 34 = .ok (.aload_n 0, 1) := by decide +kernel
theorem dX10_init_35 : decode cX10_init 35 = .ok (.new 27, 3) := by decide +kernel
theorem dX10_init_38 : decode cX10_init 38 = .ok (.dup, 1) := by decide +kernel
theorem dX10_init_39 : decode cX10_init 39 = .ok (.aload_n 0, 1) := by decide +kernel
theorem dX10_init_40 : decode cX10_init 40 = .ok (.getfield 23, 3) := by decide +kernel
theorem dX10_init_43 : decode cX10_init 43 = .ok (.invokespecial 29, 3) := by decide +kernel
theorem dX10_init_46 : decode cX10_init 46 = .ok (.putfield 32, 3) := by decide +kernel
theorem dX10_init_49 : decode cX10_init 49 = .ok (.aload_n 0, 1) := by decide +kernel
theorem dX10_init_50 : decode cX10_init 50 = .ok (.new 36, 3) := by decide +kernel
theorem dX10_init_53 : decode cX10_init 53 = .ok (.dup, 1) := by decide +kernel
theorem dX10_init_54 : decode cX10_init 54 = .ok (.invokespecial 38, 3) := by decide +kernel
theorem dX10_init_57 : decode cX10_init 57 = .ok (.putfield 39, 3) := by decide +kernel
theorem dX10_init_60 : decode cX10_init 60 = .ok (.aload_n 0, 1) := by decide +kernel
theorem dX10_init_61 : decode cX10_init 61 = .ok (.new 43, 3) := by decide +kernel
theorem dX10_init_64 : decode cX10_init 64 = .ok (.dup, 1) := by decide +kernel
theorem dX10_init_65 : decode cX10_init 65 = .ok (.aload_n 0, 1) := by decide +kernel
theorem dX10_init_66 : decode cX10_init 66 = .ok (.getfield 10, 3) := by decide +kernel
theorem dX10_init_69 : decode cX10_init 69 = .ok (.invokespecial 45, 3) := by decide +kernel
theorem dX10_init_72 : decode cX10_init 72 = .ok (.putfield 48, 3) := by decide +kernel
theorem dX10_init_75 : decode cX10_init 75 = .ok (.aload_n 0, 1) := by decide +kernel
theorem dX10_init_76 : decode cX10_init 76 = .ok (.new 52, 3) := by decide +kernel
theorem dX10_init_79 : decode cX10_init 79 = .ok (.dup, 1) := by decide +kernel
theorem dX10_init_80 : decode cX10_init 80 = .ok (.aload_n 0, 1) := by decide +kernel
theorem dX10_init_81 : decode cX10_init 81 = .ok (.getfield 48, 3) := by decide +kernel
theorem dX10_init_84 : decode cX10_init 84 = .ok (.invokespecial 54, 3) := by decide +kernel
theorem dX10_init_87 : decode cX10_init 87 = .ok (.putfield 57, 3) := by decide +kernel
theorem dX10_init_90 : decode cX10_init 90 = .ok (.aload_n 0, 1) := by decide +kernel
theorem dX10_init_91 : decode cX10_init 91 = .ok (.new 61, 3) := by decide +kernel
theorem dX10_init_94 : decode cX10_init 94 = .ok (.dup, 1) := by decide +kernel
theorem dX10_init_95 : decode cX10_init 95 = .ok (.aload_n 0, 1) := by decide +kernel
theorem dX10_init_96 : decode cX10_init 96 = .ok (.getfield 48, 3) := by decide +kernel
theorem dX10_init_99 : decode cX10_init 99 = .ok (.invokespecial 63, 3) := by decide +kernel
theorem dX10_init_102 : decode cX10_init 102 = .ok (.putfield 64, 3) := by decide +kernel
theorem dX10_init_105 : decode cX10_init 105 = .ok (.aload_n 0, 1) := by decide +kernel
theorem dX10_init_106 : decode cX10_init 106 = .ok (.new 68, 3) := by decide +kernel
theorem dX10_init_109 : decode cX10_init 109 = .ok (.dup, 1) := by decide +kernel
theorem dX10_init_110 : decode cX10_init 110 = .ok (.invokespecial 70, 3) := by decide +kernel
theorem dX10_init_113 : decode cX10_init 113 = .ok (.putfield 71, 3) := by decide +kernel
theorem dX10_init_116 : decode cX10_init 116 = .ok (.aload_n 0, 1) := by decide +kernel
theorem dX10_init_117 : decode cX10_init 117 = .ok (.bipush 30, 2) := by decide +kernel
theorem dX10_init_119 : decode cX10_init 119 = .ok (.newarray .int, 2) := by decide +kernel
theorem dX10_init_121 : decode cX10_init 121 = .ok (.putfield 75, 3) := by decide +kernel
theorem dX10_init_124 : decode cX10_init 124 = .ok (.aload_n 0, 1) := by decide +kernel
theorem dX10_init_125 : decode cX10_init 125 = .ok (.bipush 24, 2) := by decide +kernel
theorem dX10_init_127 : decode cX10_init 127 = .ok (.newarray .int, 2) := by decide +kernel
theorem dX10_init_129 : decode cX10_init 129 = .ok (.putfield 79, 3) := by decide +kernel
theorem dX10_init_132 : decode cX10_init 132 = .ok (.aload_n 0, 1) := by decide +kernel
theorem dX10_init_133 : decode cX10_init 133 = .ok (.bipush 7, 2) := by decide +kernel
theorem dX10_init_135 : decode cX10_init 135 = .ok (.newarray .int, 2) := by decide +kernel
theorem dX10_init_137 : decode cX10_init 137 = .ok (.putfield 82, 3) := by decide +kernel
theorem dX10_init_140 : decode cX10_init 140 = .ok (.aload_n 0, 1) := by decide +kernel
theorem dX10_init_141 : decode cX10_init 141 = .ok (.iconst (-1), 1) := by decide +kernel
theorem dX10_init_142 : decode cX10_init 142 = .ok (.putfield 85, 3) := by decide +kernel
theorem dX10_init_145 : decode cX10_init 145 = .ok (.return_, 1) := by decide +kernel
theorem dX10_lamps_0 : decode cX10_lamps 0 = .ok (.iload_n 1, 1) := by decide +kernel
theorem dX10_lamps_1 : decode cX10_lamps 1 = .ok (.iconst 1, 1) := by decide +kernel
theorem dX10_lamps_2 : decode cX10_lamps 2 = .ok (.if_icmp .lt 9, 3) := by decide +kernel
theorem dX10_lamps_5 : decode cX10_lamps 5 = .ok (.iload_n 1, 1) := by decide +kernel
theorem dX10_lamps_6 : decode cX10_lamps 6 = .ok (.bipush 8, 2) := by decide +kernel
theorem dX10_lamps_8 : decode cX10_lamps 8 = .ok (.if_icmp .le 9, 3) := by decide +kernel
theorem dX10_lamps_11 : decode cX10_lamps 11 = .ok (.aload_n 0, 1) := by decide +kernel
theorem dX10_lamps_12 : decode cX10_lamps 12 = .ok (.iconst (-1), 1) := by decide +kernel
theorem dX10_lamps_13 : decode cX10_lamps 13 = .ok (.invokevirtual 89, 3) := by decide +kernel
theorem dX10_lamps_16 : decode cX10_lamps 16 = .ok (.ireturn, 1) := by decide +kernel
theorem dX10_lamps_17 : decode cX10_lamps 17 = .ok (.aload_n 0, 1) := by decide +kernel
theorem dX10_lamps_18 : decode cX10_lamps 18 = .ok (.getfield 10, 3) := by decide +kernel
theorem dX10_lamps_21 : decode cX10_lamps 21 = .ok (.getfield 93, 3) := by decide +kernel
theorem dX10_lamps_24 : decode cX10_lamps 24 = .ok (.istore_n 2, 1) := by decide +kernel
theorem dX10_lamps_25 : decode cX10_lamps 25 = .ok (.aload_n 0, 1) := by decide +kernel
theorem dX10_lamps_26 : decode cX10_lamps 26 = .ok (.getfield 10, 3) := by decide +kernel
theorem dX10_lamps_29 : decode cX10_lamps 29 = .ok (.iload_n 1, 1) := by decide +kernel
theorem dX10_lamps_30 : decode cX10_lamps 30 = .ok (.putfield 93, 3) := by decide +kernel
theorem dX10_lamps_33 : decode cX10_lamps 33 = .ok (.aload_n 0, 1) := by decide +kernel
theorem dX10_lamps_34 : decode cX10_lamps 34 = .ok (.getfield 10, 3) := by decide +kernel
theorem dX10_lamps_37 : decode cX10_lamps 37 = .ok (.iconst 0, 1) := by decide +kernel
theorem dX10_lamps_38 : decode cX10_lamps 38 = .ok (.putfield 96, 3) := by decide +kernel
theorem dX10_lamps_41 : decode cX10_lamps 41 = .ok (.aload_n 0, 1) := by decide +kernel
theorem dX10_lamps_42 : decode cX10_lamps 42 = .ok (.getfield 10, 3) := by decide +kernel
theorem dX10_lamps_45 : decode cX10_lamps 45 = .ok (.getfield 99, 3) := by decide +kernel
theorem dX10_lamps_48 : decode cX10_lamps 48 = .ok (.iconst 1, 1) := by decide +kernel
theorem dX10_lamps_49 : decode cX10_lamps 49 = .ok (.invokestatic 102, 3) := by decide +kernel
theorem dX10_lamps_52 : decode cX10_lamps 52 = .ok (.aload_n 0, 1) := by decide +kernel
theorem dX10_lamps_53 : decode cX10_lamps 53 = .ok (.getfield 10, 3) := by decide +kernel
theorem dX10_lamps_56 : decode cX10_lamps 56 = .ok (.invokevirtual 108, 3) := by decide +kernel
theorem dX10_lamps_59 : decode cX10_lamps 59 = .ok (.aload_n 0, 1) := by decide +kernel
theorem dX10_lamps_60 : decode cX10_lamps 60 = .ok (.invokevirtual 111, 3) := by decide +kernel
theorem dX10_lamps_63 : decode cX10_lamps 63 = .ok (.aload_n 0, 1) := by decide +kernel
theorem dX10_lamps_64 : decode cX10_lamps 64 = .ok (.iload_n 2, 1) := by decide +kernel
theorem dX10_lamps_65 : decode cX10_lamps 65 = .ok (.invokevirtual 114, 3) := by decide +kernel
theorem dX10_lamps_68 : decode cX10_lamps 68 = .ok (.ireturn, 1) := by decide +kernel
theorem dX10_news_0 : decode cX10_news 0 = .ok (.iload_n 1, 1) := by decide +kernel
theorem dX10_news_1 : decode cX10_news 1 = .ok (.iconst 2, 1) := by decide +kernel
theorem dX10_news_2 : decode cX10_news 2 = .ok (.if_icmp .lt 9, 3) := by decide +kernel
theorem dX10_news_5 : decode cX10_news 5 = .ok (.iload_n 1, 1) := by decide +kernel
theorem dX10_news_6 : decode cX10_news 6 = .ok (.bipush 8, 2) := by decide +kernel
theorem dX10_news_8 : decode cX10_news 8 = .ok (.if_icmp .le 9, 3) := by decide +kernel
theorem dX10_news_11 : decode cX10_news 11 = .ok (.aload_n 0, 1) := by decide +kernel
theorem dX10_news_12 : decode cX10_news 12 = .ok (.iconst (-1), 1) := by decide +kernel
theorem dX10_news_13 : decode cX10_news 13 = .ok (.invokevirtual 89, 3) := by decide +kernel
theorem dX10_news_16 : decode cX10_news 16 = .ok (.ireturn, 1) := by decide +kernel
theorem dX10_news_17 : decode cX10_news 17 = .ok (.aload_n 0, 1) := by decide +kernel
theorem dX10_news_18 : decode cX10_news 18 = .ok (.getfield 10, 3) := by decide +kernel
theorem dX10_news_21 : decode cX10_news 21 = .ok (.getfield 117, 3) := by decide +kernel
theorem dX10_news_24 : decode cX10_news 24 = .ok (.istore_n 2, 1) := by decide +kernel
theorem dX10_news_25 : decode cX10_news 25 = .ok (.aload_n 0, 1) := by decide +kernel
theorem dX10_news_26 : decode cX10_news 26 = .ok (.getfield 10, 3) := by decide +kernel
theorem dX10_news_29 : decode cX10_news 29 = .ok (.iload_n 1, 1) := by decide +kernel
theorem dX10_news_30 : decode cX10_news 30 = .ok (.putfield 117, 3) := by decide +kernel
theorem dX10_news_33 : decode cX10_news 33 = .ok (.aload_n 0, 1) := by decide +kernel
theorem dX10_news_34 : decode cX10_news 34 = .ok (.getfield 10, 3) := by decide +kernel
theorem dX10_news_37 : decode cX10_news 37 = .ok (.invokevirtual 108, 3) := by decide +kernel
theorem dX10_news_40 : decode cX10_news 40 = .ok (.aload_n 0, 1) := by decide +kernel
theorem dX10_news_41 : decode cX10_news 41 = .ok (.invokevirtual 111, 3) := by decide +kernel
theorem dX10_news_44 : decode cX10_news 44 = .ok (.aload_n 0, 1) := by decide +kernel
theorem dX10_news_45 : decode cX10_news 45 = .ok (.iload_n 2, 1) := by decide +kernel
theorem dX10_news_46 : decode cX10_news 46 = .ok (.invokevirtual 114, 3) := by decide +kernel
theorem dX10_news_49 : decode cX10_news 49 = .ok (.ireturn, 1) := by decide +kernel
theorem dX10_oil_0 : decode cX10_oil 0 = .ok (.aload_n 0, 1) := by decide +kernel
theorem dX10_oil_1 : decode cX10_oil 1 = .ok (.getfield 10, 3) := by decide +kernel
theorem dX10_oil_4 : decode cX10_oil 4 = .ok (.iload_n 1, 1) := by decide +kernel
theorem dX10_oil_5 : decode cX10_oil 5 = .ok (.invokevirtual 120, 3) := by decide +kernel
theorem dX10_oil_8 : decode cX10_oil 8 = .ok (.ifCond .eq 13, 3) := by decide +kernel
theorem dX10_oil_11 : decode cX10_oil 11 = .ok (.iload_n 2, 1) := by decide +kernel
theorem dX10_oil_12 : decode cX10_oil 12 = .ok (.ifCond .lt 9, 3) := by decide +kernel
theorem dX10_oil_15 : decode cX10_oil 15 = .ok (.iload_n 2, 1) := by decide +kernel
theorem dX10_oil_16 : decode cX10_oil 16 = .ok (.bipush 99, 2) := by decide +kernel
theorem dX10_oil_18 : decode cX10_oil 18 = .ok (.if_icmp .le 9, 3) := by decide +kernel
theorem dX10_oil_21 : decode cX10_oil 21 = .ok (.aload_n 0, 1) := by decide +kernel
theorem dX10_oil_22 : decode cX10_oil 22 = .ok (.iconst (-1), 1) := by decide +kernel
theorem dX10_oil_23 : decode cX10_oil 23 = .ok (.invokevirtual 89, 3) := by decide +kernel
theorem dX10_oil_26 : decode cX10_oil 26 = .ok (.ireturn, 1) := by decide +kernel
theorem dX10_oil_27 : decode cX10_oil 27 = .ok (.aload_n 0, 1) := by decide +kernel
theorem dX10_oil_28 : decode cX10_oil 28 = .ok (.getfield 10, 3) := by decide +kernel
theorem dX10_oil_31 : decode cX10_oil 31 = .ok (.getfield 99, 3) := by decide +kernel
theorem dX10_oil_34 : decode cX10_oil 34 = .ok (.iload_n 1, 1) := by decide +kernel
theorem dX10_oil_35 : decode cX10_oil 35 = .ok (.iaload, 1) := by decide +kernel
theorem dX10_oil_36 : decode cX10_oil 36 = .ok (.istore_n 3, 1) := by decide +kernel
theorem dX10_oil_37 : decode cX10_oil 37 = .ok (.aload_n 0, 1) := by decide +kernel
theorem dX10_oil_38 : decode cX10_oil 38 = .ok (.getfield 10, 3) := by decide +kernel
theorem dX10_oil_41 : decode cX10_oil 41 = .ok (.getfield 99, 3) := by decide +kernel
theorem dX10_oil_44 : decode cX10_oil 44 = .ok (.iload_n 1, 1) := by decide +kernel
theorem dX10_oil_45 : decode cX10_oil 45 = .ok (.iload_n 2, 1) := by decide +kernel
theorem dX10_oil_46 : decode cX10_oil 46 = .ok (.iastore, 1) := by decide +kernel
theorem dX10_oil_47 : decode cX10_oil 47 = .ok (.aload_n 0, 1) := by decide +kernel
theorem dX10_oil_48 : decode cX10_oil 48 = .ok (.getfield 48, 3) := by decide +kernel
theorem dX10_oil_51 : decode cX10_oil 51 = .ok (.iconst 0, 1) := by decide +kernel
theorem dX10_oil_52 : decode cX10_oil 52 = .ok (.putfield 124, 3) := by decide +kernel
theorem dX10_oil_55 : decode cX10_oil 55 = .ok (.aload_n 0, 1) := by decide +kernel
theorem dX10_oil_56 : decode cX10_oil 56 = .ok (.getfield 64, 3) := by decide +kernel
theorem dX10_oil_59 : decode cX10_oil 59 = .ok (.iconst 0, 1) := by decide +kernel
theorem dX10_oil_60 : decode cX10_oil 60 = .ok (.putfield 128, 3) := by decide +kernel
theorem dX10_oil_63 : decode cX10_oil 63 = .ok (.aload_n 0, 1) := by decide +kernel
theorem dX10_oil_64 : decode cX10_oil 64 = .ok (.iload_n 3, 1) := by decide +kernel
theorem dX10_oil_65 : decode cX10_oil 65 = .ok (.invokevirtual 114, 3) := by decide +kernel
theorem dX10_oil_68 : decode cX10_oil 68 = .ok (.ireturn, 1) := by decide +kernel
theorem dX10_broken_0 : decode cX10_broken 0 = .ok (.aload_n 0, 1) := by decide +kernel
theorem dX10_broken_1 : decode cX10_broken 1 = .ok (.getfield 10, 3) := by decide +kernel
theorem dX10_broken_4 : decode cX10_broken 4 = .ok (.iload_n 1, 1) := by decide +kernel
theorem dX10_broken_5 : decode cX10_broken 5 = .ok (.invokevirtual 120, 3) := by decide +kernel
theorem dX10_broken_8 : decode cX10_broken 8 = .ok (.ifCond .eq 12, 3) := by decide +kernel
theorem dX10_broken_11 : decode cX10_broken 11 = .ok (.iload_n 2, 1) := by decide +kernel
theorem dX10_broken_12 : decode cX10_broken 12 = .ok (.ifCond .lt 8, 3) := by decide +kernel
theorem dX10_broken_15 : decode cX10_broken 15 = .ok (.iload_n 2, 1) := by decide +kernel
theorem dX10_broken_16 : decode cX10_broken 16 = .ok (.iconst 1, 1) := by decide +kernel
theorem dX10_broken_17 : decode cX10_broken 17 = .ok (.if_icmp .le 9, 3) := by decide +kernel
theorem dX10_broken_20 : decode cX10_broken 20 = .ok (.aload_n 0, 1) := by decide +kernel
theorem dX10_broken_21 : decode cX10_broken 21 = .ok (.iconst (-1), 1) := by decide +kernel
theorem dX10_broken_22 : decode cX10_broken 22 = .ok (.invokevirtual 89, 3) := by decide +kernel
theorem dX10_broken_25 : decode cX10_broken 25 = .ok (.ireturn, 1) := by decide +kernel
theorem dX10_broken_26 : decode cX10_broken 26 = .ok (.aload_n 0, 1) := by decide +kernel
theorem dX10_broken_27 : decode cX10_broken 27 = .ok (.getfield 10, 3) := by decide +kernel
theorem dX10_broken_30 : decode cX10_broken 30 = .ok (.getfield 96, 3) := by decide +kernel
theorem dX10_broken_33 : decode cX10_broken 33 = .ok (.iload_n 1, 1) := by decide +kernel
theorem dX10_broken_34 : decode cX10_broken 34 = .ok (.ishr, 1) := by decide +kernel
theorem dX10_broken_35 : decode cX10_broken 35 = .ok (.iconst 1, 1) := by decide +kernel
theorem dX10_broken_36 : decode cX10_broken 36 = .ok (.iand, 1) := by decide +kernel
theorem dX10_broken_37 : decode cX10_broken 37 = .ok (.istore_n 3, 1) := by decide +kernel
theorem dX10_broken_38 : decode cX10_broken 38 = .ok (.aload_n 0, 1) := by decide +kernel
theorem dX10_broken_39 : decode cX10_broken 39 = .ok (.getfield 10, 3) := by decide +kernel
theorem dX10_broken_42 : decode cX10_broken 42 = .ok (.aload_n 0, 1) := by decide +kernel
theorem dX10_broken_43 : decode cX10_broken 43 = .ok (.getfield 10, 3) := by decide +kernel
theorem dX10_broken_46 : decode cX10_broken 46 = .ok (.getfield 96, 3) := by decide +kernel
theorem dX10_broken_49 : decode cX10_broken 49 = .ok (.iconst 1, 1) := by decide +kernel
theorem dX10_broken_50 : decode cX10_broken 50 = .ok (.iload_n 1, 1) := by decide +kernel
theorem dX10_broken_51 : decode cX10_broken 51 = .ok (.ishl, 1) := by decide +kernel
theorem dX10_broken_52 : decode cX10_broken 52 = .ok (.iconst (-1), 1) := by decide +kernel
theorem dX10_broken_53 : decode cX10_broken 53 = .ok (.ixor, 1) := by decide +kernel
theorem dX10_broken_54 : decode cX10_broken 54 = .ok (.iand, 1) := by decide +kernel
theorem dX10_broken_55 : decode cX10_broken 55 = .ok (.iload_n 2, 1) := by decide +kernel
theorem dX10_broken_56 : decode cX10_broken 56 = .ok (.iload_n 1, 1) := by decide +kernel
theorem dX10_broken_57 : decode cX10_broken 57 = .ok (.ishl, 1) := by decide +kernel
theorem dX10_broken_58 : decode cX10_broken 58 = .ok (.ior, 1) := by decide +kernel
theorem dX10_broken_59 : decode cX10_broken 59 = .ok (.putfield 96, 3) := by decide +kernel
theorem dX10_broken_62 : decode cX10_broken 62 = .ok (.aload_n 0, 1) := by decide +kernel
theorem dX10_broken_63 : decode cX10_broken 63 = .ok (.invokevirtual 111, 3) := by decide +kernel
theorem dX10_broken_66 : decode cX10_broken 66 = .ok (.aload_n 0, 1) := by decide +kernel
theorem dX10_broken_67 : decode cX10_broken 67 = .ok (.iload_n 3, 1) := by decide +kernel
theorem dX10_broken_68 : decode cX10_broken 68 = .ok (.invokevirtual 114, 3) := by decide +kernel
theorem dX10_broken_71 : decode cX10_broken 71 = .ok (.ireturn, 1) := by decide +kernel
theorem dX10_read_0 : decode cX10_read 0 = .ok (.aload_n 0, 1) := by decide +kernel
theorem dX10_read_1 : decode cX10_read 1 = .ok (.getfield 10, 3) := by decide +kernel
theorem dX10_read_4 : decode cX10_read 4 = .ok (.iload_n 1, 1) := by decide +kernel
theorem dX10_read_5 : decode cX10_read 5 = .ok (.invokevirtual 131, 3) := by decide +kernel
theorem dX10_read_8 : decode cX10_read 8 = .ok (.ifCond .eq 19, 3) := by decide +kernel
theorem dX10_read_11 : decode cX10_read 11 = .ok (.iload_n 2, 1) := by decide +kernel
theorem dX10_read_12 : decode cX10_read 12 = .ok (.iconst (-1), 1) := by decide +kernel
theorem dX10_read_13 : decode cX10_read 13 = .ok (.if_icmp .eq 20, 3) := by decide +kernel
theorem dX10_read_16 : decode cX10_read 16 = .ok (.aload_n 0, 1) := by decide +kernel
theorem dX10_read_17 : decode cX10_read 17 = .ok (.getfield 10, 3) := by decide +kernel
theorem dX10_read_20 : decode cX10_read 20 = .ok (.iload_n 2, 1) := by decide +kernel
theorem dX10_read_21 : decode cX10_read 21 = .ok (.invokevirtual 134, 3) := by decide +kernel
theorem dX10_read_24 : decode cX10_read 24 = .ok (.ifCond .ne 9, 3) := by decide +kernel
theorem dX10_read_27 : decode cX10_read 27 = .ok (.aload_n 0, 1) := by decide +kernel
theorem dX10_read_28 : decode cX10_read 28 = .ok (.iconst (-1), 1) := by decide +kernel
theorem dX10_read_29 : decode cX10_read 29 = .ok (.invokevirtual 89, 3) := by decide +kernel
theorem dX10_read_32 : decode cX10_read 32 = .ok (.ireturn, 1) := by decide +kernel
theorem dX10_read_33 : decode cX10_read 33 = .ok (.aload_n 0, 1) := by decide +kernel
theorem dX10_read_34 : decode cX10_read 34 = .ok (.getfield 10, 3) := by decide +kernel
theorem dX10_read_37 : decode cX10_read 37 = .ok (.getfield 137, 3) := by decide +kernel
theorem dX10_read_40 : decode cX10_read 40 = .ok (.iload_n 1, 1) := by decide +kernel
theorem dX10_read_41 : decode cX10_read 41 = .ok (.iaload, 1) := by decide +kernel
theorem dX10_read_42 : decode cX10_read 42 = .ok (.istore_n 3, 1) := by decide +kernel
theorem dX10_read_43 : decode cX10_read 43 = .ok (.aload_n 0, 1) := by decide +kernel
theorem dX10_read_44 : decode cX10_read 44 = .ok (.getfield 10, 3) := by decide +kernel
theorem dX10_read_47 : decode cX10_read 47 = .ok (.getfield 137, 3) := by decide +kernel
theorem dX10_read_50 : decode cX10_read 50 = .ok (.iload_n 1, 1) := by decide +kernel
theorem dX10_read_51 : decode cX10_read 51 = .ok (.iload_n 2, 1) := by decide +kernel
theorem dX10_read_52 : decode cX10_read 52 = .ok (.iastore, 1) := by decide +kernel
theorem dX10_read_53 : decode cX10_read 53 = .ok (.aload_n 0, 1) := by decide +kernel
theorem dX10_read_54 : decode cX10_read 54 = .ok (.invokevirtual 111, 3) := by decide +kernel
theorem dX10_read_57 : decode cX10_read 57 = .ok (.aload_n 0, 1) := by decide +kernel
theorem dX10_read_58 : decode cX10_read 58 = .ok (.iload_n 3, 1) := by decide +kernel
theorem dX10_read_59 : decode cX10_read 59 = .ok (.invokevirtual 114, 3) := by decide +kernel
theorem dX10_read_62 : decode cX10_read 62 = .ok (.ireturn, 1) := by decide +kernel
theorem dX10_of_0 : decode cX10_of 0 = .ok (.aload_n 0, 1) := by decide +kernel
theorem dX10_of_1 : decode cX10_of 1 = .ok (.getfield 10, 3) := by decide +kernel
theorem dX10_of_4 : decode cX10_of 4 = .ok (.iload_n 1, 1) := by decide +kernel
theorem dX10_of_5 : decode cX10_of 5 = .ok (.invokevirtual 131, 3) := by decide +kernel
theorem dX10_of_8 : decode cX10_of 8 = .ok (.ifCond .eq 15, 3) := by decide +kernel
theorem dX10_of_11 : decode cX10_of 11 = .ok (.aload_n 0, 1) := by decide +kernel
theorem dX10_of_12 : decode cX10_of 12 = .ok (.getfield 10, 3) := by decide +kernel
theorem dX10_of_15 : decode cX10_of 15 = .ok (.getfield 137, 3) := by decide +kernel
theorem dX10_of_18 : decode cX10_of 18 = .ok (.iload_n 1, 1) := by decide +kernel
theorem dX10_of_19 : decode cX10_of 19 = .ok (.iaload, 1) := by decide +kernel
theorem dX10_of_20 : decode cX10_of 20 = .ok (.goto 4, 3) := by decide +kernel
theorem dX10_of_23 : decode cX10_of 23 = .ok (.iconst (-1), 1) := by decide +kernel
theorem dX10_of_24 : decode cX10_of 24 = .ok (.ireturn, 1) := by decide +kernel
theorem dX10_feed_0 : decode cX10_feed 0 = .ok (.aload_n 0, 1) := by decide +kernel
theorem dX10_feed_1 : decode cX10_feed 1 = .ok (.getfield 23, 3) := by decide +kernel
theorem dX10_feed_4 : decode cX10_feed 4 = .ok (.invokevirtual 140, 3) := by decide +kernel
theorem dX10_feed_7 : decode cX10_feed 7 = .ok (.ifCond .ne 5, 3) := by decide +kernel
theorem dX10_feed_10 : decode cX10_feed 10 = .ok (.iconst (-1), 1) := by decide +kernel
theorem dX10_feed_11 : decode cX10_feed 11 = .ok (.ireturn, 1) := by decide +kernel
theorem dX10_feed_12 : decode cX10_feed 12 = .ok (.aload_n 0, 1) := by decide +kernel
theorem dX10_feed_13 : decode cX10_feed 13 = .ok (.getfield 23, 3) := by decide +kernel
theorem dX10_feed_16 : decode cX10_feed 16 = .ok (.iload_n 1, 1) := by decide +kernel
theorem dX10_feed_17 : decode cX10_feed 17 = .ok (.invokevirtual 144, 3) := by decide +kernel
theorem dX10_feed_20 : decode cX10_feed 20 = .ok (.aload_n 0, 1) := by decide +kernel
theorem dX10_feed_21 : decode cX10_feed 21 = .ok (.getfield 23, 3) := by decide +kernel
theorem dX10_feed_24 : decode cX10_feed 24 = .ok (.iload_n 2, 1) := by decide +kernel
theorem dX10_feed_25 : decode cX10_feed 25 = .ok (.invokevirtual 144, 3) := by decide +kernel
theorem dX10_feed_28 : decode cX10_feed 28 = .ok (.aload_n 0, 1) := by decide +kernel
theorem dX10_feed_29 : decode cX10_feed 29 = .ok (.getfield 23, 3) := by decide +kernel
theorem dX10_feed_32 : decode cX10_feed 32 = .ok (.iload_n 3, 1) := by decide +kernel
theorem dX10_feed_33 : decode cX10_feed 33 = .ok (.invokevirtual 144, 3) := by decide +kernel
theorem dX10_feed_36 : decode cX10_feed 36 = .ok (.aload_n 0, 1) := by decide +kernel
theorem dX10_feed_37 : decode cX10_feed 37 = .ok (.getfield 23, 3) := by decide +kernel
theorem dX10_feed_40 : decode cX10_feed 40 = .ok (.iload 4, 2) := by decide +kernel
theorem dX10_feed_42 : decode cX10_feed 42 = .ok (.invokevirtual 144, 3) := by decide +kernel
theorem dX10_feed_45 : decode cX10_feed 45 = .ok (.aload_n 0, 1) := by decide +kernel
theorem dX10_feed_46 : decode cX10_feed 46 = .ok (.getfield 23, 3) := by decide +kernel
theorem dX10_feed_49 : decode cX10_feed 49 = .ok (.iload 5, 2) := by decide +kernel
theorem dX10_feed_51 : decode cX10_feed 51 = .ok (.invokevirtual 144, 3) := by decide +kernel
theorem dX10_feed_54 : decode cX10_feed 54 = .ok (.aload_n 0, 1) := by decide +kernel
theorem dX10_feed_55 : decode cX10_feed 55 = .ok (.getfield 23, 3) := by decide +kernel
theorem dX10_feed_58 : decode cX10_feed 58 = .ok (.getfield 148, 3) := by decide +kernel
theorem dX10_feed_61 : decode cX10_feed 61 = .ok (.ireturn, 1) := by decide +kernel
theorem dX10_end_0 : decode cX10_end 0 = .ok (.iload_n 1, 1) := by decide +kernel
theorem dX10_end_1 : decode cX10_end 1 = .ok (.ifCond .lt 14, 3) := by decide +kernel
theorem dX10_end_4 : decode cX10_end 4 = .ok (.iload_n 1, 1) := by decide +kernel
theorem dX10_end_5 : decode cX10_end 5 = .ok (.aload_n 0, 1) := by decide +kernel
theorem dX10_end_6 : decode cX10_end 6 = .ok (.getfield 23, 3) := by decide +kernel
theorem dX10_end_9 : decode cX10_end 9 = .ok (.getfield 148, 3) := by decide +kernel
theorem dX10_end_12 : decode cX10_end 12 = .ok (.if_icmp .le 5, 3) := by decide +kernel
theorem dX10_end_15 : decode cX10_end 15 = .ok (.iconst (-1), 1) := by decide +kernel
theorem dX10_end_16 : decode cX10_end 16 = .ok (.ireturn, 1) := by decide +kernel
theorem dX10_end_17 : decode cX10_end 17 = .ok (.aload_n 0, 1) := by decide +kernel
theorem dX10_end_18 : decode cX10_end 18 = .ok (.getfield 23, 3) := by decide +kernel
theorem dX10_end_21 : decode cX10_end 21 = .ok (.iload_n 1, 1) := by decide +kernel
theorem dX10_end_22 : decode cX10_end 22 = .ok (.putfield 148, 3) := by decide +kernel
theorem dX10_end_25 : decode cX10_end 25 = .ok (.iload_n 1, 1) := by decide +kernel
theorem dX10_end_26 : decode cX10_end 26 = .ok (.ireturn, 1) := by decide +kernel
theorem dX10_row_0 : decode cX10_row 0 = .ok (.aload_n 0, 1) := by decide +kernel
theorem dX10_row_1 : decode cX10_row 1 = .ok (.getfield 23, 3) := by decide +kernel
theorem dX10_row_4 : decode cX10_row 4 = .ok (.getfield 148, 3) := by decide +kernel
theorem dX10_row_7 : decode cX10_row 7 = .ok (.ifCond .ne 10, 3) := by decide +kernel
theorem dX10_row_10 : decode cX10_row 10 = .ok (.aload_n 0, 1) := by decide +kernel
theorem dX10_row_11 : decode cX10_row 11 = .ok (.bipush (-6), 2) := by decide +kernel
theorem dX10_row_13 : decode cX10_row 13 = .ok (.invokevirtual 89, 3) := by decide +kernel
theorem dX10_row_16 : decode cX10_row 16 = .ok (.ireturn, 1) := by decide +kernel
theorem dX10_row_17 : decode cX10_row 17 = .ok (.aload_n 0, 1) := by decide +kernel
theorem dX10_row_18 : decode cX10_row 18 = .ok (.getfield 10, 3) := by decide +kernel
theorem dX10_row_21 : decode cX10_row 21 = .ok (.invokevirtual 151, 3) := by decide +kernel
theorem dX10_row_24 : decode cX10_row 24 = .ok (.istore_n 1, 1) := by decide +kernel
theorem dX10_row_25 : decode cX10_row 25 = .ok (.iconst 0, 1) := by decide +kernel
theorem dX10_row_26 : decode cX10_row 26 = .ok (.istore_n 2, 1) := by decide +kernel
theorem dX10_row_27 : decode cX10_row 27 = .ok (.iload_n 2, 1) := by decide +kernel
theorem dX10_row_28 : decode cX10_row 28 = .ok (.iload_n 1, 1) := by decide +kernel
theorem dX10_row_29 : decode cX10_row 29 = .ok (.if_icmp .gt 43, 3) := by decide +kernel
theorem dX10_row_32 : decode cX10_row 32 = .ok (.aload_n 0, 1) := by decide +kernel
theorem dX10_row_33 : decode cX10_row 33 = .ok (.getfield 23, 3) := by decide +kernel
theorem dX10_row_36 : decode cX10_row 36 = .ok (.iload_n 2, 1) := by decide +kernel
theorem dX10_row_37 : decode cX10_row 37 = .ok (.invokevirtual 155, 3) := by decide +kernel
theorem dX10_row_40 : decode cX10_row 40 = .ok (.istore_n 3, 1) := by decide +kernel
theorem dX10_row_41 : decode cX10_row 41 = .ok (.aload_n 0, 1) := by decide +kernel
theorem dX10_row_42 : decode cX10_row 42 = .ok (.getfield 10, 3) := by decide +kernel
theorem dX10_row_45 : decode cX10_row 45 = .ok (.getfield 137, 3) := by decide +kernel
theorem dX10_row_48 : decode cX10_row 48 = .ok (.iload_n 2, 1) := by decide +kernel
theorem dX10_row_49 : decode cX10_row 49 = .ok (.aload_n 0, 1) := by decide +kernel
theorem dX10_row_50 : decode cX10_row 50 = .ok (.getfield 10, 3) := by decide +kernel
theorem dX10_row_53 : decode cX10_row 53 = .ok (.iload_n 3, 1) := by decide +kernel
theorem dX10_row_54 : decode cX10_row 54 = .ok (.invokevirtual 134, 3) := by decide +kernel
theorem dX10_row_57 : decode cX10_row 57 = .ok (.ifCond .eq 7, 3) := by decide +kernel
theorem dX10_row_60 : decode cX10_row 60 = .ok (.iload_n 3, 1) := by decide +kernel
theorem dX10_row_61 : decode cX10_row 61 = .ok (.goto 4, 3) := by decide +kernel
theorem dX10_row_64 : decode cX10_row 64 = .ok (.iconst (-1), 1) := by decide +kernel
theorem dX10_row_65 : decode cX10_row 65 = .ok (.iastore, 1) := by decide +kernel
theorem dX10_row_66 : decode cX10_row 66 = .ok (.iinc 2 1, 3) := by decide +kernel
theorem dX10_row_69 : decode cX10_row 69 = .ok (.goto (-42), 3) := by decide +kernel
theorem dX10_row_72 : decode cX10_row 72 = .ok (.aload_n 0, 1) := by decide +kernel
theorem dX10_row_73 : decode cX10_row 73 = .ok (.iconst 0, 1) := by decide +kernel
theorem dX10_row_74 : decode cX10_row 74 = .ok (.aload_n 0, 1) := by decide +kernel
theorem dX10_row_75 : decode cX10_row 75 = .ok (.getfield 23, 3) := by decide +kernel
theorem dX10_row_78 : decode cX10_row 78 = .ok (.getfield 148, 3) := by decide +kernel
theorem dX10_row_81 : decode cX10_row 81 = .ok (.iload_n 1, 1) := by decide +kernel
theorem dX10_row_82 : decode cX10_row 82 = .ok (.isub, 1) := by decide +kernel
theorem dX10_row_83 : decode cX10_row 83 = .ok (.iconst 1, 1) := by decide +kernel
theorem dX10_row_84 : decode cX10_row 84 = .ok (.isub, 1) := by decide +kernel
theorem dX10_row_85 : decode cX10_row 85 = .ok (.invokestatic 158, 3) := by decide +kernel
theorem dX10_row_88 : decode cX10_row 88 = .ok (.putfield 164, 3) := by decide +kernel
theorem dX10_row_91 : decode cX10_row 91 = .ok (.aload_n 0, 1) := by decide +kernel
theorem dX10_row_92 : decode cX10_row 92 = .ok (.getfield 23, 3) := by decide +kernel
theorem dX10_row_95 : decode cX10_row 95 = .ok (.iconst 0, 1) := by decide +kernel
theorem dX10_row_96 : decode cX10_row 96 = .ok (.putfield 148, 3) := by decide +kernel
theorem dX10_row_99 : decode cX10_row 99 = .ok (.aload_n 0, 1) := by decide +kernel
theorem dX10_row_100 : decode cX10_row 100 = .ok (.invokevirtual 111, 3) := by decide +kernel
theorem dX10_row_103 : decode cX10_row 103 = .ok (.aload_n 0, 1) := by decide +kernel
theorem dX10_row_104 : decode cX10_row 104 = .ok (.aload_n 0, 1) := by decide +kernel
theorem dX10_row_105 : decode cX10_row 105 = .ok (.getfield 10, 3) := by decide +kernel
theorem dX10_row_108 : decode cX10_row 108 = .ok (.invokevirtual 167, 3) := by decide +kernel
theorem dX10_row_111 : decode cX10_row 111 = .ok (.invokevirtual 114, 3) := by decide +kernel
theorem dX10_row_114 : decode cX10_row 114 = .ok (.ireturn, 1) := by decide +kernel
theorem dX10_torn_0 : decode cX10_torn 0 = .ok (.aload_n 0, 1) := by decide +kernel
theorem dX10_torn_1 : decode cX10_torn 1 = .ok (.getfield 164, 3) := by decide +kernel
theorem dX10_torn_4 : decode cX10_torn 4 = .ok (.ireturn, 1) := by decide +kernel
theorem dX10_law_0 : decode cX10_law 0 = .ok (.aload_n 0, 1) := by decide +kernel
theorem dX10_law_1 : decode cX10_law 1 = .ok (.getfield 10, 3) := by decide +kernel
theorem dX10_law_4 : decode cX10_law 4 = .ok (.getfield 170, 3) := by decide +kernel
theorem dX10_law_7 : decode cX10_law 7 = .ok (.bipush 6, 2) := by decide +kernel
theorem dX10_law_9 : decode cX10_law 9 = .ok (.if_icmp .lt 18, 3) := by decide +kernel
theorem dX10_law_12 : decode cX10_law 12 = .ok (.aload_n 0, 1) := by decide +kernel
theorem dX10_law_13 : decode cX10_law 13 = .ok (.getfield 23, 3) := by decide +kernel
theorem dX10_law_16 : decode cX10_law 16 = .ok (.iconst 0, 1) := by decide +kernel
theorem dX10_law_17 : decode cX10_law 17 = .ok (.putfield 148, 3) := by decide +kernel
theorem dX10_law_20 : decode cX10_law 20 = .ok (.aload_n 0, 1) := by decide +kernel
theorem dX10_law_21 : decode cX10_law 21 = .ok (.bipush (-5), 2) := by decide +kernel
theorem dX10_law_23 : decode cX10_law 23 = .ok (.invokevirtual 89, 3) := by decide +kernel
theorem dX10_law_26 : decode cX10_law 26 = .ok (.ireturn, 1) := by decide +kernel
theorem dX10_law_27 : decode cX10_law 27 = .ok (.aload_n 0, 1) := by decide +kernel
theorem dX10_law_28 : decode cX10_law 28 = .ok (.getfield 32, 3) := by decide +kernel
theorem dX10_law_31 : decode cX10_law 31 = .ok (.invokevirtual 173, 3) := by decide +kernel
theorem dX10_law_34 : decode cX10_law 34 = .ok (.astore_n 1, 1) := by decide +kernel
theorem dX10_law_35 : decode cX10_law 35 = .ok (.aload_n 0, 1) := by decide +kernel
theorem dX10_law_36 : decode cX10_law 36 = .ok (.getfield 23, 3) := by decide +kernel
theorem dX10_law_39 : decode cX10_law 39 = .ok (.iconst 0, 1) := by decide +kernel
theorem dX10_law_40 : decode cX10_law 40 = .ok (.putfield 148, 3) := by decide +kernel
theorem dX10_law_43 : decode cX10_law 43 = .ok (.aload_n 1, 1) := by decide +kernel
theorem dX10_law_44 : decode cX10_law 44 = .ok (.ifnonnull 10, 3) := by decide +kernel
theorem dX10_law_47 : decode cX10_law 47 = .ok (.aload_n 0, 1) := by decide +kernel
theorem dX10_law_48 : decode cX10_law 48 = .ok (.bipush (-6), 2) := by decide +kernel
theorem dX10_law_50 : decode cX10_law 50 = .ok (.invokevirtual 89, 3) := by decide +kernel
theorem dX10_law_53 : decode cX10_law 53 = .ok (.ireturn, 1) := by decide +kernel
theorem dX10_law_54 : decode cX10_law 54 = .ok (.aload_n 0, 1) := by decide +kernel
theorem dX10_law_55 : decode cX10_law 55 = .ok (.getfield 10, 3) := by decide +kernel
theorem dX10_law_58 : decode cX10_law 58 = .ok (.getfield 170, 3) := by decide +kernel
theorem dX10_law_61 : decode cX10_law 61 = .ok (.istore_n 2, 1) := by decide +kernel
theorem dX10_law_62 : decode cX10_law 62 = .ok (.aload_n 0, 1) := by decide +kernel
theorem dX10_law_63 : decode cX10_law 63 = .ok (.getfield 10, 3) := by decide +kernel
theorem dX10_law_66 : decode cX10_law 66 = .ok (.getfield 177, 3) := by decide +kernel
theorem dX10_law_69 : decode cX10_law 69 = .ok (.iload_n 2, 1) := by decide +kernel
theorem dX10_law_70 : decode cX10_law 70 = .ok (.aload_n 1, 1) := by decide +kernel
theorem dX10_law_71 : decode cX10_law 71 = .ok (.aastore, 1) := by decide +kernel
theorem dX10_law_72 : decode cX10_law 72 = .ok (.aload_n 0, 1) := by decide +kernel
theorem dX10_law_73 : decode cX10_law 73 = .ok (.getfield 10, 3) := by decide +kernel
theorem dX10_law_76 : decode cX10_law 76 = .ok (.iload_n 2, 1) := by decide +kernel
theorem dX10_law_77 : decode cX10_law 77 = .ok (.iconst 1, 1) := by decide +kernel
theorem dX10_law_78 : decode cX10_law 78 = .ok (.iadd, 1) := by decide +kernel
theorem dX10_law_79 : decode cX10_law 79 = .ok (.putfield 170, 3) := by decide +kernel
theorem dX10_law_82 : decode cX10_law 82 = .ok (.aload_n 0, 1) := by decide +kernel
theorem dX10_law_83 : decode cX10_law 83 = .ok (.iload_n 2, 1) := by decide +kernel
theorem dX10_law_84 : decode cX10_law 84 = .ok (.invokevirtual 114, 3) := by decide +kernel
theorem dX10_law_87 : decode cX10_law 87 = .ok (.ireturn, 1) := by decide +kernel
theorem dX10_fault_0 : decode cX10_fault 0 = .ok (.aload_n 0, 1) := by decide +kernel
theorem dX10_fault_1 : decode cX10_fault 1 = .ok (.getfield 32, 3) := by decide +kernel
theorem dX10_fault_4 : decode cX10_fault 4 = .ok (.getfield 181, 3) := by decide +kernel
theorem dX10_fault_7 : decode cX10_fault 7 = .ok (.ireturn, 1) := by decide +kernel
theorem dX10_learn_0 : decode cX10_learn 0 = .ok (.iload_n 1, 1) := by decide +kernel
theorem dX10_learn_1 : decode cX10_learn 1 = .ok (.ifCond .lt 14, 3) := by decide +kernel
theorem dX10_learn_4 : decode cX10_learn 4 = .ok (.iload_n 1, 1) := by decide +kernel
theorem dX10_learn_5 : decode cX10_learn 5 = .ok (.aload_n 0, 1) := by decide +kernel
theorem dX10_learn_6 : decode cX10_learn 6 = .ok (.getfield 10, 3) := by decide +kernel
theorem dX10_learn_9 : decode cX10_learn 9 = .ok (.getfield 170, 3) := by decide +kernel
theorem dX10_learn_12 : decode cX10_learn 12 = .ok (.if_icmp .lt 10, 3) := by decide +kernel
theorem dX10_learn_15 : decode cX10_learn 15 = .ok (.aload_n 0, 1) := by decide +kernel
theorem dX10_learn_16 : decode cX10_learn 16 = .ok (.bipush (-2), 2) := by decide +kernel
theorem dX10_learn_18 : decode cX10_learn 18 = .ok (.invokevirtual 89, 3) := by decide +kernel
theorem dX10_learn_21 : decode cX10_learn 21 = .ok (.ireturn, 1) := by decide +kernel
theorem dX10_learn_22 : decode cX10_learn 22 = .ok (.aload_n 0, 1) := by decide +kernel
theorem dX10_learn_23 : decode cX10_learn 23 = .ok (.getfield 10, 3) := by decide +kernel
theorem dX10_learn_26 : decode cX10_learn 26 = .ok (.getfield 177, 3) := by decide +kernel
theorem dX10_learn_29 : decode cX10_learn 29 = .ok (.iload_n 1, 1) := by decide +kernel
theorem dX10_learn_30 : decode cX10_learn 30 = .ok (.aaload, 1) := by decide +kernel
theorem dX10_learn_31 : decode cX10_learn 31 = .ok (.astore_n 2, 1) := by decide +kernel
theorem dX10_learn_32 : decode cX10_learn 32 = .ok (.aload_n 2, 1) := by decide +kernel
theorem dX10_learn_33 : decode cX10_learn 33 = .ok (.ifnonnull 10, 3) := by decide +kernel
theorem dX10_learn_36 : decode cX10_learn 36 = .ok (.aload_n 0, 1) := by decide +kernel
theorem dX10_learn_37 : decode cX10_learn 37 = .ok (.bipush (-2), 2) := by decide +kernel
theorem dX10_learn_39 : decode cX10_learn 39 = .ok (.invokevirtual 89, 3) := by decide +kernel
theorem dX10_learn_42 : decode cX10_learn 42 = .ok (.ireturn, 1) := by decide +kernel
theorem dX10_learn_43 : decode cX10_learn 43 = .ok (.aload_n 0, 1) := by decide +kernel
theorem dX10_learn_44 : decode cX10_learn 44 = .ok (.getfield 10, 3) := by decide +kernel
theorem dX10_learn_47 : decode cX10_learn 47 = .ok (.invokevirtual 151, 3) := by decide +kernel
theorem dX10_learn_50 : decode cX10_learn 50 = .ok (.istore_n 3, 1) := by decide +kernel
theorem dX10_learn_51 : decode cX10_learn 51 = .ok (.iconst 0, 1) := by decide +kernel
theorem dX10_learn_52 : decode cX10_learn 52 = .ok (.istore 4, 2) := by decide +kernel
theorem dX10_learn_54 : decode cX10_learn 54 = .ok (.iload 4, 2) := by decide +kernel
theorem dX10_learn_56 : decode cX10_learn 56 = .ok (.iload_n 3, 1) := by decide +kernel
theorem dX10_learn_57 : decode cX10_learn 57 = .ok (.if_icmp .gt 33, 3) := by decide +kernel
theorem dX10_learn_60 : decode cX10_learn 60 = .ok (.aload_n 0, 1) := by decide +kernel
theorem dX10_learn_61 : decode cX10_learn 61 = .ok (.getfield 10, 3) := by decide +kernel
theorem dX10_learn_64 : decode cX10_learn 64 = .ok (.getfield 137, 3) := by decide +kernel
theorem dX10_learn_67 : decode cX10_learn 67 = .ok (.iload 4, 2) := by decide +kernel
theorem dX10_learn_69 : decode cX10_learn 69 = .ok (.aload_n 0, 1) := by decide +kernel
theorem dX10_learn_70 : decode cX10_learn 70 = .ok (.getfield 39, 3) := by decide +kernel
theorem dX10_learn_73 : decode cX10_learn 73 = .ok (.aload_n 2, 1) := by decide +kernel
theorem dX10_learn_74 : decode cX10_learn 74 = .ok (.aload_n 0, 1) := by decide +kernel
theorem dX10_learn_75 : decode cX10_learn 75 = .ok (.getfield 10, 3) := by decide +kernel
theorem dX10_learn_78 : decode cX10_learn 78 = .ok (.iload 4, 2) := by decide +kernel
theorem dX10_learn_80 : decode cX10_learn 80 = .ok (.invokevirtual 184, 3) := by decide +kernel
theorem dX10_learn_83 : decode cX10_learn 83 = .ok (.iastore, 1) := by decide +kernel
theorem dX10_learn_84 : decode cX10_learn 84 = .ok (.iinc 4 1, 3) := by decide +kernel
theorem dX10_learn_87 : decode cX10_learn 87 = .ok (.goto (-33), 3) := by decide +kernel
theorem dX10_learn_90 : decode cX10_learn 90 = .ok (.aload_n 0, 1) := by decide +kernel
theorem dX10_learn_91 : decode cX10_learn 91 = .ok (.invokevirtual 111, 3) := by decide +kernel
theorem dX10_learn_94 : decode cX10_learn 94 = .ok (.aload_n 0, 1) := by decide +kernel
theorem dX10_learn_95 : decode cX10_learn 95 = .ok (.aload_n 0, 1) := by decide +kernel
theorem dX10_learn_96 : decode cX10_learn 96 = .ok (.getfield 10, 3) := by decide +kernel
theorem dX10_learn_99 : decode cX10_learn 99 = .ok (.invokevirtual 167, 3) := by decide +kernel
theorem dX10_learn_102 : decode cX10_learn 102 = .ok (.invokevirtual 114, 3) := by decide +kernel
theorem dX10_learn_105 : decode cX10_learn 105 = .ok (.ireturn, 1) := by decide +kernel
theorem dX10_next_0 : decode cX10_next 0 = .ok (.aload_n 0, 1) := by decide +kernel
theorem dX10_next_1 : decode cX10_next 1 = .ok (.getfield 10, 3) := by decide +kernel
theorem dX10_next_4 : decode cX10_next 4 = .ok (.iload_n 1, 1) := by decide +kernel
theorem dX10_next_5 : decode cX10_next 5 = .ok (.invokevirtual 131, 3) := by decide +kernel
theorem dX10_next_8 : decode cX10_next 8 = .ok (.ifCond .eq 21, 3) := by decide +kernel
theorem dX10_next_11 : decode cX10_next 11 = .ok (.aload_n 0, 1) := by decide +kernel
theorem dX10_next_12 : decode cX10_next 12 = .ok (.getfield 10, 3) := by decide +kernel
theorem dX10_next_15 : decode cX10_next 15 = .ok (.iload_n 2, 1) := by decide +kernel
theorem dX10_next_16 : decode cX10_next 16 = .ok (.invokevirtual 134, 3) := by decide +kernel
theorem dX10_next_19 : decode cX10_next 19 = .ok (.ifCond .eq 10, 3) := by decide +kernel
theorem dX10_next_22 : decode cX10_next 22 = .ok (.iload_n 3, 1) := by decide +kernel
theorem dX10_next_23 : decode cX10_next 23 = .ok (.invokestatic 188, 3) := by decide +kernel
theorem dX10_next_26 : decode cX10_next 26 = .ok (.ifCond .ne 5, 3) := by decide +kernel
theorem dX10_next_29 : decode cX10_next 29 = .ok (.iconst (-1), 1) := by decide +kernel
theorem dX10_next_30 : decode cX10_next 30 = .ok (.ireturn, 1) := by decide +kernel
theorem dX10_next_31 : decode cX10_next 31 = .ok (.aload_n 0, 1) := by decide +kernel
theorem dX10_next_32 : decode cX10_next 32 = .ok (.getfield 48, 3) := by decide +kernel
theorem dX10_next_35 : decode cX10_next 35 = .ok (.iload_n 3, 1) := by decide +kernel
theorem dX10_next_36 : decode cX10_next 36 = .ok (.invokevirtual 191, 3) := by decide +kernel
theorem dX10_next_39 : decode cX10_next 39 = .ok (.aload_n 0, 1) := by decide +kernel
theorem dX10_next_40 : decode cX10_next 40 = .ok (.getfield 48, 3) := by decide +kernel
theorem dX10_next_43 : decode cX10_next 43 = .ok (.iload_n 1, 1) := by decide +kernel
theorem dX10_next_44 : decode cX10_next 44 = .ok (.iload_n 2, 1) := by decide +kernel
theorem dX10_next_45 : decode cX10_next 45 = .ok (.iload_n 3, 1) := by decide +kernel
theorem dX10_next_46 : decode cX10_next 46 = .ok (.invokevirtual 194, 3) := by decide +kernel
theorem dX10_next_49 : decode cX10_next 49 = .ok (.ireturn, 1) := by decide +kernel
theorem dX10_ways_0 : decode cX10_ways 0 = .ok (.aload_n 0, 1) := by decide +kernel
theorem dX10_ways_1 : decode cX10_ways 1 = .ok (.getfield 10, 3) := by decide +kernel
theorem dX10_ways_4 : decode cX10_ways 4 = .ok (.iload_n 1, 1) := by decide +kernel
theorem dX10_ways_5 : decode cX10_ways 5 = .ok (.invokevirtual 131, 3) := by decide +kernel
theorem dX10_ways_8 : decode cX10_ways 8 = .ok (.ifCond .eq 14, 3) := by decide +kernel
theorem dX10_ways_11 : decode cX10_ways 11 = .ok (.aload_n 0, 1) := by decide +kernel
theorem dX10_ways_12 : decode cX10_ways 12 = .ok (.getfield 10, 3) := by decide +kernel
theorem dX10_ways_15 : decode cX10_ways 15 = .ok (.iload_n 2, 1) := by decide +kernel
theorem dX10_ways_16 : decode cX10_ways 16 = .ok (.invokevirtual 134, 3) := by decide +kernel
theorem dX10_ways_19 : decode cX10_ways 19 = .ok (.ifCond .ne 5, 3) := by decide +kernel
theorem dX10_ways_22 : decode cX10_ways 22 = .ok (.iconst (-1), 1) := by decide +kernel
theorem dX10_ways_23 : decode cX10_ways 23 = .ok (.ireturn, 1) := by decide +kernel
theorem dX10_ways_24 : decode cX10_ways 24 = .ok (.aload_n 0, 1) := by decide +kernel
theorem dX10_ways_25 : decode cX10_ways 25 = .ok (.getfield 10, 3) := by decide +kernel
theorem dX10_ways_28 : decode cX10_ways 28 = .ok (.iload_n 1, 1) := by decide +kernel
theorem dX10_ways_29 : decode cX10_ways 29 = .ok (.iload_n 2, 1) := by decide +kernel
theorem dX10_ways_30 : decode cX10_ways 30 = .ok (.invokevirtual 198, 3) := by decide +kernel
theorem dX10_ways_33 : decode cX10_ways 33 = .ok (.ireturn, 1) := by decide +kernel
theorem dX10_lasts_0 : decode cX10_lasts 0 = .ok (.aload_n 0, 1) := by decide +kernel
theorem dX10_lasts_1 : decode cX10_lasts 1 = .ok (.getfield 10, 3) := by decide +kernel
theorem dX10_lasts_4 : decode cX10_lasts 4 = .ok (.iload_n 1, 1) := by decide +kernel
theorem dX10_lasts_5 : decode cX10_lasts 5 = .ok (.invokevirtual 131, 3) := by decide +kernel
theorem dX10_lasts_8 : decode cX10_lasts 8 = .ok (.ifCond .eq 14, 3) := by decide +kernel
theorem dX10_lasts_11 : decode cX10_lasts 11 = .ok (.aload_n 0, 1) := by decide +kernel
theorem dX10_lasts_12 : decode cX10_lasts 12 = .ok (.getfield 48, 3) := by decide +kernel
theorem dX10_lasts_15 : decode cX10_lasts 15 = .ok (.iload_n 1, 1) := by decide +kernel
theorem dX10_lasts_16 : decode cX10_lasts 16 = .ok (.invokevirtual 201, 3) := by decide +kernel
theorem dX10_lasts_19 : decode cX10_lasts 19 = .ok (.goto 4, 3) := by decide +kernel
theorem dX10_lasts_22 : decode cX10_lasts 22 = .ok (.iconst (-1), 1) := by decide +kernel
theorem dX10_lasts_23 : decode cX10_lasts 23 = .ok (.ireturn, 1) := by decide +kernel
theorem dX10_mean_0 : decode cX10_mean 0 = .ok (.aload_n 0, 1) := by decide +kernel
theorem dX10_mean_1 : decode cX10_mean 1 = .ok (.getfield 10, 3) := by decide +kernel
theorem dX10_mean_4 : decode cX10_mean 4 = .ok (.iload_n 1, 1) := by decide +kernel
theorem dX10_mean_5 : decode cX10_mean 5 = .ok (.invokevirtual 131, 3) := by decide +kernel
theorem dX10_mean_8 : decode cX10_mean 8 = .ok (.ifCond .eq 12, 3) := by decide +kernel
theorem dX10_mean_11 : decode cX10_mean 11 = .ok (.iload_n 2, 1) := by decide +kernel
theorem dX10_mean_12 : decode cX10_mean 12 = .ok (.ifCond .lt 8, 3) := by decide +kernel
theorem dX10_mean_15 : decode cX10_mean 15 = .ok (.iload_n 2, 1) := by decide +kernel
theorem dX10_mean_16 : decode cX10_mean 16 = .ok (.iconst 1, 1) := by decide +kernel
theorem dX10_mean_17 : decode cX10_mean 17 = .ok (.if_icmp .le 7, 3) := by decide +kernel
theorem dX10_mean_20 : decode cX10_mean 20 = .ok (.ldc2_w 204, 3) := by decide +kernel
theorem dX10_mean_23 : decode cX10_mean 23 = .ok (.lreturn, 1) := by decide +kernel
theorem dX10_mean_24 : decode cX10_mean 24 = .ok (.aload_n 0, 1) := by decide +kernel
theorem dX10_mean_25 : decode cX10_mean 25 = .ok (.getfield 48, 3) := by decide +kernel
theorem dX10_mean_28 : decode cX10_mean 28 = .ok (.iload_n 1, 1) := by decide +kernel
theorem dX10_mean_29 : decode cX10_mean 29 = .ok (.iload_n 2, 1) := by decide +kernel
theorem dX10_mean_30 : decode cX10_mean 30 = .ok (.ifCond .ne 7, 3) := by decide +kernel
theorem dX10_mean_33 : decode cX10_mean 33 = .ok (.iconst 1, 1) := by decide +kernel
theorem dX10_mean_34 : decode cX10_mean 34 = .ok (.goto 4, 3) := by decide +kernel
theorem dX10_mean_37 : decode cX10_mean 37 = .ok (.iconst 0, 1) := by decide +kernel
theorem dX10_mean_38 : decode cX10_mean 38 = .ok (.invokevirtual 206, 3) := by decide +kernel
theorem dX10_mean_41 : decode cX10_mean 41 = .ok (.lreturn, 1) := by decide +kernel
theorem dX10_reached_0 : decode cX10_reached 0 = .ok (.iload_n 1, 1) := by decide +kernel
theorem dX10_reached_1 : decode cX10_reached 1 = .ok (.iconst (-1), 1) := by decide +kernel
theorem dX10_reached_2 : decode cX10_reached 2 = .ok (.if_icmp .ne 11, 3) := by decide +kernel
theorem dX10_reached_5 : decode cX10_reached 5 = .ok (.aload_n 0, 1) := by decide +kernel
theorem dX10_reached_6 : decode cX10_reached 6 = .ok (.getfield 10, 3) := by decide +kernel
theorem dX10_reached_9 : decode cX10_reached 9 = .ok (.invokevirtual 210, 3) := by decide +kernel
theorem dX10_reached_12 : decode cX10_reached 12 = .ok (.ireturn, 1) := by decide +kernel
theorem dX10_reached_13 : decode cX10_reached 13 = .ok (.aload_n 0, 1) := by decide +kernel
theorem dX10_reached_14 : decode cX10_reached 14 = .ok (.getfield 10, 3) := by decide +kernel
theorem dX10_reached_17 : decode cX10_reached 17 = .ok (.iload_n 1, 1) := by decide +kernel
theorem dX10_reached_18 : decode cX10_reached 18 = .ok (.invokevirtual 131, 3) := by decide +kernel
theorem dX10_reached_21 : decode cX10_reached 21 = .ok (.ifCond .ne 5, 3) := by decide +kernel
theorem dX10_reached_24 : decode cX10_reached 24 = .ok (.iconst (-1), 1) := by decide +kernel
theorem dX10_reached_25 : decode cX10_reached 25 = .ok (.ireturn, 1) := by decide +kernel
theorem dX10_reached_26 : decode cX10_reached 26 = .ok (.aload_n 0, 1) := by decide +kernel
theorem dX10_reached_27 : decode cX10_reached 27 = .ok (.getfield 10, 3) := by decide +kernel
theorem dX10_reached_30 : decode cX10_reached 30 = .ok (.iload_n 1, 1) := by decide +kernel
theorem dX10_reached_31 : decode cX10_reached 31 = .ok (.invokevirtual 213, 3) := by decide +kernel
theorem dX10_reached_34 : decode cX10_reached 34 = .ok (.ifCond .eq 7, 3) := by decide +kernel
theorem dX10_reached_37 : decode cX10_reached 37 = .ok (.iconst 1, 1) := by decide +kernel
theorem dX10_reached_38 : decode cX10_reached 38 = .ok (.goto 4, 3) := by decide +kernel
theorem dX10_reached_41 : decode cX10_reached 41 = .ok (.iconst 0, 1) := by decide +kernel
theorem dX10_reached_42 : decode cX10_reached 42 = .ok (.ireturn, 1) := by decide +kernel
theorem dX10_failing_0 : decode cX10_failing 0 = .ok (.iload_n 1, 1) := by decide +kernel
theorem dX10_failing_1 : decode cX10_failing 1 = .ok (.iconst (-1), 1) := by decide +kernel
theorem dX10_failing_2 : decode cX10_failing 2 = .ok (.if_icmp .ge 5, 3) := by decide +kernel
theorem dX10_failing_5 : decode cX10_failing 5 = .ok (.iconst (-1), 1) := by decide +kernel
theorem dX10_failing_6 : decode cX10_failing 6 = .ok (.ireturn, 1) := by decide +kernel
theorem dX10_failing_7 : decode cX10_failing 7 = .ok (.aload_n 0, 1) := by decide +kernel
theorem dX10_failing_8 : decode cX10_failing 8 = .ok (.getfield 48, 3) := by decide +kernel
theorem dX10_failing_11 : decode cX10_failing 11 = .ok (.iconst 2, 1) := by decide +kernel
theorem dX10_failing_12 : decode cX10_failing 12 = .ok (.invokevirtual 191, 3) := by decide +kernel
theorem dX10_failing_15 : decode cX10_failing 15 = .ok (.aload_n 0, 1) := by decide +kernel
theorem dX10_failing_16 : decode cX10_failing 16 = .ok (.getfield 48, 3) := by decide +kernel
theorem dX10_failing_19 : decode cX10_failing 19 = .ok (.invokevirtual 216, 3) := by decide +kernel
theorem dX10_failing_22 : decode cX10_failing 22 = .ok (.istore_n 2, 1) := by decide +kernel
theorem dX10_failing_23 : decode cX10_failing 23 = .ok (.iload_n 1, 1) := by decide +kernel
theorem dX10_failing_24 : decode cX10_failing 24 = .ok (.iconst (-1), 1) := by decide +kernel
theorem dX10_failing_25 : decode cX10_failing 25 = .ok (.if_icmp .ne 5, 3) := by decide +kernel
theorem dX10_failing_28 : decode cX10_failing 28 = .ok (.iload_n 2, 1) := by decide +kernel
theorem dX10_failing_29 : decode cX10_failing 29 = .ok (.ireturn, 1) := by decide +kernel
theorem dX10_failing_30 : decode cX10_failing 30 = .ok (.iload_n 1, 1) := by decide +kernel
theorem dX10_failing_31 : decode cX10_failing 31 = .ok (.iload_n 2, 1) := by decide +kernel
theorem dX10_failing_32 : decode cX10_failing 32 = .ok (.if_icmp .ge 15, 3) := by decide +kernel
theorem dX10_failing_35 : decode cX10_failing 35 = .ok (.aload_n 0, 1) := by decide +kernel
theorem dX10_failing_36 : decode cX10_failing 36 = .ok (.getfield 48, 3) := by decide +kernel
theorem dX10_failing_39 : decode cX10_failing 39 = .ok (.getfield 219, 3) := by decide +kernel
theorem dX10_failing_42 : decode cX10_failing 42 = .ok (.iload_n 1, 1) := by decide +kernel
theorem dX10_failing_43 : decode cX10_failing 43 = .ok (.iaload, 1) := by decide +kernel
theorem dX10_failing_44 : decode cX10_failing 44 = .ok (.goto 4, 3) := by decide +kernel
theorem dX10_failing_47 : decode cX10_failing 47 = .ok (.iconst (-1), 1) := by decide +kernel
theorem dX10_failing_48 : decode cX10_failing 48 = .ok (.ireturn, 1) := by decide +kernel
theorem dX10_hurts_0 : decode cX10_hurts 0 = .ok (.aload_n 0, 1) := by decide +kernel
theorem dX10_hurts_1 : decode cX10_hurts 1 = .ok (.getfield 10, 3) := by decide +kernel
theorem dX10_hurts_4 : decode cX10_hurts 4 = .ok (.iload_n 1, 1) := by decide +kernel
theorem dX10_hurts_5 : decode cX10_hurts 5 = .ok (.invokevirtual 120, 3) := by decide +kernel
theorem dX10_hurts_8 : decode cX10_hurts 8 = .ok (.ifCond .eq 14, 3) := by decide +kernel
theorem dX10_hurts_11 : decode cX10_hurts 11 = .ok (.aload_n 0, 1) := by decide +kernel
theorem dX10_hurts_12 : decode cX10_hurts 12 = .ok (.getfield 48, 3) := by decide +kernel
theorem dX10_hurts_15 : decode cX10_hurts 15 = .ok (.iload_n 1, 1) := by decide +kernel
theorem dX10_hurts_16 : decode cX10_hurts 16 = .ok (.invokevirtual 222, 3) := by decide +kernel
theorem dX10_hurts_19 : decode cX10_hurts 19 = .ok (.goto 4, 3) := by decide +kernel
theorem dX10_hurts_22 : decode cX10_hurts 22 = .ok (.iconst (-1), 1) := by decide +kernel
theorem dX10_hurts_23 : decode cX10_hurts 23 = .ok (.ireturn, 1) := by decide +kernel
theorem dX10_codes_0 : decode cX10_codes 0 = .ok (.iload_n 1, 1) := by decide +kernel
theorem dX10_codes_1 : decode cX10_codes 1 = .ok (.iload_n 2, 1) := by decide +kernel
theorem dX10_codes_2 : decode cX10_codes 2 = .ok (.iload_n 3, 1) := by decide +kernel
theorem dX10_codes_3 : decode cX10_codes 3 = .ok (.invokestatic 225, 3) := by decide +kernel
theorem dX10_codes_6 : decode cX10_codes 6 = .ok (.ifCond .eq 16, 3) := by decide +kernel
theorem dX10_codes_9 : decode cX10_codes 9 = .ok (.aload_n 0, 1) := by decide +kernel
theorem dX10_codes_10 : decode cX10_codes 10 = .ok (.getfield 71, 3) := by decide +kernel
theorem dX10_codes_13 : decode cX10_codes 13 = .ok (.iload_n 1, 1) := by decide +kernel
theorem dX10_codes_14 : decode cX10_codes 14 = .ok (.iload_n 2, 1) := by decide +kernel
theorem dX10_codes_15 : decode cX10_codes 15 = .ok (.iload_n 3, 1) := by decide +kernel
theorem dX10_codes_16 : decode cX10_codes 16 = .ok (.invokevirtual 229, 3) := by decide +kernel
theorem dX10_codes_19 : decode cX10_codes 19 = .ok (.goto 4, 3) := by decide +kernel
theorem dX10_codes_22 : decode cX10_codes 22 = .ok (.iconst (-1), 1) := by decide +kernel
theorem dX10_codes_23 : decode cX10_codes 23 = .ok (.ireturn, 1) := by decide +kernel
theorem dX10_make_0 : decode cX10_make 0 = .ok (.iload_n 1, 1) := by decide +kernel
theorem dX10_make_1 : decode cX10_make 1 = .ok (.iload_n 2, 1) := by decide +kernel
theorem dX10_make_2 : decode cX10_make 2 = .ok (.iload_n 3, 1) := by decide +kernel
theorem dX10_make_3 : decode cX10_make 3 = .ok (.invokestatic 225, 3) := by decide +kernel
theorem dX10_make_6 : decode cX10_make 6 = .ok (.ifCond .ne 9, 3) := by decide +kernel
theorem dX10_make_9 : decode cX10_make 9 = .ok (.aload_n 0, 1) := by decide +kernel
theorem dX10_make_10 : decode cX10_make 10 = .ok (.iconst (-1), 1) := by decide +kernel
theorem dX10_make_11 : decode cX10_make 11 = .ok (.invokevirtual 89, 3) := by decide +kernel
theorem dX10_make_14 : decode cX10_make 14 = .ok (.ireturn, 1) := by decide +kernel
theorem dX10_make_15 : decode cX10_make 15 = .ok (.iload_n 1, 1) := by decide +kernel
theorem dX10_make_16 : decode cX10_make 16 = .ok (.aload_n 0, 1) := by decide +kernel
theorem dX10_make_17 : decode cX10_make 17 = .ok (.getfield 10, 3) := by decide +kernel
theorem dX10_make_20 : decode cX10_make 20 = .ok (.getfield 93, 3) := by decide +kernel
theorem dX10_make_23 : decode cX10_make 23 = .ok (.if_icmp .ne 27, 3) := by decide +kernel
theorem dX10_make_26 : decode cX10_make 26 = .ok (.iload_n 2, 1) := by decide +kernel
theorem dX10_make_27 : decode cX10_make 27 = .ok (.aload_n 0, 1) := by decide +kernel
theorem dX10_make_28 : decode cX10_make 28 = .ok (.getfield 10, 3) := by decide +kernel
theorem dX10_make_31 : decode cX10_make 31 = .ok (.getfield 117, 3) := by decide +kernel
theorem dX10_make_34 : decode cX10_make 34 = .ok (.if_icmp .ne 16, 3) := by decide +kernel
theorem dX10_make_37 : decode cX10_make 37 = .ok (.aload_n 0, 1) := by decide +kernel
theorem dX10_make_38 : decode cX10_make 38 = .ok (.getfield 71, 3) := by decide +kernel
theorem dX10_make_41 : decode cX10_make 41 = .ok (.iload_n 1, 1) := by decide +kernel
theorem dX10_make_42 : decode cX10_make 42 = .ok (.iload_n 2, 1) := by decide +kernel
theorem dX10_make_43 : decode cX10_make 43 = .ok (.iload_n 3, 1) := by decide +kernel
theorem dX10_make_44 : decode cX10_make 44 = .ok (.invokevirtual 229, 3) := by decide +kernel
theorem dX10_make_47 : decode cX10_make 47 = .ok (.ifCond .ne 10, 3) := by decide +kernel
theorem dX10_make_50 : decode cX10_make 50 = .ok (.aload_n 0, 1) := by decide +kernel
theorem dX10_make_51 : decode cX10_make 51 = .ok (.bipush (-3), 2) := by decide +kernel
theorem dX10_make_53 : decode cX10_make 53 = .ok (.invokevirtual 89, 3) := by decide +kernel
theorem dX10_make_56 : decode cX10_make 56 = .ok (.ireturn, 1) := by decide +kernel
theorem dX10_make_57 : decode cX10_make 57 = .ok (.aload_n 0, 1) := by decide +kernel
theorem dX10_make_58 : decode cX10_make 58 = .ok (.getfield 71, 3) := by decide +kernel
theorem dX10_make_61 : decode cX10_make 61 = .ok (.iload_n 1, 1) := by decide +kernel
theorem dX10_make_62 : decode cX10_make 62 = .ok (.iload_n 2, 1) := by decide +kernel
theorem dX10_make_63 : decode cX10_make 63 = .ok (.iload_n 3, 1) := by decide +kernel
theorem dX10_make_64 : decode cX10_make 64 = .ok (.aload_n 0, 1) := by decide +kernel
theorem dX10_make_65 : decode cX10_make 65 = .ok (.getfield 10, 3) := by decide +kernel
theorem dX10_make_68 : decode cX10_make 68 = .ok (.getfield 137, 3) := by decide +kernel
theorem dX10_make_71 : decode cX10_make 71 = .ok (.invokevirtual 232, 3) := by decide +kernel
theorem dX10_make_74 : decode cX10_make 74 = .ok (.aload_n 0, 1) := by decide +kernel
theorem dX10_make_75 : decode cX10_make 75 = .ok (.invokevirtual 111, 3) := by decide +kernel
theorem dX10_make_78 : decode cX10_make 78 = .ok (.aload_n 0, 1) := by decide +kernel
theorem dX10_make_79 : decode cX10_make 79 = .ok (.iconst 0, 1) := by decide +kernel
theorem dX10_make_80 : decode cX10_make 80 = .ok (.invokevirtual 114, 3) := by decide +kernel
theorem dX10_make_83 : decode cX10_make 83 = .ok (.ireturn, 1) := by decide +kernel
theorem dX10_send_0 : decode cX10_send 0 = .ok (.aload_n 0, 1) := by decide +kernel
theorem dX10_send_1 : decode cX10_send 1 = .ok (.getfield 10, 3) := by decide +kernel
theorem dX10_send_4 : decode cX10_send 4 = .ok (.iload_n 1, 1) := by decide +kernel
theorem dX10_send_5 : decode cX10_send 5 = .ok (.invokevirtual 134, 3) := by decide +kernel
theorem dX10_send_8 : decode cX10_send 8 = .ok (.ifCond .eq 10, 3) := by decide +kernel
theorem dX10_send_11 : decode cX10_send 11 = .ok (.iload_n 2, 1) := by decide +kernel
theorem dX10_send_12 : decode cX10_send 12 = .ok (.invokestatic 188, 3) := by decide +kernel
theorem dX10_send_15 : decode cX10_send 15 = .ok (.ifCond .ne 9, 3) := by decide +kernel
theorem dX10_send_18 : decode cX10_send 18 = .ok (.aload_n 0, 1) := by decide +kernel
theorem dX10_send_19 : decode cX10_send 19 = .ok (.iconst (-1), 1) := by decide +kernel
theorem dX10_send_20 : decode cX10_send 20 = .ok (.invokevirtual 89, 3) := by decide +kernel
theorem dX10_send_23 : decode cX10_send 23 = .ok (.ireturn, 1) := by decide +kernel
theorem dX10_send_24 : decode cX10_send 24 = .ok (.aload_n 0, 1) := by decide +kernel
theorem dX10_send_25 : decode cX10_send 25 = .ok (.getfield 48, 3) := by decide +kernel
theorem dX10_send_28 : decode cX10_send 28 = .ok (.iload_n 2, 1) := by decide +kernel
theorem dX10_send_29 : decode cX10_send 29 = .ok (.invokevirtual 191, 3) := by decide +kernel
theorem dX10_send_32 : decode cX10_send 32 = .ok (.aload_n 0, 1) := by decide +kernel
theorem dX10_send_33 : decode cX10_send 33 = .ok (.getfield 48, 3) := by decide +kernel
theorem dX10_send_36 : decode cX10_send 36 = .ok (.aload_n 0, 1) := by decide +kernel
theorem dX10_send_37 : decode cX10_send 37 = .ok (.getfield 10, 3) := by decide +kernel
theorem dX10_send_40 : decode cX10_send 40 = .ok (.getfield 236, 3) := by decide +kernel
theorem dX10_send_43 : decode cX10_send 43 = .ok (.iload_n 1, 1) := by decide +kernel
theorem dX10_send_44 : decode cX10_send 44 = .ok (.iload_n 2, 1) := by decide +kernel
theorem dX10_send_45 : decode cX10_send 45 = .ok (.invokevirtual 194, 3) := by decide +kernel
theorem dX10_send_48 : decode cX10_send 48 = .ok (.istore_n 3, 1) := by decide +kernel
theorem dX10_send_49 : decode cX10_send 49 = .ok (.iload_n 3, 1) := by decide +kernel
theorem dX10_send_50 : decode cX10_send 50 = .ok (.iconst (-1), 1) := by decide +kernel
theorem dX10_send_51 : decode cX10_send 51 = .ok (.if_icmp .ne 10, 3) := by decide +kernel
theorem dX10_send_54 : decode cX10_send 54 = .ok (.aload_n 0, 1) := by decide +kernel
theorem dX10_send_55 : decode cX10_send 55 = .ok (.bipush (-3), 2) := by decide +kernel
theorem dX10_send_57 : decode cX10_send 57 = .ok (.invokevirtual 89, 3) := by decide +kernel
theorem dX10_send_60 : decode cX10_send 60 = .ok (.ireturn, 1) := by decide +kernel
theorem dX10_send_61 : decode cX10_send 61 = .ok (.aload_n 0, 1) := by decide +kernel
theorem dX10_send_62 : decode cX10_send 62 = .ok (.getfield 10, 3) := by decide +kernel
theorem dX10_send_65 : decode cX10_send 65 = .ok (.getfield 239, 3) := by decide +kernel
theorem dX10_send_68 : decode cX10_send 68 = .ok (.bipush 24, 2) := by decide +kernel
theorem dX10_send_70 : decode cX10_send 70 = .ok (.if_icmp .lt 10, 3) := by decide +kernel
theorem dX10_send_73 : decode cX10_send 73 = .ok (.aload_n 0, 1) := by decide +kernel
theorem dX10_send_74 : decode cX10_send 74 = .ok (.bipush (-5), 2) := by decide +kernel
theorem dX10_send_76 : decode cX10_send 76 = .ok (.invokevirtual 89, 3) := by decide +kernel
theorem dX10_send_79 : decode cX10_send 79 = .ok (.ireturn, 1) := by decide +kernel
theorem dX10_send_80 : decode cX10_send 80 = .ok (.iload_n 3, 1) := by decide +kernel
theorem dX10_send_81 : decode cX10_send 81 = .ok (.aload_n 0, 1) := by decide +kernel
theorem dX10_send_82 : decode cX10_send 82 = .ok (.getfield 10, 3) := by decide +kernel
theorem dX10_send_85 : decode cX10_send 85 = .ok (.getfield 236, 3) := by decide +kernel
theorem dX10_send_88 : decode cX10_send 88 = .ok (.ixor, 1) := by decide +kernel
theorem dX10_send_89 : decode cX10_send 89 = .ok (.invokestatic 242, 3) := by decide +kernel
theorem dX10_send_92 : decode cX10_send 92 = .ok (.istore 4, 2) := by decide +kernel
theorem dX10_send_94 : decode cX10_send 94 = .ok (.aload_n 0, 1) := by decide +kernel
theorem dX10_send_95 : decode cX10_send 95 = .ok (.getfield 10, 3) := by decide +kernel
theorem dX10_send_98 : decode cX10_send 98 = .ok (.getfield 247, 3) := by decide +kernel
theorem dX10_send_101 : decode cX10_send 101 = .ok (.aload_n 0, 1) := by decide +kernel
theorem dX10_send_102 : decode cX10_send 102 = .ok (.getfield 10, 3) := by decide +kernel
theorem dX10_send_105 : decode cX10_send 105 = .ok (.getfield 239, 3) := by decide +kernel
theorem dX10_send_108 : decode cX10_send 108 = .ok (.iload_n 3, 1) := by decide +kernel
theorem dX10_send_109 : decode cX10_send 109 = .ok (.iastore, 1) := by decide +kernel
theorem dX10_send_110 : decode cX10_send 110 = .ok (.aload_n 0, 1) := by decide +kernel
theorem dX10_send_111 : decode cX10_send 111 = .ok (.getfield 10, 3) := by decide +kernel
theorem dX10_send_114 : decode cX10_send 114 = .ok (.dup, 1) := by decide +kernel
theorem dX10_send_115 : decode cX10_send 115 = .ok (.getfield 239, 3) := by decide +kernel
theorem dX10_send_118 : decode cX10_send 118 = .ok (.iconst 1, 1) := by decide +kernel
theorem dX10_send_119 : decode cX10_send 119 = .ok (.iadd, 1) := by decide +kernel
theorem dX10_send_120 : decode cX10_send 120 = .ok (.putfield 239, 3) := by decide +kernel
theorem dX10_send_123 : decode cX10_send 123 = .ok (.aload_n 0, 1) := by decide +kernel
theorem dX10_send_124 : decode cX10_send 124 = .ok (.getfield 10, 3) := by decide +kernel
theorem dX10_send_127 : decode cX10_send 127 = .ok (.iload_n 3, 1) := by decide +kernel
theorem dX10_send_128 : decode cX10_send 128 = .ok (.putfield 236, 3) := by decide +kernel
theorem dX10_send_131 : decode cX10_send 131 = .ok (.aload_n 0, 1) := by decide +kernel
theorem dX10_send_132 : decode cX10_send 132 = .ok (.iload 4, 2) := by decide +kernel
theorem dX10_send_134 : decode cX10_send 134 = .ok (.invokevirtual 114, 3) := by decide +kernel
theorem dX10_send_137 : decode cX10_send 137 = .ok (.ireturn, 1) := by decide +kernel
theorem dX10_dawn_0 : decode cX10_dawn 0 = .ok (.aload_n 0, 1) := by decide +kernel
theorem dX10_dawn_1 : decode cX10_dawn 1 = .ok (.getfield 10, 3) := by decide +kernel
theorem dX10_dawn_4 : decode cX10_dawn 4 = .ok (.getfield 236, 3) := by decide +kernel
theorem dX10_dawn_7 : decode cX10_dawn 7 = .ok (.invokestatic 242, 3) := by decide +kernel
theorem dX10_dawn_10 : decode cX10_dawn 10 = .ok (.istore_n 1, 1) := by decide +kernel
theorem dX10_dawn_11 : decode cX10_dawn 11 = .ok (.aload_n 0, 1) := by decide +kernel
theorem dX10_dawn_12 : decode cX10_dawn 12 = .ok (.getfield 10, 3) := by decide +kernel
theorem dX10_dawn_15 : decode cX10_dawn 15 = .ok (.iconst 0, 1) := by decide +kernel
theorem dX10_dawn_16 : decode cX10_dawn 16 = .ok (.putfield 236, 3) := by decide +kernel
theorem dX10_dawn_19 : decode cX10_dawn 19 = .ok (.aload_n 0, 1) := by decide +kernel
theorem dX10_dawn_20 : decode cX10_dawn 20 = .ok (.getfield 10, 3) := by decide +kernel
theorem dX10_dawn_23 : decode cX10_dawn 23 = .ok (.iconst 0, 1) := by decide +kernel
theorem dX10_dawn_24 : decode cX10_dawn 24 = .ok (.putfield 239, 3) := by decide +kernel
theorem dX10_dawn_27 : decode cX10_dawn 27 = .ok (.iload_n 1, 1) := by decide +kernel
theorem dX10_dawn_28 : decode cX10_dawn 28 = .ok (.ireturn, 1) := by decide +kernel
theorem dX10_log_0 : decode cX10_log 0 = .ok (.iload_n 1, 1) := by decide +kernel
theorem dX10_log_1 : decode cX10_log 1 = .ok (.iconst (-1), 1) := by decide +kernel
theorem dX10_log_2 : decode cX10_log 2 = .ok (.if_icmp .ne 11, 3) := by decide +kernel
theorem dX10_log_5 : decode cX10_log 5 = .ok (.aload_n 0, 1) := by decide +kernel
theorem dX10_log_6 : decode cX10_log 6 = .ok (.getfield 10, 3) := by decide +kernel
theorem dX10_log_9 : decode cX10_log 9 = .ok (.getfield 236, 3) := by decide +kernel
theorem dX10_log_12 : decode cX10_log 12 = .ok (.ireturn, 1) := by decide +kernel
theorem dX10_log_13 : decode cX10_log 13 = .ok (.iload_n 1, 1) := by decide +kernel
theorem dX10_log_14 : decode cX10_log 14 = .ok (.ifCond .lt 26, 3) := by decide +kernel
theorem dX10_log_17 : decode cX10_log 17 = .ok (.iload_n 1, 1) := by decide +kernel
theorem dX10_log_18 : decode cX10_log 18 = .ok (.aload_n 0, 1) := by decide +kernel
theorem dX10_log_19 : decode cX10_log 19 = .ok (.getfield 10, 3) := by decide +kernel
theorem dX10_log_22 : decode cX10_log 22 = .ok (.getfield 239, 3) := by decide +kernel
theorem dX10_log_25 : decode cX10_log 25 = .ok (.if_icmp .ge 15, 3) := by decide +kernel
theorem dX10_log_28 : decode cX10_log 28 = .ok (.aload_n 0, 1) := by decide +kernel
theorem dX10_log_29 : decode cX10_log 29 = .ok (.getfield 10, 3) := by decide +kernel
theorem dX10_log_32 : decode cX10_log 32 = .ok (.getfield 247, 3) := by decide +kernel
theorem dX10_log_35 : decode cX10_log 35 = .ok (.iload_n 1, 1) := by decide +kernel
theorem dX10_log_36 : decode cX10_log 36 = .ok (.iaload, 1) := by decide +kernel
theorem dX10_log_37 : decode cX10_log 37 = .ok (.goto 4, 3) := by decide +kernel
theorem dX10_log_40 : decode cX10_log 40 = .ok (.iconst (-1), 1) := by decide +kernel
theorem dX10_log_41 : decode cX10_log 41 = .ok (.ireturn, 1) := by decide +kernel
theorem dX10_burnt_0 : decode cX10_burnt 0 = .ok (.aload_n 0, 1) := by decide +kernel
theorem dX10_burnt_1 : decode cX10_burnt 1 = .ok (.getfield 48, 3) := by decide +kernel
theorem dX10_burnt_4 : decode cX10_burnt 4 = .ok (.aload_n 0, 1) := by decide +kernel
theorem dX10_burnt_5 : decode cX10_burnt 5 = .ok (.getfield 10, 3) := by decide +kernel
theorem dX10_burnt_8 : decode cX10_burnt 8 = .ok (.getfield 236, 3) := by decide +kernel
theorem dX10_burnt_11 : decode cX10_burnt 11 = .ok (.invokevirtual 250, 3) := by decide +kernel
theorem dX10_burnt_14 : decode cX10_burnt 14 = .ok (.ireturn, 1) := by decide +kernel
theorem dX10_trail_0 : decode cX10_trail 0 = .ok (.aload_n 0, 1) := by decide +kernel
theorem dX10_trail_1 : decode cX10_trail 1 = .ok (.getfield 23, 3) := by decide +kernel
theorem dX10_trail_4 : decode cX10_trail 4 = .ok (.getfield 148, 3) := by decide +kernel
theorem dX10_trail_7 : decode cX10_trail 7 = .ok (.ifCond .ne 10, 3) := by decide +kernel
theorem dX10_trail_10 : decode cX10_trail 10 = .ok (.aload_n 0, 1) := by decide +kernel
theorem dX10_trail_11 : decode cX10_trail 11 = .ok (.bipush (-6), 2) := by decide +kernel
theorem dX10_trail_13 : decode cX10_trail 13 = .ok (.invokevirtual 89, 3) := by decide +kernel
theorem dX10_trail_16 : decode cX10_trail 16 = .ok (.ireturn, 1) := by decide +kernel
theorem dX10_trail_17 : decode cX10_trail 17 = .ok (.aload_n 0, 1) := by decide +kernel
theorem dX10_trail_18 : decode cX10_trail 18 = .ok (.aload_n 0, 1) := by decide +kernel
theorem dX10_trail_19 : decode cX10_trail 19 = .ok (.getfield 23, 3) := by decide +kernel
theorem dX10_trail_22 : decode cX10_trail 22 = .ok (.getfield 148, 3) := by decide +kernel
theorem dX10_trail_25 : decode cX10_trail 25 = .ok (.bipush 30, 2) := by decide +kernel
theorem dX10_trail_27 : decode cX10_trail 27 = .ok (.invokestatic 253, 3) := by decide +kernel
theorem dX10_trail_30 : decode cX10_trail 30 = .ok (.putfield 256, 3) := by decide +kernel
theorem dX10_trail_33 : decode cX10_trail 33 = .ok (.iconst 0, 1) := by decide +kernel
theorem dX10_trail_34 : decode cX10_trail 34 = .ok (.istore_n 1, 1) := by decide +kernel
theorem dX10_trail_35 : decode cX10_trail 35 = .ok (.iload_n 1, 1) := by decide +kernel
theorem dX10_trail_36 : decode cX10_trail 36 = .ok (.aload_n 0, 1) := by decide +kernel
theorem dX10_trail_37 : decode cX10_trail 37 = .ok (.getfield 256, 3) := by decide +kernel
theorem dX10_trail_40 : decode cX10_trail 40 = .ok (.if_icmp .ge 23, 3) := by decide +kernel
theorem dX10_trail_43 : decode cX10_trail 43 = .ok (.aload_n 0, 1) := by decide +kernel
theorem dX10_trail_44 : decode cX10_trail 44 = .ok (.getfield 75, 3) := by decide +kernel
theorem dX10_trail_47 : decode cX10_trail 47 = .ok (.iload_n 1, 1) := by decide +kernel
theorem dX10_trail_48 : decode cX10_trail 48 = .ok (.aload_n 0, 1) := by decide +kernel
theorem dX10_trail_49 : decode cX10_trail 49 = .ok (.getfield 23, 3) := by decide +kernel
theorem dX10_trail_52 : decode cX10_trail 52 = .ok (.iload_n 1, 1) := by decide +kernel
theorem dX10_trail_53 : decode cX10_trail 53 = .ok (.invokevirtual 155, 3) := by decide +kernel
theorem dX10_trail_56 : decode cX10_trail 56 = .ok (.iastore, 1) := by decide +kernel
theorem dX10_trail_57 : decode cX10_trail 57 = .ok (.iinc 1 1, 3) := by decide +kernel
theorem dX10_trail_60 : decode cX10_trail 60 = .ok (.goto (-25), 3) := by decide +kernel
theorem dX10_trail_63 : decode cX10_trail 63 = .ok (.aload_n 0, 1) := by decide +kernel
theorem dX10_trail_64 : decode cX10_trail 64 = .ok (.getfield 23, 3) := by decide +kernel
theorem dX10_trail_67 : decode cX10_trail 67 = .ok (.iconst 0, 1) := by decide +kernel
theorem dX10_trail_68 : decode cX10_trail 68 = .ok (.putfield 148, 3) := by decide +kernel
theorem dX10_trail_71 : decode cX10_trail 71 = .ok (.aload_n 0, 1) := by decide +kernel
theorem dX10_trail_72 : decode cX10_trail 72 = .ok (.aload_n 0, 1) := by decide +kernel
theorem dX10_trail_73 : decode cX10_trail 73 = .ok (.getfield 256, 3) := by decide +kernel
theorem dX10_trail_76 : decode cX10_trail 76 = .ok (.invokevirtual 114, 3) := by decide +kernel
theorem dX10_trail_79 : decode cX10_trail 79 = .ok (.ireturn, 1) := by decide +kernel
theorem dX10_judge_0 : decode cX10_judge 0 = .ok (.iload_n 1, 1) := by decide +kernel
theorem dX10_judge_1 : decode cX10_judge 1 = .ok (.invokestatic 188, 3) := by decide +kernel
theorem dX10_judge_4 : decode cX10_judge 4 = .ok (.ifCond .ne 5, 3) := by decide +kernel
theorem dX10_judge_7 : decode cX10_judge 7 = .ok (.iconst (-1), 1) := by decide +kernel
theorem dX10_judge_8 : decode cX10_judge 8 = .ok (.ireturn, 1) := by decide +kernel
theorem dX10_judge_9 : decode cX10_judge 9 = .ok (.aload_n 0, 1) := by decide +kernel
theorem dX10_judge_10 : decode cX10_judge 10 = .ok (.getfield 48, 3) := by decide +kernel
theorem dX10_judge_13 : decode cX10_judge 13 = .ok (.iload_n 1, 1) := by decide +kernel
theorem dX10_judge_14 : decode cX10_judge 14 = .ok (.invokevirtual 191, 3) := by decide +kernel
theorem dX10_judge_17 : decode cX10_judge 17 = .ok (.iconst 0, 1) := by decide +kernel
theorem dX10_judge_18 : decode cX10_judge 18 = .ok (.istore_n 2, 1) := by decide +kernel
theorem dX10_judge_19 : decode cX10_judge 19 = .ok (.iconst 0, 1) := by decide +kernel
theorem dX10_judge_20 : decode cX10_judge 20 = .ok (.istore_n 3, 1) := by decide +kernel
theorem dX10_judge_21 : decode cX10_judge 21 = .ok (.iload_n 3, 1) := by decide +kernel
theorem dX10_judge_22 : decode cX10_judge 22 = .ok (.aload_n 0, 1) := by decide +kernel
theorem dX10_judge_23 : decode cX10_judge 23 = .ok (.getfield 256, 3) := by decide +kernel
theorem dX10_judge_26 : decode cX10_judge 26 = .ok (.if_icmp .ge 36, 3) := by decide +kernel
theorem dX10_judge_29 : decode cX10_judge 29 = .ok (.aload_n 0, 1) := by decide +kernel
theorem dX10_judge_30 : decode cX10_judge 30 = .ok (.getfield 75, 3) := by decide +kernel
theorem dX10_judge_33 : decode cX10_judge 33 = .ok (.iload_n 3, 1) := by decide +kernel
theorem dX10_judge_34 : decode cX10_judge 34 = .ok (.iaload, 1) := by decide +kernel
theorem dX10_judge_35 : decode cX10_judge 35 = .ok (.istore 4, 2) := by decide +kernel
theorem dX10_judge_37 : decode cX10_judge 37 = .ok (.aload_n 0, 1) := by decide +kernel
theorem dX10_judge_38 : decode cX10_judge 38 = .ok (.getfield 48, 3) := by decide +kernel
theorem dX10_judge_41 : decode cX10_judge 41 = .ok (.iload_n 2, 1) := by decide +kernel
theorem dX10_judge_42 : decode cX10_judge 42 = .ok (.iload 4, 2) := by decide +kernel
theorem dX10_judge_44 : decode cX10_judge 44 = .ok (.iload_n 1, 1) := by decide +kernel
theorem dX10_judge_45 : decode cX10_judge 45 = .ok (.invokevirtual 259, 3) := by decide +kernel
theorem dX10_judge_48 : decode cX10_judge 48 = .ok (.ifCond .ne 5, 3) := by decide +kernel
theorem dX10_judge_51 : decode cX10_judge 51 = .ok (.iload_n 3, 1) := by decide +kernel
theorem dX10_judge_52 : decode cX10_judge 52 = .ok (.ireturn, 1) := by decide +kernel
theorem dX10_judge_53 : decode cX10_judge 53 = .ok (.iload 4, 2) := by decide +kernel
theorem dX10_judge_55 : decode cX10_judge 55 = .ok (.istore_n 2, 1) := by decide +kernel
theorem dX10_judge_56 : decode cX10_judge 56 = .ok (.iinc 3 1, 3) := by decide +kernel
theorem dX10_judge_59 : decode cX10_judge 59 = .ok (.goto (-38), 3) := by decide +kernel
theorem dX10_judge_62 : decode cX10_judge 62 = .ok (.iconst (-1), 1) := by decide +kernel
theorem dX10_judge_63 : decode cX10_judge 63 = .ok (.ireturn, 1) := by decide +kernel
theorem dX10_rows_0 : decode cX10_rows 0 = .ok (.aload_n 0, 1) := by decide +kernel
theorem dX10_rows_1 : decode cX10_rows 1 = .ok (.iload_n 1, 1) := by decide +kernel
theorem dX10_rows_2 : decode cX10_rows 2 = .ok (.iload_n 2, 1) := by decide +kernel
theorem dX10_rows_3 : decode cX10_rows 3 = .ok (.iload_n 3, 1) := by decide +kernel
theorem dX10_rows_4 : decode cX10_rows 4 = .ok (.invokevirtual 262, 3) := by decide +kernel
theorem dX10_rows_7 : decode cX10_rows 7 = .ok (.ifCond .ne 7, 3) := by decide +kernel
theorem dX10_rows_10 : decode cX10_rows 10 = .ok (.ldc2_w 204, 3) := by decide +kernel
theorem dX10_rows_13 : decode cX10_rows 13 = .ok (.lreturn, 1) := by decide +kernel
theorem dX10_rows_14 : decode cX10_rows 14 = .ok (.aload_n 0, 1) := by decide +kernel
theorem dX10_rows_15 : decode cX10_rows 15 = .ok (.getfield 57, 3) := by decide +kernel
theorem dX10_rows_18 : decode cX10_rows 18 = .ok (.iload_n 1, 1) := by decide +kernel
theorem dX10_rows_19 : decode cX10_rows 19 = .ok (.iload_n 2, 1) := by decide +kernel
theorem dX10_rows_20 : decode cX10_rows 20 = .ok (.iload_n 3, 1) := by decide +kernel
theorem dX10_rows_21 : decode cX10_rows 21 = .ok (.iconst (-1), 1) := by decide +kernel
theorem dX10_rows_22 : decode cX10_rows 22 = .ok (.iconst (-1), 1) := by decide +kernel
theorem dX10_rows_23 : decode cX10_rows 23 = .ok (.invokevirtual 265, 3) := by decide +kernel
theorem dX10_rows_26 : decode cX10_rows 26 = .ok (.lreturn, 1) := by decide +kernel
theorem dX10_could_0 : decode cX10_could 0 = .ok (.aload_n 0, 1) := by decide +kernel
theorem dX10_could_1 : decode cX10_could 1 = .ok (.iload_n 1, 1) := by decide +kernel
theorem dX10_could_2 : decode cX10_could 2 = .ok (.iload_n 2, 1) := by decide +kernel
theorem dX10_could_3 : decode cX10_could 3 = .ok (.iload_n 3, 1) := by decide +kernel
theorem dX10_could_4 : decode cX10_could 4 = .ok (.invokevirtual 262, 3) := by decide +kernel
theorem dX10_could_7 : decode cX10_could 7 = .ok (.ifCond .eq 26, 3) := by decide +kernel
theorem dX10_could_10 : decode cX10_could 10 = .ok (.iload 4, 2) := by decide +kernel
theorem dX10_could_12 : decode cX10_could 12 = .ok (.ifCond .lt 21, 3) := by decide +kernel
theorem dX10_could_15 : decode cX10_could 15 = .ok (.iload 4, 2) := by decide +kernel
theorem dX10_could_17 : decode cX10_could 17 = .ok (.iload_n 1, 1) := by decide +kernel
theorem dX10_could_18 : decode cX10_could 18 = .ok (.if_icmp .ge 15, 3) := by decide +kernel
theorem dX10_could_21 : decode cX10_could 21 = .ok (.aload_n 0, 1) := by decide +kernel
theorem dX10_could_22 : decode cX10_could 22 = .ok (.getfield 10, 3) := by decide +kernel
theorem dX10_could_25 : decode cX10_could 25 = .ok (.iload 5, 2) := by decide +kernel
theorem dX10_could_27 : decode cX10_could 27 = .ok (.invokevirtual 134, 3) := by decide +kernel
theorem dX10_could_30 : decode cX10_could 30 = .ok (.ifCond .ne 7, 3) := by decide +kernel
theorem dX10_could_33 : decode cX10_could 33 = .ok (.ldc2_w 204, 3) := by decide +kernel
theorem dX10_could_36 : decode cX10_could 36 = .ok (.lreturn, 1) := by decide +kernel
theorem dX10_could_37 : decode cX10_could 37 = .ok (.aload_n 0, 1) := by decide +kernel
theorem dX10_could_38 : decode cX10_could 38 = .ok (.getfield 57, 3) := by decide +kernel
theorem dX10_could_41 : decode cX10_could 41 = .ok (.iload_n 1, 1) := by decide +kernel
theorem dX10_could_42 : decode cX10_could 42 = .ok (.iload_n 2, 1) := by decide +kernel
theorem dX10_could_43 : decode cX10_could 43 = .ok (.iload_n 3, 1) := by decide +kernel
theorem dX10_could_44 : decode cX10_could 44 = .ok (.iload 4, 2) := by decide +kernel
theorem dX10_could_46 : decode cX10_could 46 = .ok (.iload 5, 2) := by decide +kernel
theorem dX10_could_48 : decode cX10_could 48 = .ok (.invokevirtual 265, 3) := by decide +kernel
theorem dX10_could_51 : decode cX10_could 51 = .ok (.lreturn, 1) := by decide +kernel
theorem dX10_maybe_0 : decode cX10_maybe 0 = .ok (.aload_n 0, 1) := by decide +kernel
theorem dX10_maybe_1 : decode cX10_maybe 1 = .ok (.getfield 10, 3) := by decide +kernel
theorem dX10_maybe_4 : decode cX10_maybe 4 = .ok (.iload_n 1, 1) := by decide +kernel
theorem dX10_maybe_5 : decode cX10_maybe 5 = .ok (.invokevirtual 131, 3) := by decide +kernel
theorem dX10_maybe_8 : decode cX10_maybe 8 = .ok (.ifCond .eq 13, 3) := by decide +kernel
theorem dX10_maybe_11 : decode cX10_maybe 11 = .ok (.iload_n 2, 1) := by decide +kernel
theorem dX10_maybe_12 : decode cX10_maybe 12 = .ok (.ifCond .lt 9, 3) := by decide +kernel
theorem dX10_maybe_15 : decode cX10_maybe 15 = .ok (.iload_n 2, 1) := by decide +kernel
theorem dX10_maybe_16 : decode cX10_maybe 16 = .ok (.bipush 8, 2) := by decide +kernel
theorem dX10_maybe_18 : decode cX10_maybe 18 = .ok (.if_icmp .le 5, 3) := by decide +kernel
theorem dX10_maybe_21 : decode cX10_maybe 21 = .ok (.iconst (-1), 1) := by decide +kernel
theorem dX10_maybe_22 : decode cX10_maybe 22 = .ok (.ireturn, 1) := by decide +kernel
theorem dX10_maybe_23 : decode cX10_maybe 23 = .ok (.iconst 0, 1) := by decide +kernel
theorem dX10_maybe_24 : decode cX10_maybe 24 = .ok (.istore_n 3, 1) := by decide +kernel
theorem dX10_maybe_25 : decode cX10_maybe 25 = .ok (.aload_n 0, 1) := by decide +kernel
theorem dX10_maybe_26 : decode cX10_maybe 26 = .ok (.getfield 10, 3) := by decide +kernel
theorem dX10_maybe_29 : decode cX10_maybe 29 = .ok (.invokevirtual 151, 3) := by decide +kernel
theorem dX10_maybe_32 : decode cX10_maybe 32 = .ok (.istore 4, 2) := by decide +kernel
theorem dX10_maybe_34 : decode cX10_maybe 34 = .ok (.iload_n 1, 1) := by decide +kernel
theorem dX10_maybe_35 : decode cX10_maybe 35 = .ok (.istore 5, 2) := by decide +kernel
theorem dX10_maybe_37 : decode cX10_maybe 37 = .ok (.iload 5, 2) := by decide +kernel
theorem dX10_maybe_39 : decode cX10_maybe 39 = .ok (.iload 4, 2) := by decide +kernel
theorem dX10_maybe_41 : decode cX10_maybe 41 = .ok (.if_icmp .gt 37, 3) := by decide +kernel
theorem dX10_maybe_44 : decode cX10_maybe 44 = .ok (.iload 5, 2) := by decide +kernel
theorem dX10_maybe_46 : decode cX10_maybe 46 = .ok (.iload_n 1, 1) := by decide +kernel
theorem dX10_maybe_47 : decode cX10_maybe 47 = .ok (.ixor, 1) := by decide +kernel
theorem dX10_maybe_48 : decode cX10_maybe 48 = .ok (.invokestatic 242, 3) := by decide +kernel
theorem dX10_maybe_51 : decode cX10_maybe 51 = .ok (.iload_n 2, 1) := by decide +kernel
theorem dX10_maybe_52 : decode cX10_maybe 52 = .ok (.if_icmp .gt 15, 3) := by decide +kernel
theorem dX10_maybe_55 : decode cX10_maybe 55 = .ok (.iload_n 3, 1) := by decide +kernel
theorem dX10_maybe_56 : decode cX10_maybe 56 = .ok (.aload_n 0, 1) := by decide +kernel
theorem dX10_maybe_57 : decode cX10_maybe 57 = .ok (.getfield 10, 3) := by decide +kernel
theorem dX10_maybe_60 : decode cX10_maybe 60 = .ok (.iload 5, 2) := by decide +kernel
theorem dX10_maybe_62 : decode cX10_maybe 62 = .ok (.invokevirtual 269, 3) := by decide +kernel
theorem dX10_maybe_65 : decode cX10_maybe 65 = .ok (.ior, 1) := by decide +kernel
theorem dX10_maybe_66 : decode cX10_maybe 66 = .ok (.istore_n 3, 1) := by decide +kernel
theorem dX10_maybe_67 : decode cX10_maybe 67 = .ok (.iload 5, 2) := by decide +kernel
theorem dX10_maybe_69 : decode cX10_maybe 69 = .ok (.iconst 1, 1) := by decide +kernel
theorem dX10_maybe_70 : decode cX10_maybe 70 = .ok (.iadd, 1) := by decide +kernel
theorem dX10_maybe_71 : decode cX10_maybe 71 = .ok (.iload_n 1, 1) := by decide +kernel
theorem dX10_maybe_72 : decode cX10_maybe 72 = .ok (.ior, 1) := by decide +kernel
theorem dX10_maybe_73 : decode cX10_maybe 73 = .ok (.istore 5, 2) := by decide +kernel
theorem dX10_maybe_75 : decode cX10_maybe 75 = .ok (.goto (-38), 3) := by decide +kernel
theorem dX10_maybe_78 : decode cX10_maybe 78 = .ok (.iload_n 3, 1) := by decide +kernel
theorem dX10_maybe_79 : decode cX10_maybe 79 = .ok (.ireturn, 1) := by decide +kernel
theorem dX10_safe_0 : decode cX10_safe 0 = .ok (.aload_n 0, 1) := by decide +kernel
theorem dX10_safe_1 : decode cX10_safe 1 = .ok (.getfield 48, 3) := by decide +kernel
theorem dX10_safe_4 : decode cX10_safe 4 = .ok (.invokevirtual 272, 3) := by decide +kernel
theorem dX10_safe_7 : decode cX10_safe 7 = .ok (.ireturn, 1) := by decide +kernel
theorem dX10_spy_0 : decode cX10_spy 0 = .ok (.iload_n 1, 1) := by decide +kernel
theorem dX10_spy_1 : decode cX10_spy 1 = .ok (.ifCond .lt 14, 3) := by decide +kernel
theorem dX10_spy_4 : decode cX10_spy 4 = .ok (.iload_n 1, 1) := by decide +kernel
theorem dX10_spy_5 : decode cX10_spy 5 = .ok (.aload_n 0, 1) := by decide +kernel
theorem dX10_spy_6 : decode cX10_spy 6 = .ok (.getfield 10, 3) := by decide +kernel
theorem dX10_spy_9 : decode cX10_spy 9 = .ok (.getfield 93, 3) := by decide +kernel
theorem dX10_spy_12 : decode cX10_spy 12 = .ok (.if_icmp .le 5, 3) := by decide +kernel
theorem dX10_spy_15 : decode cX10_spy 15 = .ok (.iconst (-1), 1) := by decide +kernel
theorem dX10_spy_16 : decode cX10_spy 16 = .ok (.ireturn, 1) := by decide +kernel
theorem dX10_spy_17 : decode cX10_spy 17 = .ok (.iconst 0, 1) := by decide +kernel
theorem dX10_spy_18 : decode cX10_spy 18 = .ok (.istore_n 2, 1) := by decide +kernel
theorem dX10_spy_19 : decode cX10_spy 19 = .ok (.aload_n 0, 1) := by decide +kernel
theorem dX10_spy_20 : decode cX10_spy 20 = .ok (.getfield 10, 3) := by decide +kernel
theorem dX10_spy_23 : decode cX10_spy 23 = .ok (.invokevirtual 151, 3) := by decide +kernel
theorem dX10_spy_26 : decode cX10_spy 26 = .ok (.istore_n 3, 1) := by decide +kernel
theorem dX10_spy_27 : decode cX10_spy 27 = .ok (.iconst 0, 1) := by decide +kernel
theorem dX10_spy_28 : decode cX10_spy 28 = .ok (.istore 4, 2) := by decide +kernel
theorem dX10_spy_30 : decode cX10_spy 30 = .ok (.iload 4, 2) := by decide +kernel
theorem dX10_spy_32 : decode cX10_spy 32 = .ok (.iload_n 3, 1) := by decide +kernel
theorem dX10_spy_33 : decode cX10_spy 33 = .ok (.if_icmp .gt 30, 3) := by decide +kernel
theorem dX10_spy_36 : decode cX10_spy 36 = .ok (.iload 4, 2) := by decide +kernel
theorem dX10_spy_38 : decode cX10_spy 38 = .ok (.invokestatic 242, 3) := by decide +kernel
theorem dX10_spy_41 : decode cX10_spy 41 = .ok (.iload_n 1, 1) := by decide +kernel
theorem dX10_spy_42 : decode cX10_spy 42 = .ok (.if_icmp .ne 15, 3) := by decide +kernel
theorem dX10_spy_45 : decode cX10_spy 45 = .ok (.iload_n 2, 1) := by decide +kernel
theorem dX10_spy_46 : decode cX10_spy 46 = .ok (.aload_n 0, 1) := by decide +kernel
theorem dX10_spy_47 : decode cX10_spy 47 = .ok (.getfield 10, 3) := by decide +kernel
theorem dX10_spy_50 : decode cX10_spy 50 = .ok (.iload 4, 2) := by decide +kernel
theorem dX10_spy_52 : decode cX10_spy 52 = .ok (.invokevirtual 269, 3) := by decide +kernel
theorem dX10_spy_55 : decode cX10_spy 55 = .ok (.ior, 1) := by decide +kernel
theorem dX10_spy_56 : decode cX10_spy 56 = .ok (.istore_n 2, 1) := by decide +kernel
theorem dX10_spy_57 : decode cX10_spy 57 = .ok (.iinc 4 1, 3) := by decide +kernel
theorem dX10_spy_60 : decode cX10_spy 60 = .ok (.goto (-30), 3) := by decide +kernel
theorem dX10_spy_63 : decode cX10_spy 63 = .ok (.iload_n 2, 1) := by decide +kernel
theorem dX10_spy_64 : decode cX10_spy 64 = .ok (.ireturn, 1) := by decide +kernel
theorem dX10_want_0 : decode cX10_want 0 = .ok (.aload_n 0, 1) := by decide +kernel
theorem dX10_want_1 : decode cX10_want 1 = .ok (.getfield 10, 3) := by decide +kernel
theorem dX10_want_4 : decode cX10_want 4 = .ok (.iload_n 1, 1) := by decide +kernel
theorem dX10_want_5 : decode cX10_want 5 = .ok (.invokevirtual 134, 3) := by decide +kernel
theorem dX10_want_8 : decode cX10_want 8 = .ok (.ifCond .ne 9, 3) := by decide +kernel
theorem dX10_want_11 : decode cX10_want 11 = .ok (.aload_n 0, 1) := by decide +kernel
theorem dX10_want_12 : decode cX10_want 12 = .ok (.iconst (-1), 1) := by decide +kernel
theorem dX10_want_13 : decode cX10_want 13 = .ok (.invokevirtual 89, 3) := by decide +kernel
theorem dX10_want_16 : decode cX10_want 16 = .ok (.ireturn, 1) := by decide +kernel
theorem dX10_want_17 : decode cX10_want 17 = .ok (.aload_n 0, 1) := by decide +kernel
theorem dX10_want_18 : decode cX10_want 18 = .ok (.getfield 10, 3) := by decide +kernel
theorem dX10_want_21 : decode cX10_want 21 = .ok (.getfield 275, 3) := by decide +kernel
theorem dX10_want_24 : decode cX10_want 24 = .ok (.bipush 16, 2) := by decide +kernel
theorem dX10_want_26 : decode cX10_want 26 = .ok (.if_icmp .lt 10, 3) := by decide +kernel
theorem dX10_want_29 : decode cX10_want 29 = .ok (.aload_n 0, 1) := by decide +kernel
theorem dX10_want_30 : decode cX10_want 30 = .ok (.bipush (-5), 2) := by decide +kernel
theorem dX10_want_32 : decode cX10_want 32 = .ok (.invokevirtual 89, 3) := by decide +kernel
theorem dX10_want_35 : decode cX10_want 35 = .ok (.ireturn, 1) := by decide +kernel
theorem dX10_want_36 : decode cX10_want 36 = .ok (.aload_n 0, 1) := by decide +kernel
theorem dX10_want_37 : decode cX10_want 37 = .ok (.getfield 10, 3) := by decide +kernel
theorem dX10_want_40 : decode cX10_want 40 = .ok (.getfield 278, 3) := by decide +kernel
theorem dX10_want_43 : decode cX10_want 43 = .ok (.aload_n 0, 1) := by decide +kernel
theorem dX10_want_44 : decode cX10_want 44 = .ok (.getfield 10, 3) := by decide +kernel
theorem dX10_want_47 : decode cX10_want 47 = .ok (.getfield 275, 3) := by decide +kernel
theorem dX10_want_50 : decode cX10_want 50 = .ok (.iload_n 1, 1) := by decide +kernel
theorem dX10_want_51 : decode cX10_want 51 = .ok (.iastore, 1) := by decide +kernel
theorem dX10_want_52 : decode cX10_want 52 = .ok (.aload_n 0, 1) := by decide +kernel
theorem dX10_want_53 : decode cX10_want 53 = .ok (.getfield 10, 3) := by decide +kernel
theorem dX10_want_56 : decode cX10_want 56 = .ok (.dup, 1) := by decide +kernel
theorem dX10_want_57 : decode cX10_want 57 = .ok (.getfield 275, 3) := by decide +kernel
theorem dX10_want_60 : decode cX10_want 60 = .ok (.iconst 1, 1) := by decide +kernel
theorem dX10_want_61 : decode cX10_want 61 = .ok (.iadd, 1) := by decide +kernel
theorem dX10_want_62 : decode cX10_want 62 = .ok (.putfield 275, 3) := by decide +kernel
theorem dX10_want_65 : decode cX10_want 65 = .ok (.aload_n 0, 1) := by decide +kernel
theorem dX10_want_66 : decode cX10_want 66 = .ok (.getfield 64, 3) := by decide +kernel
theorem dX10_want_69 : decode cX10_want 69 = .ok (.iconst 0, 1) := by decide +kernel
theorem dX10_want_70 : decode cX10_want 70 = .ok (.putfield 128, 3) := by decide +kernel
theorem dX10_want_73 : decode cX10_want 73 = .ok (.aload_n 0, 1) := by decide +kernel
theorem dX10_want_74 : decode cX10_want 74 = .ok (.aload_n 0, 1) := by decide +kernel
theorem dX10_want_75 : decode cX10_want 75 = .ok (.getfield 10, 3) := by decide +kernel
theorem dX10_want_78 : decode cX10_want 78 = .ok (.getfield 275, 3) := by decide +kernel
theorem dX10_want_81 : decode cX10_want 81 = .ok (.invokevirtual 114, 3) := by decide +kernel
theorem dX10_want_84 : decode cX10_want 84 = .ok (.ireturn, 1) := by decide +kernel
theorem dX10_unwant_0 : decode cX10_unwant 0 = .ok (.aload_n 0, 1) := by decide +kernel
theorem dX10_unwant_1 : decode cX10_unwant 1 = .ok (.getfield 10, 3) := by decide +kernel
theorem dX10_unwant_4 : decode cX10_unwant 4 = .ok (.getfield 275, 3) := by decide +kernel
theorem dX10_unwant_7 : decode cX10_unwant 7 = .ok (.istore_n 1, 1) := by decide +kernel
theorem dX10_unwant_8 : decode cX10_unwant 8 = .ok (.aload_n 0, 1) := by decide +kernel
theorem dX10_unwant_9 : decode cX10_unwant 9 = .ok (.getfield 10, 3) := by decide +kernel
theorem dX10_unwant_12 : decode cX10_unwant 12 = .ok (.iconst 0, 1) := by decide +kernel
theorem dX10_unwant_13 : decode cX10_unwant 13 = .ok (.putfield 275, 3) := by decide +kernel
theorem dX10_unwant_16 : decode cX10_unwant 16 = .ok (.aload_n 0, 1) := by decide +kernel
theorem dX10_unwant_17 : decode cX10_unwant 17 = .ok (.getfield 64, 3) := by decide +kernel
theorem dX10_unwant_20 : decode cX10_unwant 20 = .ok (.iconst 0, 1) := by decide +kernel
theorem dX10_unwant_21 : decode cX10_unwant 21 = .ok (.putfield 128, 3) := by decide +kernel
theorem dX10_unwant_24 : decode cX10_unwant 24 = .ok (.iload_n 1, 1) := by decide +kernel
theorem dX10_unwant_25 : decode cX10_unwant 25 = .ok (.ireturn, 1) := by decide +kernel
theorem dX10_cheap_0 : decode cX10_cheap 0 = .ok (.iload_n 1, 1) := by decide +kernel
theorem dX10_cheap_1 : decode cX10_cheap 1 = .ok (.ifCond .lt 8, 3) := by decide +kernel
theorem dX10_cheap_4 : decode cX10_cheap 4 = .ok (.iload_n 1, 1) := by decide +kernel
theorem dX10_cheap_5 : decode cX10_cheap 5 = .ok (.iconst 1, 1) := by decide +kernel
theorem dX10_cheap_6 : decode cX10_cheap 6 = .ok (.if_icmp .le 5, 3) := by decide +kernel
theorem dX10_cheap_9 : decode cX10_cheap 9 = .ok (.iconst (-1), 1) := by decide +kernel
theorem dX10_cheap_10 : decode cX10_cheap 10 = .ok (.ireturn, 1) := by decide +kernel
theorem dX10_cheap_11 : decode cX10_cheap 11 = .ok (.aload_n 0, 1) := by decide +kernel
theorem dX10_cheap_12 : decode cX10_cheap 12 = .ok (.getfield 64, 3) := by decide +kernel
theorem dX10_cheap_15 : decode cX10_cheap 15 = .ok (.invokevirtual 281, 3) := by decide +kernel
theorem dX10_cheap_18 : decode cX10_cheap 18 = .ok (.iload_n 1, 1) := by decide +kernel
theorem dX10_cheap_19 : decode cX10_cheap 19 = .ok (.ifCond .ne 13, 3) := by decide +kernel
theorem dX10_cheap_22 : decode cX10_cheap 22 = .ok (.aload_n 0, 1) := by decide +kernel
theorem dX10_cheap_23 : decode cX10_cheap 23 = .ok (.getfield 64, 3) := by decide +kernel
theorem dX10_cheap_26 : decode cX10_cheap 26 = .ok (.getfield 284, 3) := by decide +kernel
theorem dX10_cheap_29 : decode cX10_cheap 29 = .ok (.goto 10, 3) := by decide +kernel
theorem dX10_cheap_32 : decode cX10_cheap 32 = .ok (.aload_n 0, 1) := by decide +kernel
theorem dX10_cheap_33 : decode cX10_cheap 33 = .ok (.getfield 64, 3) := by decide +kernel
theorem dX10_cheap_36 : decode cX10_cheap 36 = .ok (.getfield 287, 3) := by decide +kernel
theorem dX10_cheap_39 : decode cX10_cheap 39 = .ok (.ireturn, 1) := by decide +kernel
theorem dX10_plan_0 : decode cX10_plan 0 = .ok (.iload_n 1, 1) := by decide +kernel
theorem dX10_plan_1 : decode cX10_plan 1 = .ok (.ifCond .lt 14, 3) := by decide +kernel
theorem dX10_plan_4 : decode cX10_plan 4 = .ok (.iload_n 1, 1) := by decide +kernel
theorem dX10_plan_5 : decode cX10_plan 5 = .ok (.aload_n 0, 1) := by decide +kernel
theorem dX10_plan_6 : decode cX10_plan 6 = .ok (.getfield 10, 3) := by decide +kernel
theorem dX10_plan_9 : decode cX10_plan 9 = .ok (.getfield 275, 3) := by decide +kernel
theorem dX10_plan_12 : decode cX10_plan 12 = .ok (.if_icmp .lt 5, 3) := by decide +kernel
theorem dX10_plan_15 : decode cX10_plan 15 = .ok (.iconst (-1), 1) := by decide +kernel
theorem dX10_plan_16 : decode cX10_plan 16 = .ok (.ireturn, 1) := by decide +kernel
theorem dX10_plan_17 : decode cX10_plan 17 = .ok (.aload_n 0, 1) := by decide +kernel
theorem dX10_plan_18 : decode cX10_plan 18 = .ok (.getfield 64, 3) := by decide +kernel
theorem dX10_plan_21 : decode cX10_plan 21 = .ok (.invokevirtual 281, 3) := by decide +kernel
theorem dX10_plan_24 : decode cX10_plan 24 = .ok (.aload_n 0, 1) := by decide +kernel
theorem dX10_plan_25 : decode cX10_plan 25 = .ok (.getfield 64, 3) := by decide +kernel
theorem dX10_plan_28 : decode cX10_plan 28 = .ok (.getfield 284, 3) := by decide +kernel
theorem dX10_plan_31 : decode cX10_plan 31 = .ok (.iconst (-1), 1) := by decide +kernel
theorem dX10_plan_32 : decode cX10_plan 32 = .ok (.if_icmp .ne 7, 3) := by decide +kernel
theorem dX10_plan_35 : decode cX10_plan 35 = .ok (.iconst (-1), 1) := by decide +kernel
theorem dX10_plan_36 : decode cX10_plan 36 = .ok (.goto 12, 3) := by decide +kernel
theorem dX10_plan_39 : decode cX10_plan 39 = .ok (.aload_n 0, 1) := by decide +kernel
theorem dX10_plan_40 : decode cX10_plan 40 = .ok (.getfield 64, 3) := by decide +kernel
theorem dX10_plan_43 : decode cX10_plan 43 = .ok (.getfield 290, 3) := by decide +kernel
theorem dX10_plan_46 : decode cX10_plan 46 = .ok (.iload_n 1, 1) := by decide +kernel
theorem dX10_plan_47 : decode cX10_plan 47 = .ok (.iaload, 1) := by decide +kernel
theorem dX10_plan_48 : decode cX10_plan 48 = .ok (.ireturn, 1) := by decide +kernel
theorem dX10_night_0 : decode cX10_night 0 = .ok (.iload_n 1, 1) := by decide +kernel
theorem dX10_night_1 : decode cX10_night 1 = .ok (.ifCond .lt 27, 3) := by decide +kernel
theorem dX10_night_4 : decode cX10_night 4 = .ok (.iload_n 1, 1) := by decide +kernel
theorem dX10_night_5 : decode cX10_night 5 = .ok (.ldc_w 293, 3) := by decide +kernel
theorem dX10_night_8 : decode cX10_night 8 = .ok (.if_icmp .gt 20, 3) := by decide +kernel
theorem dX10_night_11 : decode cX10_night 11 = .ok (.iload_n 2, 1) := by decide +kernel
theorem dX10_night_12 : decode cX10_night 12 = .ok (.ifCond .lt 16, 3) := by decide +kernel
theorem dX10_night_15 : decode cX10_night 15 = .ok (.iload_n 2, 1) := by decide +kernel
theorem dX10_night_16 : decode cX10_night 16 = .ok (.bipush 24, 2) := by decide +kernel
theorem dX10_night_18 : decode cX10_night 18 = .ok (.if_icmp .gt 10, 3) := by decide +kernel
theorem dX10_night_21 : decode cX10_night 21 = .ok (.iload_n 3, 1) := by decide +kernel
theorem dX10_night_22 : decode cX10_night 22 = .ok (.invokestatic 188, 3) := by decide +kernel
theorem dX10_night_25 : decode cX10_night 25 = .ok (.ifCond .ne 9, 3) := by decide +kernel
theorem dX10_night_28 : decode cX10_night 28 = .ok (.aload_n 0, 1) := by decide +kernel
theorem dX10_night_29 : decode cX10_night 29 = .ok (.iconst (-1), 1) := by decide +kernel
theorem dX10_night_30 : decode cX10_night 30 = .ok (.invokevirtual 89, 3) := by decide +kernel
theorem dX10_night_33 : decode cX10_night 33 = .ok (.ireturn, 1) := by decide +kernel
theorem dX10_night_34 : decode cX10_night 34 = .ok (.aload_n 0, 1) := by decide +kernel
theorem dX10_night_35 : decode cX10_night 35 = .ok (.iload_n 1, 1) := by decide +kernel
theorem dX10_night_36 : decode cX10_night 36 = .ok (.iload_n 2, 1) := by decide +kernel
theorem dX10_night_37 : decode cX10_night 37 = .ok (.iload_n 3, 1) := by decide +kernel
theorem dX10_night_38 : decode cX10_night 38 = .ok (.invokevirtual 294, 3) := by decide +kernel
theorem dX10_night_41 : decode cX10_night 41 = .ok (.aload_n 0, 1) := by decide +kernel
theorem dX10_night_42 : decode cX10_night 42 = .ok (.aload_n 0, 1) := by decide +kernel
theorem dX10_night_43 : decode cX10_night 43 = .ok (.getfield 298, 3) := by decide +kernel
theorem dX10_night_46 : decode cX10_night 46 = .ok (.invokevirtual 114, 3) := by decide +kernel
theorem dX10_night_49 : decode cX10_night 49 = .ok (.ireturn, 1) := by decide +kernel
theorem dX10_drawn_0 : decode cX10_drawn 0 = .ok (.iload_n 1, 1) := by decide +kernel
theorem dX10_drawn_1 : decode cX10_drawn 1 = .ok (.iconst (-1), 1) := by decide +kernel
theorem dX10_drawn_2 : decode cX10_drawn 2 = .ok (.if_icmp .ne 8, 3) := by decide +kernel
theorem dX10_drawn_5 : decode cX10_drawn 5 = .ok (.aload_n 0, 1) := by decide +kernel
theorem dX10_drawn_6 : decode cX10_drawn 6 = .ok (.getfield 85, 3) := by decide +kernel
theorem dX10_drawn_9 : decode cX10_drawn 9 = .ok (.ireturn, 1) := by decide +kernel
theorem dX10_drawn_10 : decode cX10_drawn 10 = .ok (.iload_n 1, 1) := by decide +kernel
theorem dX10_drawn_11 : decode cX10_drawn 11 = .ok (.ifCond .lt 20, 3) := by decide +kernel
theorem dX10_drawn_14 : decode cX10_drawn 14 = .ok (.iload_n 1, 1) := by decide +kernel
theorem dX10_drawn_15 : decode cX10_drawn 15 = .ok (.aload_n 0, 1) := by decide +kernel
theorem dX10_drawn_16 : decode cX10_drawn 16 = .ok (.getfield 298, 3) := by decide +kernel
theorem dX10_drawn_19 : decode cX10_drawn 19 = .ok (.if_icmp .ge 12, 3) := by decide +kernel
theorem dX10_drawn_22 : decode cX10_drawn 22 = .ok (.aload_n 0, 1) := by decide +kernel
theorem dX10_drawn_23 : decode cX10_drawn 23 = .ok (.getfield 79, 3) := by decide +kernel
theorem dX10_drawn_26 : decode cX10_drawn 26 = .ok (.iload_n 1, 1) := by decide +kernel
theorem dX10_drawn_27 : decode cX10_drawn 27 = .ok (.iaload, 1) := by decide +kernel
theorem dX10_drawn_28 : decode cX10_drawn 28 = .ok (.goto 4, 3) := by decide +kernel
theorem dX10_drawn_31 : decode cX10_drawn 31 = .ok (.iconst (-1), 1) := by decide +kernel
theorem dX10_drawn_32 : decode cX10_drawn 32 = .ok (.ireturn, 1) := by decide +kernel
theorem dX10_image_0 : decode cX10_image 0 = .ok (.iload_n 1, 1) := by decide +kernel
theorem dX10_image_1 : decode cX10_image 1 = .ok (.ifCond .lt 8, 3) := by decide +kernel
theorem dX10_image_4 : decode cX10_image 4 = .ok (.iload_n 1, 1) := by decide +kernel
theorem dX10_image_5 : decode cX10_image 5 = .ok (.iconst 2, 1) := by decide +kernel
theorem dX10_image_6 : decode cX10_image 6 = .ok (.if_icmp .lt 9, 3) := by decide +kernel
theorem dX10_image_9 : decode cX10_image 9 = .ok (.aload_n 0, 1) := by decide +kernel
theorem dX10_image_10 : decode cX10_image 10 = .ok (.iconst (-1), 1) := by decide +kernel
theorem dX10_image_11 : decode cX10_image 11 = .ok (.invokevirtual 89, 3) := by decide +kernel
theorem dX10_image_14 : decode cX10_image 14 = .ok (.ireturn, 1) := by decide +kernel
theorem dX10_image_15 : decode cX10_image 15 = .ok (.aload_n 0, 1) := by decide +kernel
theorem dX10_image_16 : decode cX10_image 16 = .ok (.getfield 16, 3) := by decide +kernel
theorem dX10_image_19 : decode cX10_image 19 = .ok (.iload_n 1, 1) := by decide +kernel
theorem dX10_image_20 : decode cX10_image 20 = .ok (.aaload, 1) := by decide +kernel
theorem dX10_image_21 : decode cX10_image 21 = .ok (.astore_n 2, 1) := by decide +kernel
theorem dX10_image_22 : decode cX10_image 22 = .ok (.aload_n 2, 1) := by decide +kernel
theorem dX10_image_23 : decode cX10_image 23 = .ok (.ifnonnull 18, 3) := by decide +kernel
theorem dX10_image_26 : decode cX10_image 26 = .ok (.new 7, 3) := by decide +kernel
theorem dX10_image_29 : decode cX10_image 29 = .ok (.dup, 1) := by decide +kernel
theorem dX10_image_30 : decode cX10_image 30 = .ok (.invokespecial 9, 3) := by decide +kernel
theorem dX10_image_33 : decode cX10_image 33 = .ok (.astore_n 2, 1) := by decide +kernel
theorem dX10_image_34 : decode cX10_image 34 = .ok (.aload_n 0, 1) := by decide +kernel
theorem dX10_image_35 : decode cX10_image 35 = .ok (.getfield 16, 3) := by decide +kernel
theorem dX10_image_38 : decode cX10_image 38 = .ok (.iload_n 1, 1) := by decide +kernel
theorem dX10_image_39 : decode cX10_image 39 = .ok (.aload_n 2, 1) := by decide +kernel
theorem dX10_image_40 : decode cX10_image 40 = .ok (.aastore, 1) := by decide +kernel
theorem dX10_image_41 : decode cX10_image 41 = .ok (.aload_n 2, 1) := by decide +kernel
theorem dX10_image_42 : decode cX10_image 42 = .ok (.aload_n 0, 1) := by decide +kernel
theorem dX10_image_43 : decode cX10_image 43 = .ok (.getfield 10, 3) := by decide +kernel
theorem dX10_image_46 : decode cX10_image 46 = .ok (.invokevirtual 301, 3) := by decide +kernel
theorem dX10_image_49 : decode cX10_image 49 = .ok (.aload_n 0, 1) := by decide +kernel
theorem dX10_image_50 : decode cX10_image 50 = .ok (.iconst 0, 1) := by decide +kernel
theorem dX10_image_51 : decode cX10_image 51 = .ok (.invokevirtual 114, 3) := by decide +kernel
theorem dX10_image_54 : decode cX10_image 54 = .ok (.ireturn, 1) := by decide +kernel
theorem dX10_back_0 : decode cX10_back 0 = .ok (.iload_n 1, 1) := by decide +kernel
theorem dX10_back_1 : decode cX10_back 1 = .ok (.ifCond .lt 8, 3) := by decide +kernel
theorem dX10_back_4 : decode cX10_back 4 = .ok (.iload_n 1, 1) := by decide +kernel
theorem dX10_back_5 : decode cX10_back 5 = .ok (.iconst 2, 1) := by decide +kernel
theorem dX10_back_6 : decode cX10_back 6 = .ok (.if_icmp .lt 9, 3) := by decide +kernel
theorem dX10_back_9 : decode cX10_back 9 = .ok (.aload_n 0, 1) := by decide +kernel
theorem dX10_back_10 : decode cX10_back 10 = .ok (.iconst (-1), 1) := by decide +kernel
theorem dX10_back_11 : decode cX10_back 11 = .ok (.invokevirtual 89, 3) := by decide +kernel
theorem dX10_back_14 : decode cX10_back 14 = .ok (.ireturn, 1) := by decide +kernel
theorem dX10_back_15 : decode cX10_back 15 = .ok (.aload_n 0, 1) := by decide +kernel
theorem dX10_back_16 : decode cX10_back 16 = .ok (.getfield 16, 3) := by decide +kernel
theorem dX10_back_19 : decode cX10_back 19 = .ok (.iload_n 1, 1) := by decide +kernel
theorem dX10_back_20 : decode cX10_back 20 = .ok (.aaload, 1) := by decide +kernel
theorem dX10_back_21 : decode cX10_back 21 = .ok (.astore_n 2, 1) := by decide +kernel
theorem dX10_back_22 : decode cX10_back 22 = .ok (.aload_n 2, 1) := by decide +kernel
theorem dX10_back_23 : decode cX10_back 23 = .ok (.ifnonnull 10, 3) := by decide +kernel
theorem dX10_back_26 : decode cX10_back 26 = .ok (.aload_n 0, 1) := by decide +kernel
theorem dX10_back_27 : decode cX10_back 27 = .ok (.bipush (-2), 2) := by decide +kernel
theorem dX10_back_29 : decode cX10_back 29 = .ok (.invokevirtual 89, 3) := by decide +kernel
theorem dX10_back_32 : decode cX10_back 32 = .ok (.ireturn, 1) := by decide +kernel
theorem dX10_back_33 : decode cX10_back 33 = .ok (.aload_n 0, 1) := by decide +kernel
theorem dX10_back_34 : decode cX10_back 34 = .ok (.getfield 10, 3) := by decide +kernel
theorem dX10_back_37 : decode cX10_back 37 = .ok (.aload_n 2, 1) := by decide +kernel
theorem dX10_back_38 : decode cX10_back 38 = .ok (.invokevirtual 301, 3) := by decide +kernel
theorem dX10_back_41 : decode cX10_back 41 = .ok (.aload_n 0, 1) := by decide +kernel
theorem dX10_back_42 : decode cX10_back 42 = .ok (.invokevirtual 111, 3) := by decide +kernel
theorem dX10_back_45 : decode cX10_back 45 = .ok (.aload_n 0, 1) := by decide +kernel
theorem dX10_back_46 : decode cX10_back 46 = .ok (.iconst 0, 1) := by decide +kernel
theorem dX10_back_47 : decode cX10_back 47 = .ok (.invokevirtual 114, 3) := by decide +kernel
theorem dX10_back_50 : decode cX10_back 50 = .ok (.ireturn, 1) := by decide +kernel
theorem dX10_count_0 : decode cX10_count 0 = .ok (.iload_n 1, 1) := by decide +kernel
theorem dX10_count_1 : decode cX10_count 1 = .ok (.tableswitch 164 0 12 #[67, 75, 83, 91, 99, 107, 115, 123, 130, 137, 144, 151, 159], 67) := by decide +kernel
theorem dX10_count_68 : decode cX10_count 68 = .ok (.aload_n 0, 1) := by decide +kernel
theorem dX10_count_69 : decode cX10_count 69 = .ok (.getfield 10, 3) := by decide +kernel
theorem dX10_count_72 : decode cX10_count 72 = .ok (.getfield 93, 3) := by decide +kernel
theorem dX10_count_75 : decode cX10_count 75 = .ok (.ireturn, 1) := by decide +kernel
theorem dX10_count_76 : decode cX10_count 76 = .ok (.aload_n 0, 1) := by decide +kernel
theorem dX10_count_77 : decode cX10_count 77 = .ok (.getfield 10, 3) := by decide +kernel
theorem dX10_count_80 : decode cX10_count 80 = .ok (.getfield 117, 3) := by decide +kernel
theorem dX10_count_83 : decode cX10_count 83 = .ok (.ireturn, 1) := by decide +kernel
theorem dX10_count_84 : decode cX10_count 84 = .ok (.aload_n 0, 1) := by decide +kernel
theorem dX10_count_85 : decode cX10_count 85 = .ok (.getfield 10, 3) := by decide +kernel
theorem dX10_count_88 : decode cX10_count 88 = .ok (.getfield 170, 3) := by decide +kernel
theorem dX10_count_91 : decode cX10_count 91 = .ok (.ireturn, 1) := by decide +kernel
theorem dX10_count_92 : decode cX10_count 92 = .ok (.aload_n 0, 1) := by decide +kernel
theorem dX10_count_93 : decode cX10_count 93 = .ok (.getfield 10, 3) := by decide +kernel
theorem dX10_count_96 : decode cX10_count 96 = .ok (.invokevirtual 167, 3) := by decide +kernel
theorem dX10_count_99 : decode cX10_count 99 = .ok (.ireturn, 1) := by decide +kernel
theorem dX10_count_100 : decode cX10_count 100 = .ok (.aload_n 0, 1) := by decide +kernel
theorem dX10_count_101 : decode cX10_count 101 = .ok (.getfield 10, 3) := by decide +kernel
theorem dX10_count_104 : decode cX10_count 104 = .ok (.getfield 239, 3) := by decide +kernel
theorem dX10_count_107 : decode cX10_count 107 = .ok (.ireturn, 1) := by decide +kernel
theorem dX10_count_108 : decode cX10_count 108 = .ok (.aload_n 0, 1) := by decide +kernel
theorem dX10_count_109 : decode cX10_count 109 = .ok (.getfield 10, 3) := by decide +kernel
theorem dX10_count_112 : decode cX10_count 112 = .ok (.getfield 275, 3) := by decide +kernel
theorem dX10_count_115 : decode cX10_count 115 = .ok (.ireturn, 1) := by decide +kernel
theorem dX10_count_116 : decode cX10_count 116 = .ok (.aload_n 0, 1) := by decide +kernel
theorem dX10_count_117 : decode cX10_count 117 = .ok (.getfield 23, 3) := by decide +kernel
theorem dX10_count_120 : decode cX10_count 120 = .ok (.getfield 148, 3) := by decide +kernel
theorem dX10_count_123 : decode cX10_count 123 = .ok (.ireturn, 1) := by decide +kernel
theorem dX10_count_124 : decode cX10_count 124 = .ok (.aload_n 0, 1) := by decide +kernel
theorem dX10_count_125 : decode cX10_count 125 = .ok (.getfield 82, 3) := by decide +kernel
theorem dX10_count_128 : decode cX10_count 128 = .ok (.iconst 1, 1) := by decide +kernel
theorem dX10_count_129 : decode cX10_count 129 = .ok (.iaload, 1) := by decide +kernel
theorem dX10_count_130 : decode cX10_count 130 = .ok (.ireturn, 1) := by decide +kernel
theorem dX10_count_131 : decode cX10_count 131 = .ok (.aload_n 0, 1) := by decide +kernel
theorem dX10_count_132 : decode cX10_count 132 = .ok (.getfield 82, 3) := by decide +kernel
theorem dX10_count_135 : decode cX10_count 135 = .ok (.iconst 2, 1) := by decide +kernel
theorem dX10_count_136 : decode cX10_count 136 = .ok (.iaload, 1) := by decide +kernel
theorem dX10_count_137 : decode cX10_count 137 = .ok (.ireturn, 1) := by decide +kernel
theorem dX10_count_138 : decode cX10_count 138 = .ok (.aload_n 0, 1) := by decide +kernel
theorem dX10_count_139 : decode cX10_count 139 = .ok (.getfield 82, 3) := by decide +kernel
theorem dX10_count_142 : decode cX10_count 142 = .ok (.iconst 3, 1) := by decide +kernel
theorem dX10_count_143 : decode cX10_count 143 = .ok (.iaload, 1) := by decide +kernel
theorem dX10_count_144 : decode cX10_count 144 = .ok (.ireturn, 1) := by decide +kernel
theorem dX10_count_145 : decode cX10_count 145 = .ok (.aload_n 0, 1) := by decide +kernel
theorem dX10_count_146 : decode cX10_count 146 = .ok (.getfield 82, 3) := by decide +kernel
theorem dX10_count_149 : decode cX10_count 149 = .ok (.iconst 5, 1) := by decide +kernel
theorem dX10_count_150 : decode cX10_count 150 = .ok (.iaload, 1) := by decide +kernel
theorem dX10_count_151 : decode cX10_count 151 = .ok (.ireturn, 1) := by decide +kernel
theorem dX10_count_152 : decode cX10_count 152 = .ok (.aload_n 0, 1) := by decide +kernel
theorem dX10_count_153 : decode cX10_count 153 = .ok (.getfield 82, 3) := by decide +kernel
theorem dX10_count_156 : decode cX10_count 156 = .ok (.bipush 6, 2) := by decide +kernel
theorem dX10_count_158 : decode cX10_count 158 = .ok (.iaload, 1) := by decide +kernel
theorem dX10_count_159 : decode cX10_count 159 = .ok (.ireturn, 1) := by decide +kernel
theorem dX10_count_160 : decode cX10_count 160 = .ok (.aload_n 0, 1) := by decide +kernel
theorem dX10_count_161 : decode cX10_count 161 = .ok (.getfield 256, 3) := by decide +kernel
theorem dX10_count_164 : decode cX10_count 164 = .ok (.ireturn, 1) := by decide +kernel
theorem dX10_count_165 : decode cX10_count 165 = .ok (.iconst (-1), 1) := by decide +kernel
theorem dX10_count_166 : decode cX10_count 166 = .ok (.ireturn, 1) := by decide +kernel
theorem dX10_status_0 : decode cX10_status 0 = .ok (.aload_n 0, 1) := by decide +kernel
theorem dX10_status_1 : decode cX10_status 1 = .ok (.getfield 304, 3) := by decide +kernel
theorem dX10_status_4 : decode cX10_status 4 = .ok (.ireturn, 1) := by decide +kernel
theorem dX10_refuse_0 : decode cX10_refuse 0 = .ok (.aload_n 0, 1) := by decide +kernel
theorem dX10_refuse_1 : decode cX10_refuse 1 = .ok (.iload_n 1, 1) := by decide +kernel
theorem dX10_refuse_2 : decode cX10_refuse 2 = .ok (.putfield 304, 3) := by decide +kernel
theorem dX10_refuse_5 : decode cX10_refuse 5 = .ok (.iload_n 1, 1) := by decide +kernel
theorem dX10_refuse_6 : decode cX10_refuse 6 = .ok (.ifCond .ge 24, 3) := by decide +kernel
theorem dX10_refuse_9 : decode cX10_refuse 9 = .ok (.iload_n 1, 1) := by decide +kernel
theorem dX10_refuse_10 : decode cX10_refuse 10 = .ok (.ineg, 1) := by decide +kernel
theorem dX10_refuse_11 : decode cX10_refuse 11 = .ok (.aload_n 0, 1) := by decide +kernel
theorem dX10_refuse_12 : decode cX10_refuse 12 = .ok (.getfield 82, 3) := by decide +kernel
theorem dX10_refuse_15 : decode cX10_refuse 15 = .ok (.arraylength, 1) := by decide +kernel
theorem dX10_refuse_16 : decode cX10_refuse 16 = .ok (.if_icmp .ge 14, 3) := by decide +kernel
theorem dX10_refuse_19 : decode cX10_refuse 19 = .ok (.aload_n 0, 1) := by decide +kernel
theorem dX10_refuse_20 : decode cX10_refuse 20 = .ok (.getfield 82, 3) := by decide +kernel
theorem dX10_refuse_23 : decode cX10_refuse 23 = .ok (.iload_n 1, 1) := by decide +kernel
theorem dX10_refuse_24 : decode cX10_refuse 24 = .ok (.ineg, 1) := by decide +kernel
theorem dX10_refuse_25 : decode cX10_refuse 25 = .ok (.dup2, 1) := by decide +kernel
theorem dX10_refuse_26 : decode cX10_refuse 26 = .ok (.iaload, 1) := by decide +kernel
theorem dX10_refuse_27 : decode cX10_refuse 27 = .ok (.iconst 1, 1) := by decide +kernel
theorem dX10_refuse_28 : decode cX10_refuse 28 = .ok (.iadd, 1) := by decide +kernel
theorem dX10_refuse_29 : decode cX10_refuse 29 = .ok (.iastore, 1) := by decide +kernel
theorem dX10_refuse_30 : decode cX10_refuse 30 = .ok (.iload_n 1, 1) := by decide +kernel
theorem dX10_refuse_31 : decode cX10_refuse 31 = .ok (.ireturn, 1) := by decide +kernel
theorem dX10_accept_0 : decode cX10_accept 0 = .ok (.aload_n 0, 1) := by decide +kernel
theorem dX10_accept_1 : decode cX10_accept 1 = .ok (.iconst 0, 1) := by decide +kernel
theorem dX10_accept_2 : decode cX10_accept 2 = .ok (.putfield 304, 3) := by decide +kernel
theorem dX10_accept_5 : decode cX10_accept 5 = .ok (.iload_n 1, 1) := by decide +kernel
theorem dX10_accept_6 : decode cX10_accept 6 = .ok (.ireturn, 1) := by decide +kernel
theorem dX10_codeChanged_0 : decode cX10_codeChanged 0 = .ok (.aload_n 0, 1) := by decide +kernel
theorem dX10_codeChanged_1 : decode cX10_codeChanged 1 = .ok (.getfield 48, 3) := by decide +kernel
theorem dX10_codeChanged_4 : decode cX10_codeChanged 4 = .ok (.invokevirtual 307, 3) := by decide +kernel
theorem dX10_codeChanged_7 : decode cX10_codeChanged 7 = .ok (.aload_n 0, 1) := by decide +kernel
theorem dX10_codeChanged_8 : decode cX10_codeChanged 8 = .ok (.getfield 64, 3) := by decide +kernel
theorem dX10_codeChanged_11 : decode cX10_codeChanged 11 = .ok (.iconst 0, 1) := by decide +kernel
theorem dX10_codeChanged_12 : decode cX10_codeChanged 12 = .ok (.putfield 128, 3) := by decide +kernel
theorem dX10_codeChanged_15 : decode cX10_codeChanged 15 = .ok (.return_, 1) := by decide +kernel
theorem dX10_isManner_0 : decode cX10_isManner 0 = .ok (.iload_n 0, 1) := by decide +kernel
theorem dX10_isManner_1 : decode cX10_isManner 1 = .ok (.ifCond .lt 12, 3) := by decide +kernel
theorem dX10_isManner_4 : decode cX10_isManner 4 = .ok (.iload_n 0, 1) := by decide +kernel
theorem dX10_isManner_5 : decode cX10_isManner 5 = .ok (.iconst 3, 1) := by decide +kernel
theorem dX10_isManner_6 : decode cX10_isManner 6 = .ok (.if_icmp .gt 7, 3) := by decide +kernel
theorem dX10_isManner_9 : decode cX10_isManner 9 = .ok (.iconst 1, 1) := by decide +kernel
theorem dX10_isManner_10 : decode cX10_isManner 10 = .ok (.goto 4, 3) := by decide +kernel
theorem dX10_isManner_13 : decode cX10_isManner 13 = .ok (.iconst 0, 1) := by decide +kernel
theorem dX10_isManner_14 : decode cX10_isManner 14 = .ok (.ireturn, 1) := by decide +kernel
theorem dX10_isRowTo_0 : decode cX10_isRowTo 0 = .ok (.iload_n 1, 1) := by decide +kernel
theorem dX10_isRowTo_1 : decode cX10_isRowTo 1 = .ok (.ifCond .lt 31, 3) := by decide +kernel
theorem dX10_isRowTo_4 : decode cX10_isRowTo 4 = .ok (.iload_n 1, 1) := by decide +kernel
theorem dX10_isRowTo_5 : decode cX10_isRowTo 5 = .ok (.bipush 8, 2) := by decide +kernel
theorem dX10_isRowTo_7 : decode cX10_isRowTo 7 = .ok (.if_icmp .gt 25, 3) := by decide +kernel
theorem dX10_isRowTo_10 : decode cX10_isRowTo 10 = .ok (.aload_n 0, 1) := by decide +kernel
theorem dX10_isRowTo_11 : decode cX10_isRowTo 11 = .ok (.getfield 10, 3) := by decide +kernel
theorem dX10_isRowTo_14 : decode cX10_isRowTo 14 = .ok (.iload_n 2, 1) := by decide +kernel
theorem dX10_isRowTo_15 : decode cX10_isRowTo 15 = .ok (.invokevirtual 131, 3) := by decide +kernel
theorem dX10_isRowTo_18 : decode cX10_isRowTo 18 = .ok (.ifCond .eq 14, 3) := by decide +kernel
theorem dX10_isRowTo_21 : decode cX10_isRowTo 21 = .ok (.iload_n 3, 1) := by decide +kernel
theorem dX10_isRowTo_22 : decode cX10_isRowTo 22 = .ok (.invokestatic 188, 3) := by decide +kernel
theorem dX10_isRowTo_25 : decode cX10_isRowTo 25 = .ok (.ifCond .eq 7, 3) := by decide +kernel
theorem dX10_isRowTo_28 : decode cX10_isRowTo 28 = .ok (.iconst 1, 1) := by decide +kernel
theorem dX10_isRowTo_29 : decode cX10_isRowTo 29 = .ok (.goto 4, 3) := by decide +kernel
theorem dX10_isRowTo_32 : decode cX10_isRowTo 32 = .ok (.iconst 0, 1) := by decide +kernel
theorem dX10_isRowTo_33 : decode cX10_isRowTo 33 = .ok (.ireturn, 1) := by decide +kernel
theorem dX10_drawNight_0 : decode cX10_drawNight 0 = .ok (.aload_n 0, 1) := by decide +kernel
theorem dX10_drawNight_1 : decode cX10_drawNight 1 = .ok (.getfield 48, 3) := by decide +kernel
theorem dX10_drawNight_4 : decode cX10_drawNight 4 = .ok (.iload_n 3, 1) := by decide +kernel
theorem dX10_drawNight_5 : decode cX10_drawNight 5 = .ok (.invokevirtual 191, 3) := by decide +kernel
theorem dX10_drawNight_8 : decode cX10_drawNight 8 = .ok (.iload_n 1, 1) := by decide +kernel
theorem dX10_drawNight_9 : decode cX10_drawNight 9 = .ok (.i2l, 1) := by decide +kernel
theorem dX10_drawNight_10 : decode cX10_drawNight 10 = .ok (.lstore 4, 2) := by decide +kernel
theorem dX10_drawNight_12 : decode cX10_drawNight 12 = .ok (.iconst 0, 1) := by decide +kernel
theorem dX10_drawNight_13 : decode cX10_drawNight 13 = .ok (.istore 6, 2) := by decide +kernel
theorem dX10_drawNight_15 : decode cX10_drawNight 15 = .ok (.aload_n 0, 1) := by decide +kernel
theorem dX10_drawNight_16 : decode cX10_drawNight 16 = .ok (.iconst 0, 1) := by decide +kernel
theorem dX10_drawNight_17 : decode cX10_drawNight 17 = .ok (.putfield 298, 3) := by decide +kernel
theorem dX10_drawNight_20 : decode cX10_drawNight 20 = .ok (.aload_n 0, 1) := by decide +kernel
theorem dX10_drawNight_21 : decode cX10_drawNight 21 = .ok (.iconst (-1), 1) := by decide +kernel
theorem dX10_drawNight_22 : decode cX10_drawNight 22 = .ok (.putfield 85, 3) := by decide +kernel
theorem dX10_drawNight_25 : decode cX10_drawNight 25 = .ok (.iconst 0, 1) := by decide +kernel
theorem dX10_drawNight_26 : decode cX10_drawNight 26 = .ok (.istore 7, 2) := by decide +kernel
theorem dX10_drawNight_28 : decode cX10_drawNight 28 = .ok (.iload 7, 2) := by decide +kernel
theorem dX10_drawNight_30 : decode cX10_drawNight 30 = .ok (.iload_n 2, 1) := by decide +kernel
theorem dX10_drawNight_31 : decode cX10_drawNight 31 = .ok (.if_icmp .ge 101, 3) := by decide +kernel
theorem dX10_drawNight_34 : decode cX10_drawNight 34 = .ok (.aload_n 0, 1) := by decide +kernel
theorem dX10_drawNight_35 : decode cX10_drawNight 35 = .ok (.getfield 85, 3) := by decide +kernel
theorem dX10_drawNight_38 : decode cX10_drawNight 38 = .ok (.iconst (-1), 1) := by decide +kernel
theorem dX10_drawNight_39 : decode cX10_drawNight 39 = .ok (.if_icmp .ne 93, 3) := by decide +kernel
theorem dX10_drawNight_42 : decode cX10_drawNight 42 = .ok (.lload 4, 2) := by decide +kernel
theorem dX10_drawNight_44 : decode cX10_drawNight 44 = .ok (.ldc2_w 310, 3) := by decide +kernel
theorem dX10_drawNight_47 : decode cX10_drawNight 47 = .ok (.lmul, 1) := by decide +kernel
theorem dX10_drawNight_48 : decode cX10_drawNight 48 = .ok (.ldc2_w 312, 3) := by decide +kernel
theorem dX10_drawNight_51 : decode cX10_drawNight 51 = .ok (.ladd, 1) := by decide +kernel
theorem dX10_drawNight_52 : decode cX10_drawNight 52 = .ok (.ldc2_w 314, 3) := by decide +kernel
theorem dX10_drawNight_55 : decode cX10_drawNight 55 = .ok (.lrem, 1) := by decide +kernel
theorem dX10_drawNight_56 : decode cX10_drawNight 56 = .ok (.lstore 4, 2) := by decide +kernel
theorem dX10_drawNight_58 : decode cX10_drawNight 58 = .ok (.lload 4, 2) := by decide +kernel
theorem dX10_drawNight_60 : decode cX10_drawNight 60 = .ok (.iconst 1, 1) := by decide +kernel
theorem dX10_drawNight_61 : decode cX10_drawNight 61 = .ok (.aload_n 0, 1) := by decide +kernel
theorem dX10_drawNight_62 : decode cX10_drawNight 62 = .ok (.getfield 10, 3) := by decide +kernel
theorem dX10_drawNight_65 : decode cX10_drawNight 65 = .ok (.getfield 117, 3) := by decide +kernel
theorem dX10_drawNight_68 : decode cX10_drawNight 68 = .ok (.invokestatic 158, 3) := by decide +kernel
theorem dX10_drawNight_71 : decode cX10_drawNight 71 = .ok (.i2l, 1) := by decide +kernel
theorem dX10_drawNight_72 : decode cX10_drawNight 72 = .ok (.lrem, 1) := by decide +kernel
theorem dX10_drawNight_73 : decode cX10_drawNight 73 = .ok (.l2i, 1) := by decide +kernel
theorem dX10_drawNight_74 : decode cX10_drawNight 74 = .ok (.istore 8, 2) := by decide +kernel
theorem dX10_drawNight_76 : decode cX10_drawNight 76 = .ok (.aload_n 0, 1) := by decide +kernel
theorem dX10_drawNight_77 : decode cX10_drawNight 77 = .ok (.getfield 48, 3) := by decide +kernel
theorem dX10_drawNight_80 : decode cX10_drawNight 80 = .ok (.iload 6, 2) := by decide +kernel
theorem dX10_drawNight_82 : decode cX10_drawNight 82 = .ok (.iload 8, 2) := by decide +kernel
theorem dX10_drawNight_84 : decode cX10_drawNight 84 = .ok (.iload_n 3, 1) := by decide +kernel
theorem dX10_drawNight_85 : decode cX10_drawNight 85 = .ok (.invokevirtual 194, 3) := by decide +kernel
theorem dX10_drawNight_88 : decode cX10_drawNight 88 = .ok (.istore 9, 2) := by decide +kernel
theorem dX10_drawNight_90 : decode cX10_drawNight 90 = .ok (.iload 9, 2) := by decide +kernel
theorem dX10_drawNight_92 : decode cX10_drawNight 92 = .ok (.iconst (-1), 1) := by decide +kernel
theorem dX10_drawNight_93 : decode cX10_drawNight 93 = .ok (.if_icmp .ne 12, 3) := by decide +kernel
theorem dX10_drawNight_96 : decode cX10_drawNight 96 = .ok (.aload_n 0, 1) := by decide +kernel
theorem dX10_drawNight_97 : decode cX10_drawNight 97 = .ok (.iload 8, 2) := by decide +kernel
theorem dX10_drawNight_99 : decode cX10_drawNight 99 = .ok (.putfield 85, 3) := by decide +kernel
theorem dX10_drawNight_102 : decode cX10_drawNight 102 = .ok (.goto 24, 3) := by decide +kernel
theorem dX10_drawNight_105 : decode cX10_drawNight 105 = .ok (.aload_n 0, 1) := by decide +kernel
theorem dX10_drawNight_106 : decode cX10_drawNight 106 = .ok (.getfield 79, 3) := by decide +kernel
theorem dX10_drawNight_109 : decode cX10_drawNight 109 = .ok (.iload 7, 2) := by decide +kernel
theorem dX10_drawNight_111 : decode cX10_drawNight 111 = .ok (.iload 9, 2) := by decide +kernel
theorem dX10_drawNight_113 : decode cX10_drawNight 113 = .ok (.iastore, 1) := by decide +kernel
theorem dX10_drawNight_114 : decode cX10_drawNight 114 = .ok (.aload_n 0, 1) := by decide +kernel
theorem dX10_drawNight_115 : decode cX10_drawNight 115 = .ok (.iload 7, 2) := by decide +kernel
theorem dX10_drawNight_117 : decode cX10_drawNight 117 = .ok (.iconst 1, 1) := by decide +kernel
theorem dX10_drawNight_118 : decode cX10_drawNight 118 = .ok (.iadd, 1) := by decide +kernel
theorem dX10_drawNight_119 : decode cX10_drawNight 119 = .ok (.putfield 298, 3) := by decide +kernel
theorem dX10_drawNight_122 : decode cX10_drawNight 122 = .ok (.iload 9, 2) := by decide +kernel
theorem dX10_drawNight_124 : decode cX10_drawNight 124 = .ok (.istore 6, 2) := by decide +kernel
theorem dX10_drawNight_126 : decode cX10_drawNight 126 = .ok (.iinc 7 1, 3) := by decide +kernel
theorem dX10_drawNight_129 : decode cX10_drawNight 129 = .ok (.goto (-101), 3) := by decide +kernel
theorem dX10_drawNight_132 : decode cX10_drawNight 132 = .ok (.return_, 1) := by decide +kernel
theorem dX11_lies_0 : decode cX11_lies 0 = .ok (.iload_n 0, 1) := by decide +kernel
theorem dX11_lies_1 : decode cX11_lies 1 = .ok (.iload_n 1, 1) := by decide +kernel
theorem dX11_lies_2 : decode cX11_lies 2 = .ok (.if_icmp .lt 12, 3) := by decide +kernel
theorem dX11_lies_5 : decode cX11_lies 5 = .ok (.iload_n 0, 1) := by decide +kernel
theorem dX11_lies_6 : decode cX11_lies 6 = .ok (.iload_n 2, 1) := by decide +kernel
theorem dX11_lies_7 : decode cX11_lies 7 = .ok (.if_icmp .gt 7, 3) := by decide +kernel
theorem dX11_lies_10 : decode cX11_lies 10 = .ok (.iconst 1, 1) := by decide +kernel
theorem dX11_lies_11 : decode cX11_lies 11 = .ok (.goto 4, 3) := by decide +kernel
theorem dX11_lies_14 : decode cX11_lies 14 = .ok (.iconst 0, 1) := by decide +kernel
theorem dX11_lies_15 : decode cX11_lies 15 = .ok (.ireturn, 1) := by decide +kernel
theorem dX11_refuses_0 : decode cX11_refuses 0 = .ok (.aload_n 0, 1) := by decide +kernel
theorem dX11_refuses_1 : decode cX11_refuses 1 = .ok (.iload_n 1, 1) := by decide +kernel
theorem dX11_refuses_2 : decode cX11_refuses 2 = .ok (.putfield 3, 3) := by decide +kernel
theorem dX11_refuses_5 : decode cX11_refuses 5 = .ok (.aload_n 0, 1) := by decide +kernel
theorem dX11_refuses_6 : decode cX11_refuses 6 = .ok (.getfield 7, 3) := by decide +kernel
theorem dX11_refuses_9 : decode cX11_refuses 9 = .ok (.iload_n 1, 1) := by decide +kernel
theorem dX11_refuses_10 : decode cX11_refuses 10 = .ok (.ineg, 1) := by decide +kernel
theorem dX11_refuses_11 : decode cX11_refuses 11 = .ok (.dup2, 1) := by decide +kernel
theorem dX11_refuses_12 : decode cX11_refuses 12 = .ok (.iaload, 1) := by decide +kernel
theorem dX11_refuses_13 : decode cX11_refuses 13 = .ok (.iconst 1, 1) := by decide +kernel
theorem dX11_refuses_14 : decode cX11_refuses 14 = .ok (.iadd, 1) := by decide +kernel
theorem dX11_refuses_15 : decode cX11_refuses 15 = .ok (.iastore, 1) := by decide +kernel
theorem dX11_refuses_16 : decode cX11_refuses 16 = .ok (.iload_n 1, 1) := by decide +kernel
theorem dX11_refuses_17 : decode cX11_refuses 17 = .ok (.ireturn, 1) := by decide +kernel
theorem dX11_good_0 : decode cX11_good 0 = .ok (.aload_n 0, 1) := by decide +kernel
theorem dX11_good_1 : decode cX11_good 1 = .ok (.iconst 0, 1) := by decide +kernel
theorem dX11_good_2 : decode cX11_good 2 = .ok (.putfield 3, 3) := by decide +kernel
theorem dX11_good_5 : decode cX11_good 5 = .ok (.aload_n 0, 1) := by decide +kernel
theorem dX11_good_6 : decode cX11_good 6 = .ok (.dup, 1) := by decide +kernel
theorem dX11_good_7 : decode cX11_good 7 = .ok (.getfield 11, 3) := by decide +kernel
theorem dX11_good_10 : decode cX11_good 10 = .ok (.iconst 1, 1) := by decide +kernel
theorem dX11_good_11 : decode cX11_good 11 = .ok (.iadd, 1) := by decide +kernel
theorem dX11_good_12 : decode cX11_good 12 = .ok (.putfield 11, 3) := by decide +kernel
theorem dX11_good_15 : decode cX11_good 15 = .ok (.iload_n 1, 1) := by decide +kernel
theorem dX11_good_16 : decode cX11_good 16 = .ok (.ireturn, 1) := by decide +kernel
theorem dX11_ones_0 : decode cX11_ones 0 = .ok (.iconst 0, 1) := by decide +kernel
theorem dX11_ones_1 : decode cX11_ones 1 = .ok (.istore_n 1, 1) := by decide +kernel
theorem dX11_ones_2 : decode cX11_ones 2 = .ok (.iconst 0, 1) := by decide +kernel
theorem dX11_ones_3 : decode cX11_ones 3 = .ok (.istore_n 2, 1) := by decide +kernel
theorem dX11_ones_4 : decode cX11_ones 4 = .ok (.iload_n 2, 1) := by decide +kernel
theorem dX11_ones_5 : decode cX11_ones 5 = .ok (.bipush 16, 2) := by decide +kernel
theorem dX11_ones_7 : decode cX11_ones 7 = .ok (.if_icmp .ge 17, 3) := by decide +kernel
theorem dX11_ones_10 : decode cX11_ones 10 = .ok (.iload_n 1, 1) := by decide +kernel
theorem dX11_ones_11 : decode cX11_ones 11 = .ok (.iload_n 0, 1) := by decide +kernel
theorem dX11_ones_12 : decode cX11_ones 12 = .ok (.iload_n 2, 1) := by decide +kernel
theorem dX11_ones_13 : decode cX11_ones 13 = .ok (.ishr, 1) := by decide +kernel
theorem dX11_ones_14 : decode cX11_ones 14 = .ok (.iconst 1, 1) := by decide +kernel
theorem dX11_ones_15 : decode cX11_ones 15 = .ok (.iand, 1) := by decide +kernel
theorem dX11_ones_16 : decode cX11_ones 16 = .ok (.iadd, 1) := by decide +kernel
theorem dX11_ones_17 : decode cX11_ones 17 = .ok (.istore_n 1, 1) := by decide +kernel
theorem dX11_ones_18 : decode cX11_ones 18 = .ok (.iinc 2 1, 3) := by decide +kernel
theorem dX11_ones_21 : decode cX11_ones 21 = .ok (.goto (-17), 3) := by decide +kernel
theorem dX11_ones_24 : decode cX11_ones 24 = .ok (.iload_n 1, 1) := by decide +kernel
theorem dX11_ones_25 : decode cX11_ones 25 = .ok (.ireturn, 1) := by decide +kernel
theorem dX11_greater_0 : decode cX11_greater 0 = .ok (.iload_n 0, 1) := by decide +kernel
theorem dX11_greater_1 : decode cX11_greater 1 = .ok (.iload_n 1, 1) := by decide +kernel
theorem dX11_greater_2 : decode cX11_greater 2 = .ok (.if_icmp .le 7, 3) := by decide +kernel
theorem dX11_greater_5 : decode cX11_greater 5 = .ok (.iload_n 0, 1) := by decide +kernel
theorem dX11_greater_6 : decode cX11_greater 6 = .ok (.goto 4, 3) := by decide +kernel
theorem dX11_greater_9 : decode cX11_greater 9 = .ok (.iload_n 1, 1) := by decide +kernel
theorem dX11_greater_10 : decode cX11_greater 10 = .ok (.ireturn, 1) := by decide +kernel
theorem dX11_init_0 : decode cX11_init 0 = .ok (.aload_n 0, 1) := by decide +kernel
theorem dX11_init_1 : decode cX11_init 1 = .ok (.invokespecial 14, 3) := by decide +kernel
theorem dX11_init_4 : decode cX11_init 4 = .ok (.aload_n 0, 1) := by decide +kernel
theorem dX11_init_5 : decode cX11_init 5 = .ok (.bipush 7, 2) := by decide +kernel
theorem dX11_init_7 : decode cX11_init 7 = .ok (.newarray .int, 2) := by decide +kernel
theorem dX11_init_9 : decode cX11_init 9 = .ok (.putfield 7, 3) := by decide +kernel
theorem dX11_init_12 : decode cX11_init 12 = .ok (.aload_n 0, 1) := by decide +kernel
theorem dX11_init_13 : decode cX11_init 13 = .ok (.sipush 5117, 3) := by decide +kernel
theorem dX11_init_16 : decode cX11_init 16 = .ok (.newarray .int, 2) := by decide +kernel
theorem dX11_init_18 : decode cX11_init 18 = .ok (.putfield 20, 3) := by decide +kernel
theorem dX11_init_21 : decode cX11_init 21 = .ok (.aload_n 0, 1) := by decide +kernel
theorem dX11_init_22 : decode cX11_init 22 = .ok (.sipush 10234, 3) := by decide +kernel
theorem dX11_init_25 : decode cX11_init 25 = .ok (.newarray .int, 2) := by decide +kernel
theorem dX11_init_27 : decode cX11_init 27 = .ok (.putfield 23, 3) := by decide +kernel
theorem dX11_init_30 : decode cX11_init 30 = .ok (.aload_n 0, 1) := by decide +kernel
theorem dX11_init_31 : decode cX11_init 31 = .ok (.iconst 2, 1) := by decide +kernel
theorem dX11_init_32 : decode cX11_init 32 = .ok (.newarray .boolean, 2) := by decide +kernel
theorem dX11_init_34 : decode cX11_init 34 = .ok (.putfield 26, 3) := by decide +kernel
theorem dX11_init_37 : decode cX11_init 37 = .ok (.aload_n 0, 1) := by decide +kernel
theorem dX11_init_38 : decode cX11_init 38 = .ok (.bipush 60, 2) := by decide +kernel
theorem dX11_init_40 : decode cX11_init 40 = .ok (.newarray .byte, 2) := by decide +kernel
theorem dX11_init_42 : decode cX11_init 42 = .ok (.dup, 1) := by decide +kernel
theorem dX11_init_43 : decode cX11_init 43 = .ok (.iconst 0, 1) := by decide +kernel
theorem dX11_init_44 : decode cX11_init 44 = .ok (.bipush 114, 2) := by decide +kernel
theorem dX11_init_46 : decode cX11_init 46 = .ok (.bastore, 1) := by decide +kernel
theorem dX11_init_47 : decode cX11_init 47 = .ok (.dup, 1) := by decide +kernel
theorem dX11_init_48 : decode cX11_init 48 = .ok (.iconst 1, 1) := by decide +kernel
theorem dX11_init_49 : decode cX11_init 49 = .ok (.bipush 101, 2) := by decide +kernel
theorem dX11_init_51 : decode cX11_init 51 = .ok (.bastore, 1) := by decide +kernel
theorem dX11_init_52 : decode cX11_init 52 = .ok (.dup, 1) := by decide +kernel
theorem dX11_init_53 : decode cX11_init 53 = .ok (.iconst 2, 1) := by decide +kernel
theorem dX11_init_54 : decode cX11_init 54 = .ok (.bipush 97, 2) := by decide +kernel
theorem dX11_init_56 : decode cX11_init 56 = .ok (.bastore, 1) := by decide +kernel
theorem dX11_init_57 : decode cX11_init 57 = .ok (.dup, 1) := by decide +kernel
theorem dX11_init_58 : decode cX11_init 58 = .ok (.iconst 3, 1) := by decide +kernel
theorem dX11_init_59 : decode cX11_init 59 = .ok (.bipush 100, 2) := by decide +kernel
theorem dX11_init_61 : decode cX11_init 61 = .ok (.bastore, 1) := by decide +kernel
theorem dX11_init_62 : decode cX11_init 62 = .ok (.dup, 1) := by decide +kernel
theorem dX11_init_63 : decode cX11_init 63 = .ok (.iconst 4, 1) := by decide +kernel
theorem dX11_init_64 : decode cX11_init 64 = .ok (.bipush 115, 2) := by decide +kernel
theorem dX11_init_66 : decode cX11_init 66 = .ok (.bastore, 1) := by decide +kernel
theorem dX11_init_67 : decode cX11_init 67 = .ok (.dup, 1) := by decide +kernel
theorem dX11_init_68 : decode cX11_init 68 = .ok (.iconst 5, 1) := by decide +kernel
theorem dX11_init_69 : decode cX11_init 69 = .ok (.bipush 32, 2) := by decide +kernel
theorem dX11_init_71 : decode cX11_init 71 = .ok (.bastore, 1) := by decide +kernel
theorem dX11_init_72 : decode cX11_init 72 = .ok (.dup, 1) := by decide +kernel
theorem dX11_init_73 : decode cX11_init 73 = .ok (.bipush 6, 2) := by decide +kernel
theorem dX11_init_75 : decode cX11_init 75 = .ok (.bipush 105, 2) := by decide +kernel
theorem dX11_init_77 : decode cX11_init 77 = .ok (.bastore, 1) := by decide +kernel
theorem dX11_init_78 : decode cX11_init 78 = .ok (.dup, 1) := by decide +kernel
theorem dX11_init_79 : decode cX11_init 79 = .ok (.bipush 7, 2) := by decide +kernel
theorem dX11_init_81 : decode cX11_init 81 = .ok (.bipush 102, 2) := by decide +kernel
theorem dX11_init_83 : decode cX11_init 83 = .ok (.bastore, 1) := by decide +kernel
theorem dX11_init_84 : decode cX11_init 84 = .ok (.dup, 1) := by decide +kernel
theorem dX11_init_85 : decode cX11_init 85 = .ok (.bipush 8, 2) := by decide +kernel
theorem dX11_init_87 : decode cX11_init 87 = .ok (.bipush 32, 2) := by decide +kernel
theorem dX11_init_89 : decode cX11_init 89 = .ok (.bastore, 1) := by decide +kernel
theorem dX11_init_90 : decode cX11_init 90 = .ok (.dup, 1) := by decide +kernel
theorem dX11_init_91 : decode cX11_init 91 = .ok (.bipush 9, 2) := by decide +kernel
theorem dX11_init_93 : decode cX11_init 93 = .ok (.bipush 111, 2) := by decide +kernel
theorem dX11_init_95 : decode cX11_init 95 = .ok (.bastore, 1) := by decide +kernel
theorem dX11_init_96 : decode cX11_init 96 = .ok (.dup, 1) := by decide +kernel
theorem dX11_init_97 : decode cX11_init 97 = .ok (.bipush 10, 2) := by decide +kernel
theorem dX11_init_99 : decode cX11_init 99 = .ok (.bipush 114, 2) := by decide +kernel
theorem dX11_init_101 : decode cX11_init 101 = .ok (.bastore, 1) := by decide +kernel
theorem dX11_init_102 : decode cX11_init 102 = .ok (.dup, 1) := by decide +kernel
theorem dX11_init_103 : decode cX11_init 103 = .ok (.bipush 11, 2) := by decide +kernel
theorem dX11_init_105 : decode cX11_init 105 = .ok (.bipush 32, 2) := by decide +kernel
theorem dX11_init_107 : decode cX11_init 107 = .ok (.bastore, 1) := by decide +kernel
theorem dX11_init_108 : decode cX11_init 108 = .ok (.dup, 1) := by decide +kernel
theorem dX11_init_109 : decode cX11_init 109 = .ok (.bipush 12, 2) := by decide +kernel
theorem dX11_init_111 : decode cX11_init 111 = .ok (.bipush 97, 2) := by decide +kernel
theorem dX11_init_113 : decode cX11_init 113 = .ok (.bastore, 1) := by decide +kernel
theorem dX11_init_114 : decode cX11_init 114 = .ok (.dup, 1) := by decide +kernel
theorem dX11_init_115 : decode cX11_init 115 = .ok (.bipush 13, 2) := by decide +kernel
theorem dX11_init_117 : decode cX11_init 117 = .ok (.bipush 110, 2) := by decide +kernel
theorem dX11_init_119 : decode cX11_init 119 = .ok (.bastore, 1) := by decide +kernel
theorem dX11_init_120 : decode cX11_init 120 = .ok (.dup, 1) := by decide +kernel
theorem dX11_init_121 : decode cX11_init 121 = .ok (.bipush 14, 2) := by decide +kernel
theorem dX11_init_123 : decode cX11_init 123 = .ok (.bipush 100, 2) := by decide +kernel
theorem dX11_init_125 : decode cX11_init 125 = .ok (.bastore, 1) := by decide +kernel
theorem dX11_init_126 : decode cX11_init 126 = .ok (.dup, 1) := by decide +kernel
theorem dX11_init_127 : decode cX11_init 127 = .ok (.bipush 15, 2) := by decide +kernel
theorem dX11_init_129 : decode cX11_init 129 = .ok (.bipush 32, 2) := by decide +kernel
theorem dX11_init_131 : decode cX11_init 131 = .ok (.bastore, 1) := by decide +kernel
theorem dX11_init_132 : decode cX11_init 132 = .ok (.dup, 1) := by decide +kernel
theorem dX11_init_133 : decode cX11_init 133 = .ok (.bipush 16, 2) := by decide +kernel
theorem dX11_init_135 : decode cX11_init 135 = .ok (.bipush 110, 2) := by decide +kernel
theorem dX11_init_137 : decode cX11_init 137 = .ok (.bastore, 1) := by decide +kernel
theorem dX11_init_138 : decode cX11_init 138 = .ok (.dup, 1) := by decide +kernel
theorem dX11_init_139 : decode cX11_init 139 = .ok (.bipush 17, 2) := by decide +kernel
theorem dX11_init_141 : decode cX11_init 141 = .ok (.bipush 111, 2) := by decide +kernel
theorem dX11_init_143 : decode cX11_init 143 = .ok (.bastore, 1) := by decide +kernel
theorem dX11_init_144 : decode cX11_init 144 = .ok (.dup, 1) := by decide +kernel
theorem dX11_init_145 : decode cX11_init 145 = .ok (.bipush 18, 2) := by decide +kernel
theorem dX11_init_147 : decode cX11_init 147 = .ok (.bipush 116, 2) := by decide +kernel
theorem dX11_init_149 : decode cX11_init 149 = .ok (.bastore, 1) := by decide +kernel
theorem dX11_init_150 : decode cX11_init 150 = .ok (.dup, 1) := by decide +kernel
theorem dX11_init_151 : decode cX11_init 151 = .ok (.bipush 19, 2) := by decide +kernel
theorem dX11_init_153 : decode cX11_init 153 = .ok (.bipush 32, 2) := by decide +kernel
theorem dX11_init_155 : decode cX11_init 155 = .ok (.bastore, 1) := by decide +kernel
theorem dX11_init_156 : decode cX11_init 156 = .ok (.dup, 1) := by decide +kernel
theorem dX11_init_157 : decode cX11_init 157 = .ok (.bipush 20, 2) := by decide +kernel
theorem dX11_init_159 : decode cX11_init 159 = .ok (.bipush 115, 2) := by decide +kernel
theorem dX11_init_161 : decode cX11_init 161 = .ok (.bastore, 1) := by decide +kernel
theorem dX11_init_162 : decode cX11_init 162 = .ok (.dup, 1) := by decide +kernel
theorem dX11_init_163 : decode cX11_init 163 = .ok (.bipush 21, 2) := by decide +kernel
theorem dX11_init_165 : decode cX11_init 165 = .ok (.bipush 116, 2) := by decide +kernel
theorem dX11_init_167 : decode cX11_init 167 = .ok (.bastore, 1) := by decide +kernel
theorem dX11_init_168 : decode cX11_init 168 = .ok (.dup, 1) := by decide +kernel
theorem dX11_init_169 : decode cX11_init 169 = .ok (.bipush 22, 2) := by decide +kernel
theorem dX11_init_171 : decode cX11_init 171 = .ok (.bipush 97, 2) := by decide +kernel
theorem dX11_init_173 : decode cX11_init 173 = .ok (.bastore, 1) := by decide +kernel
theorem dX11_init_174 : decode cX11_init 174 = .ok (.dup, 1) := by decide +kernel
theorem dX11_init_175 : decode cX11_init 175 = .ok (.bipush 23, 2) := by decide +kernel
theorem dX11_init_177 : decode cX11_init 177 = .ok (.bipush 116, 2) := by decide +kernel
theorem dX11_init_179 : decode cX11_init 179 = .ok (.bastore, 1) := by decide +kernel
theorem dX11_init_180 : decode cX11_init 180 = .ok (.dup, 1) := by decide +kernel
theorem dX11_init_181 : decode cX11_init 181 = .ok (.bipush 24, 2) := by decide +kernel
theorem dX11_init_183 : decode cX11_init 183 = .ok (.bipush 101, 2) := by decide +kernel
theorem dX11_init_185 : decode cX11_init 185 = .ok (.bastore, 1) := by decide +kernel
theorem dX11_init_186 : decode cX11_init 186 = .ok (.dup, 1) := by decide +kernel
theorem dX11_init_187 : decode cX11_init 187 = .ok (.bipush 25, 2) := by decide +kernel
theorem dX11_init_189 : decode cX11_init 189 = .ok (.bipush 32, 2) := by decide +kernel
theorem dX11_init_191 : decode cX11_init 191 = .ok (.bastore, 1) := by decide +kernel
theorem dX11_init_192 : decode cX11_init 192 = .ok (.dup, 1) := by decide +kernel
theorem dX11_init_193 : decode cX11_init 193 = .ok (.bipush 26, 2) := by decide +kernel
theorem dX11_init_195 : decode cX11_init 195 = .ok (.bipush 108, 2) := by decide +kernel
theorem dX11_init_197 : decode cX11_init 197 = .ok (.bastore, 1) := by decide +kernel
theorem dX11_init_198 : decode cX11_init 198 = .ok (.dup, 1) := by decide +kernel
theorem dX11_init_199 : decode cX11_init 199 = .ok (.bipush 27, 2) := by decide +kernel
theorem dX11_init_201 : decode cX11_init 201 = .ok (.bipush 105, 2) := by decide +kernel
theorem dX11_init_203 : decode cX11_init 203 = .ok (.bastore, 1) := by decide +kernel
theorem dX11_init_204 : decode cX11_init 204 = .ok (.dup, 1) := by decide +kernel
theorem dX11_init_205 : decode cX11_init 205 = .ok (.bipush 28, 2) := by decide +kernel
theorem dX11_init_207 : decode cX11_init 207 = .ok (.bipush 116, 2) := by decide +kernel
theorem dX11_init_209 : decode cX11_init 209 = .ok (.bastore, 1) := by decide +kernel
theorem dX11_init_210 : decode cX11_init 210 = .ok (.dup, 1) := by decide +kernel
theorem dX11_init_211 : decode cX11_init 211 = .ok (.bipush 29, 2) := by decide +kernel
theorem dX11_init_213 : decode cX11_init 213 = .ok (.bipush 32, 2) := by decide +kernel
theorem dX11_init_215 : decode cX11_init 215 = .ok (.bastore, 1) := by decide +kernel
theorem dX11_init_216 : decode cX11_init 216 = .ok (.dup, 1) := by decide +kernel
theorem dX11_init_217 : decode cX11_init 217 = .ok (.bipush 30, 2) := by decide +kernel
theorem dX11_init_219 : decode cX11_init 219 = .ok (.bipush 115, 2) := by decide +kernel
theorem dX11_init_221 : decode cX11_init 221 = .ok (.bastore, 1) := by decide +kernel
theorem dX11_init_222 : decode cX11_init 222 = .ok (.dup, 1) := by decide +kernel
theorem dX11_init_223 : decode cX11_init 223 = .ok (.bipush 31, 2) := by decide +kernel
theorem dX11_init_225 : decode cX11_init 225 = .ok (.bipush 117, 2) := by decide +kernel
theorem dX11_init_227 : decode cX11_init 227 = .ok (.bastore, 1) := by decide +kernel
theorem dX11_init_228 : decode cX11_init 228 = .ok (.dup, 1) := by decide +kernel
theorem dX11_init_229 : decode cX11_init 229 = .ok (.bipush 32, 2) := by decide +kernel
theorem dX11_init_231 : decode cX11_init 231 = .ok (.bipush 109, 2) := by decide +kernel
theorem dX11_init_233 : decode cX11_init 233 = .ok (.bastore, 1) := by decide +kernel
theorem dX11_init_234 : decode cX11_init 234 = .ok (.dup, 1) := by decide +kernel
theorem dX11_init_235 : decode cX11_init 235 = .ok (.bipush 33, 2) := by decide +kernel
theorem dX11_init_237 : decode cX11_init 237 = .ok (.bipush 32, 2) := by decide +kernel
theorem dX11_init_239 : decode cX11_init 239 = .ok (.bastore, 1) := by decide +kernel
theorem dX11_init_240 : decode cX11_init 240 = .ok (.dup, 1) := by decide +kernel
theorem dX11_init_241 : decode cX11_init 241 = .ok (.bipush 34, 2) := by decide +kernel
theorem dX11_init_243 : decode cX11_init 243 = .ok (.bipush 109, 2) := by decide +kernel
theorem dX11_init_245 : decode cX11_init 245 = .ok (.bastore, 1) := by decide +kernel
theorem dX11_init_246 : decode cX11_init 246 = .ok (.dup, 1) := by decide +kernel
theorem dX11_init_247 : decode cX11_init 247 = .ok (.bipush 35, 2) := by decide +kernel
theorem dX11_init_249 : decode cX11_init 249 = .ok (.bipush 105, 2) := by decide +kernel
theorem dX11_init_251 : decode cX11_init 251 = .ok (.bastore, 1) := by decide +kernel
theorem dX11_init_252 : decode cX11_init 252 = .ok (.dup, 1) := by decide +kernel
theorem dX11_init_253 : decode cX11_init 253 = .ok (.bipush 36, 2) := by decide +kernel
theorem dX11_init_255 : decode cX11_init 255 = .ok (.bipush 120, 2) := by decide +kernel
theorem dX11_init_257 : decode cX11_init 257 = .ok (.bastore, 1) := by decide +kernel
theorem dX11_init_258 : decode cX11_init 258 = .ok (.dup, 1) := by decide +kernel
theorem dX11_init_259 : decode cX11_init 259 = .ok (.bipush 37, 2) := by decide +kernel
theorem dX11_init_261 : decode cX11_init 261 = .ok (.bipush 32, 2) := by decide +kernel
theorem dX11_init_263 : decode cX11_init 263 = .ok (.bastore, 1) := by decide +kernel
theorem dX11_init_264 : decode cX11_init 264 = .ok (.dup, 1) := by decide +kernel
theorem dX11_init_265 : decode cX11_init 265 = .ok (.bipush 38, 2) := by decide +kernel
theorem dX11_init_267 : decode cX11_init 267 = .ok (.bipush 102, 2) := by decide +kernel
theorem dX11_init_269 : decode cX11_init 269 = .ok (.bastore, 1) := by decide +kernel
theorem dX11_init_270 : decode cX11_init 270 = .ok (.dup, 1) := by decide +kernel
theorem dX11_init_271 : decode cX11_init 271 = .ok (.bipush 39, 2) := by decide +kernel
theorem dX11_init_273 : decode cX11_init 273 = .ok (.bipush 105, 2) := by decide +kernel
theorem dX11_init_275 : decode cX11_init 275 = .ok (.bastore, 1) := by decide +kernel
theorem dX11_init_276 : decode cX11_init 276 = .ok (.dup, 1) := by decide +kernel
theorem dX11_init_277 : decode cX11_init 277 = .ok (.bipush 40, 2) := by decide +kernel
theorem dX11_init_279 : decode cX11_init 279 = .ok (.bipush 114, 2) := by decide +kernel
theorem dX11_init_281 : decode cX11_init 281 = .ok (.bastore, 1) := by decide +kernel
theorem dX11_init_282 : decode cX11_init 282 = .ok (.dup, 1) := by decide +kernel
theorem dX11_init_283 : decode cX11_init 283 = .ok (.bipush 41, 2) := by decide +kernel
theorem dX11_init_285 : decode cX11_init 285 = .ok (.bipush 115, 2) := by decide +kernel
theorem dX11_init_287 : decode cX11_init 287 = .ok (.bastore, 1) := by decide +kernel
theorem dX11_init_288 : decode cX11_init 288 = .ok (.dup, 1) := by decide +kernel
theorem dX11_init_289 : decode cX11_init 289 = .ok (.bipush 42, 2) := by decide +kernel
theorem dX11_init_291 : decode cX11_init 291 = .ok (.bipush 116, 2) := by decide +kernel
theorem dX11_init_293 : decode cX11_init 293 = .ok (.bastore, 1) := by decide +kernel
theorem dX11_init_294 : decode cX11_init 294 = .ok (.dup, 1) := by decide +kernel
theorem dX11_init_295 : decode cX11_init 295 = .ok (.bipush 43, 2) := by decide +kernel
theorem dX11_init_297 : decode cX11_init 297 = .ok (.bipush 32, 2) := by decide +kernel
theorem dX11_init_299 : decode cX11_init 299 = .ok (.bastore, 1) := by decide +kernel
theorem dX11_init_300 : decode cX11_init 300 = .ok (.dup, 1) := by decide +kernel
theorem dX11_init_301 : decode cX11_init 301 = .ok (.bipush 44, 2) := by decide +kernel
theorem dX11_init_303 : decode cX11_init 303 = .ok (.bipush 108, 2) := by decide +kernel
theorem dX11_init_305 : decode cX11_init 305 = .ok (.bastore, 1) := by decide +kernel
theorem dX11_init_306 : decode cX11_init 306 = .ok (.dup, 1) := by decide +kernel
theorem dX11_init_307 : decode cX11_init 307 = .ok (.bipush 45, 2) := by decide +kernel
theorem dX11_init_309 : decode cX11_init 309 = .ok (.bipush 97, 2) := by decide +kernel
theorem dX11_init_311 : decode cX11_init 311 = .ok (.bastore, 1) := by decide +kernel
theorem dX11_init_312 : decode cX11_init 312 = .ok (.dup, 1) := by decide +kernel
theorem dX11_init_313 : decode cX11_init 313 = .ok (.bipush 46, 2) := by decide +kernel
theorem dX11_init_315 : decode cX11_init 315 = .ok (.bipush 115, 2) := by decide +kernel
theorem dX11_init_317 : decode cX11_init 317 = .ok (.bastore, 1) := by decide +kernel
theorem dX11_init_318 : decode cX11_init 318 = .ok (.dup, 1) := by decide +kernel
theorem dX11_init_319 : decode cX11_init 319 = .ok (.bipush 47, 2) := by decide +kernel
theorem dX11_init_321 : decode cX11_init 321 = .ok (.bipush 116, 2) := by decide +kernel
theorem dX11_init_323 : decode cX11_init 323 = .ok (.bastore, 1) := by decide +kernel
theorem dX11_init_324 : decode cX11_init 324 = .ok (.dup, 1) := by decide +kernel
theorem dX11_init_325 : decode cX11_init 325 = .ok (.bipush 48, 2) := by decide +kernel
theorem dX11_init_327 : decode cX11_init 327 = .ok (.bipush 32, 2) := by decide +kernel
theorem dX11_init_329 : decode cX11_init 329 = .ok (.bastore, 1) := by decide +kernel
theorem dX11_init_330 : decode cX11_init 330 = .ok (.dup, 1) := by decide +kernel
theorem dX11_init_331 : decode cX11_init 331 = .ok (.bipush 49, 2) := by decide +kernel
theorem dX11_init_333 : decode cX11_init 333 = .ok (.bipush 108, 2) := by decide +kernel
theorem dX11_init_335 : decode cX11_init 335 = .ok (.bastore, 1) := by decide +kernel
theorem dX11_init_336 : decode cX11_init 336 = .ok (.dup, 1) := by decide +kernel
theorem dX11_init_337 : decode cX11_init 337 = .ok (.bipush 50, 2) := by decide +kernel
theorem dX11_init_339 : decode cX11_init 339 = .ok (.bipush 97, 2) := by decide +kernel
theorem dX11_init_341 : decode cX11_init 341 = .ok (.bastore, 1) := by decide +kernel
theorem dX11_init_342 : decode cX11_init 342 = .ok (.dup, 1) := by decide +kernel
theorem dX11_init_343 : decode cX11_init 343 = .ok (.bipush 51, 2) := by decide +kernel
theorem dX11_init_345 : decode cX11_init 345 = .ok (.bipush 109, 2) := by decide +kernel
theorem dX11_init_347 : decode cX11_init 347 = .ok (.bastore, 1) := by decide +kernel
theorem dX11_init_348 : decode cX11_init 348 = .ok (.dup, 1) := by decide +kernel
theorem dX11_init_349 : decode cX11_init 349 = .ok (.bipush 52, 2) := by decide +kernel
theorem dX11_init_351 : decode cX11_init 351 = .ok (.bipush 112, 2) := by decide +kernel
theorem dX11_init_353 : decode cX11_init 353 = .ok (.bastore, 1) := by decide +kernel
theorem dX11_init_354 : decode cX11_init 354 = .ok (.dup, 1) := by decide +kernel
theorem dX11_init_355 : decode cX11_init 355 = .ok (.bipush 53, 2) := by decide +kernel
theorem dX11_init_357 : decode cX11_init 357 = .ok (.bipush 115, 2) := by decide +kernel
theorem dX11_init_359 : decode cX11_init 359 = .ok (.bastore, 1) := by decide +kernel
theorem dX11_init_360 : decode cX11_init 360 = .ok (.dup, 1) := by decide +kernel
theorem dX11_init_361 : decode cX11_init 361 = .ok (.bipush 54, 2) := by decide +kernel
theorem dX11_init_363 : decode cX11_init 363 = .ok (.bipush 32, 2) := by decide +kernel
theorem dX11_init_365 : decode cX11_init 365 = .ok (.bastore, 1) := by decide +kernel
theorem dX11_init_366 : decode cX11_init 366 = .ok (.dup, 1) := by decide +kernel
theorem dX11_init_367 : decode cX11_init 367 = .ok (.bipush 55, 2) := by decide +kernel
theorem dX11_init_369 : decode cX11_init 369 = .ok (.bipush 110, 2) := by decide +kernel
theorem dX11_init_371 : decode cX11_init 371 = .ok (.bastore, 1) := by decide +kernel
theorem dX11_init_372 : decode cX11_init 372 = .ok (.dup, 1) := by decide +kernel
theorem dX11_init_373 : decode cX11_init 373 = .ok (.bipush 56, 2) := by decide +kernel
theorem dX11_init_375 : decode cX11_init 375 = .ok (.bipush 101, 2) := by decide +kernel
theorem dX11_init_377 : decode cX11_init 377 = .ok (.bastore, 1) := by decide +kernel
theorem dX11_init_378 : decode cX11_init 378 = .ok (.dup, 1) := by decide +kernel
theorem dX11_init_379 : decode cX11_init 379 = .ok (.bipush 57, 2) := by decide +kernel
theorem dX11_init_381 : decode cX11_init 381 = .ok (.bipush 119, 2) := by decide +kernel
theorem dX11_init_383 : decode cX11_init 383 = .ok (.bastore, 1) := by decide +kernel
theorem dX11_init_384 : decode cX11_init 384 = .ok (.dup, 1) := by decide +kernel
theorem dX11_init_385 : decode cX11_init 385 = .ok (.bipush 58, 2) := by decide +kernel
theorem dX11_init_387 : decode cX11_init 387 = .ok (.bipush 115, 2) := by decide +kernel
theorem dX11_init_389 : decode cX11_init 389 = .ok (.bastore, 1) := by decide +kernel
theorem dX11_init_390 : decode cX11_init 390 = .ok (.dup, 1) := by decide +kernel
theorem dX11_init_391 : decode cX11_init 391 = .ok (.bipush 59, 2) := by decide +kernel
theorem dX11_init_393 : decode cX11_init 393 = .ok (.bipush 32, 2) := by decide +kernel
theorem dX11_init_395 : decode cX11_init 395 = .ok (.bastore, 1) := by decide +kernel
theorem dX11_init_396 : decode cX11_init 396 = .ok (.putfield 30, 3) := by decide +kernel
theorem dX11_init_399 : decode cX11_init 399 = .ok (.aload_n 0, 1) := by decide +kernel
theorem dX11_init_400 : decode cX11_init 400 = .ok (.sipush 400, 3) := by decide +kernel
theorem dX11_init_403 : decode cX11_init 403 = .ok (.newarray .byte, 2) := by decide +kernel
theorem dX11_init_405 : decode cX11_init 405 = .ok (.putfield 34, 3) := by decide +kernel
theorem dX11_init_408 : decode cX11_init 408 = .ok (.aload_n 0, 1) := by decide +kernel
theorem dX11_init_409 : decode cX11_init 409 = .ok (.iconst 5, 1) := by decide +kernel
theorem dX11_init_410 : decode cX11_init 410 = .ok (.newarray .int, 2) := by decide +kernel
theorem dX11_init_412 : decode cX11_init 412 = .ok (.putfield 37, 3) := by decide +kernel
theorem dX11_init_415 : decode cX11_init 415 = .ok (.aload_n 0, 1) := by decide +kernel
theorem dX11_init_416 : decode cX11_init 416 = .ok (.iconst (-1), 1) := by decide +kernel
theorem dX11_init_417 : decode cX11_init 417 = .ok (.putfield 40, 3) := by decide +kernel
theorem dX11_init_420 : decode cX11_init 420 = .ok (.aload_n 0, 1) := by decide +kernel
theorem dX11_init_421 : decode cX11_init 421 = .ok (.sipush 401, 3) := by decide +kernel
theorem dX11_init_424 : decode cX11_init 424 = .ok (.newarray .int, 2) := by decide +kernel
theorem dX11_init_426 : decode cX11_init 426 = .ok (.putfield 43, 3) := by decide +kernel
theorem dX11_init_429 : decode cX11_init 429 = .ok (.aload_n 0, 1) := by decide +kernel
theorem dX11_init_430 : decode cX11_init 430 = .ok (.sipush 401, 3) := by decide +kernel
theorem dX11_init_433 : decode cX11_init 433 = .ok (.newarray .int, 2) := by decide +kernel
theorem dX11_init_435 : decode cX11_init 435 = .ok (.putfield 46, 3) := by decide +kernel
theorem dX11_init_438 : decode cX11_init 438 = .ok (.aload_n 0, 1) := by decide +kernel
theorem dX11_init_439 : decode cX11_init 439 = .ok (.sipush 401, 3) := by decide +kernel
theorem dX11_init_442 : decode cX11_init 442 = .ok (.newarray .int, 2) := by decide +kernel
theorem dX11_init_444 : decode cX11_init 444 = .ok (.putfield 49, 3) := by decide +kernel
theorem dX11_init_447 : decode cX11_init 447 = .ok (.aload_n 0, 1) := by decide +kernel
