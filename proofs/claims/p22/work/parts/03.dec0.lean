theorem dX0_init_0 : decode cX0_init 0 = .ok (.aload_n 0, 1) := by decide +kernel
theorem dX0_init_1 : decode cX0_init 1 = .ok (.invokespecial 3, 3) := by decide +kernel
theorem dX0_init_4 : decode cX0_init 4 = .ok (.aload_n 0, 1) := by decide +kernel
theorem dX0_init_5 : decode cX0_init 5 = .ok (.bipush 8, 2) := by decide +kernel
theorem dX0_init_7 : decode cX0_init 7 = .ok (.newarray .int, 2) := by decide +kernel
theorem dX0_init_9 : decode cX0_init 9 = .ok (.putfield 11, 3) := by decide +kernel
theorem dX0_init_12 : decode cX0_init 12 = .ok (.aload_n 0, 1) := by decide +kernel
theorem dX0_init_13 : decode cX0_init 13 = .ok (.bipush 64, 2) := by decide +kernel
theorem dX0_init_15 : decode cX0_init 15 = .ok (.newarray .long, 2) := by decide +kernel
theorem dX0_init_17 : decode cX0_init 17 = .ok (.putfield 17, 3) := by decide +kernel
theorem dX0_init_20 : decode cX0_init 20 = .ok (.return_, 1) := by decide +kernel
theorem dX0_ask_0 : decode cX0_ask 0 = .ok (.aload_n 0, 1) := by decide +kernel
theorem dX0_ask_1 : decode cX0_ask 1 = .ok (.aload_n 2, 1) := by decide +kernel
theorem dX0_ask_2 : decode cX0_ask 2 = .ok (.iload_n 3, 1) := by decide +kernel
theorem dX0_ask_3 : decode cX0_ask 3 = .ok (.invokevirtual 21, 3) := by decide +kernel
theorem dX0_ask_6 : decode cX0_ask 6 = .ok (.aload_n 1, 1) := by decide +kernel
theorem dX0_ask_7 : decode cX0_ask 7 = .ok (.getfield 25, 3) := by decide +kernel
theorem dX0_ask_10 : decode cX0_ask 10 = .ok (.iconst 1, 1) := by decide +kernel
theorem dX0_ask_11 : decode cX0_ask 11 = .ok (.isub, 1) := by decide +kernel
theorem dX0_ask_12 : decode cX0_ask 12 = .ok (.istore 4, 2) := by decide +kernel
theorem dX0_ask_14 : decode cX0_ask 14 = .ok (.iload 4, 2) := by decide +kernel
theorem dX0_ask_16 : decode cX0_ask 16 = .ok (.ifCond .lt 124, 3) := by decide +kernel
theorem dX0_ask_19 : decode cX0_ask 19 = .ok (.iconst 2, 1) := by decide +kernel
theorem dX0_ask_20 : decode cX0_ask 20 = .ok (.iload 4, 2) := by decide +kernel
theorem dX0_ask_22 : decode cX0_ask 22 = .ok (.imul, 1) := by decide +kernel
theorem dX0_ask_23 : decode cX0_ask 23 = .ok (.iconst 2, 1) := by decide +kernel
theorem dX0_ask_24 : decode cX0_ask 24 = .ok (.iadd, 1) := by decide +kernel
theorem dX0_ask_25 : decode cX0_ask 25 = .ok (.aload_n 1, 1) := by decide +kernel
theorem dX0_ask_26 : decode cX0_ask 26 = .ok (.getfield 29, 3) := by decide +kernel
theorem dX0_ask_29 : decode cX0_ask 29 = .ok (.arraylength, 1) := by decide +kernel
theorem dX0_ask_30 : decode cX0_ask 30 = .ok (.if_icmp .ge 110, 3) := by decide +kernel
theorem dX0_ask_33 : decode cX0_ask 33 = .ok (.aload_n 1, 1) := by decide +kernel
theorem dX0_ask_34 : decode cX0_ask 34 = .ok (.getfield 29, 3) := by decide +kernel
theorem dX0_ask_37 : decode cX0_ask 37 = .ok (.iconst 2, 1) := by decide +kernel
theorem dX0_ask_38 : decode cX0_ask 38 = .ok (.iload 4, 2) := by decide +kernel
theorem dX0_ask_40 : decode cX0_ask 40 = .ok (.imul, 1) := by decide +kernel
theorem dX0_ask_41 : decode cX0_ask 41 = .ok (.iaload, 1) := by decide +kernel
theorem dX0_ask_42 : decode cX0_ask 42 = .ok (.istore 5, 2) := by decide +kernel
theorem dX0_ask_44 : decode cX0_ask 44 = .ok (.aload_n 1, 1) := by decide +kernel
theorem dX0_ask_45 : decode cX0_ask 45 = .ok (.getfield 29, 3) := by decide +kernel
theorem dX0_ask_48 : decode cX0_ask 48 = .ok (.iconst 2, 1) := by decide +kernel
theorem dX0_ask_49 : decode cX0_ask 49 = .ok (.iload 4, 2) := by decide +kernel
theorem dX0_ask_51 : decode cX0_ask 51 = .ok (.imul, 1) := by decide +kernel
theorem dX0_ask_52 : decode cX0_ask 52 = .ok (.iconst 1, 1) := by decide +kernel
theorem dX0_ask_53 : decode cX0_ask 53 = .ok (.iadd, 1) := by decide +kernel
theorem dX0_ask_54 : decode cX0_ask 54 = .ok (.iaload, 1) := by decide +kernel
theorem dX0_ask_55 : decode cX0_ask 55 = .ok (.istore 6, 2) := by decide +kernel
theorem dX0_ask_57 : decode cX0_ask 57 = .ok (.aload_n 1, 1) := by decide +kernel
theorem dX0_ask_58 : decode cX0_ask 58 = .ok (.getfield 29, 3) := by decide +kernel
theorem dX0_ask_61 : decode cX0_ask 61 = .ok (.iconst 2, 1) := by decide +kernel
theorem dX0_ask_62 : decode cX0_ask 62 = .ok (.iload 4, 2) := by decide +kernel
theorem dX0_ask_64 : decode cX0_ask 64 = .ok (.imul, 1) := by decide +kernel
theorem dX0_ask_65 : decode cX0_ask 65 = .ok (.iconst 2, 1) := by decide +kernel
theorem dX0_ask_66 : decode cX0_ask 66 = .ok (.iadd, 1) := by decide +kernel
theorem dX0_ask_67 : decode cX0_ask 67 = .ok (.iaload, 1) := by decide +kernel
theorem dX0_ask_68 : decode cX0_ask 68 = .ok (.istore 7, 2) := by decide +kernel
theorem dX0_ask_70 : decode cX0_ask 70 = .ok (.aload_n 0, 1) := by decide +kernel
theorem dX0_ask_71 : decode cX0_ask 71 = .ok (.aload_n 1, 1) := by decide +kernel
theorem dX0_ask_72 : decode cX0_ask 72 = .ok (.getfield 32, 3) := by decide +kernel
theorem dX0_ask_75 : decode cX0_ask 75 = .ok (.iload 6, 2) := by decide +kernel
theorem dX0_ask_77 : decode cX0_ask 77 = .ok (.iload 7, 2) := by decide +kernel
theorem dX0_ask_79 : decode cX0_ask 79 = .ok (.invokevirtual 35, 3) := by decide +kernel
theorem dX0_ask_82 : decode cX0_ask 82 = .ok (.ifCond .eq 52, 3) := by decide +kernel
theorem dX0_ask_85 : decode cX0_ask 85 = .ok (.aload_n 0, 1) := by decide +kernel
theorem dX0_ask_86 : decode cX0_ask 86 = .ok (.aload_n 1, 1) := by decide +kernel
theorem dX0_ask_87 : decode cX0_ask 87 = .ok (.getfield 32, 3) := by decide +kernel
theorem dX0_ask_90 : decode cX0_ask 90 = .ok (.iload 5, 2) := by decide +kernel
theorem dX0_ask_92 : decode cX0_ask 92 = .ok (.iload 6, 2) := by decide +kernel
theorem dX0_ask_94 : decode cX0_ask 94 = .ok (.invokevirtual 39, 3) := by decide +kernel
theorem dX0_ask_97 : decode cX0_ask 97 = .ok (.ifCond .eq 37, 3) := by decide +kernel
theorem dX0_ask_100 : decode cX0_ask 100 = .ok (.aload_n 0, 1) := by decide +kernel
theorem dX0_ask_101 : decode cX0_ask 101 = .ok (.getfield 17, 3) := by decide +kernel
theorem dX0_ask_104 : decode cX0_ask 104 = .ok (.iconst 0, 1) := by decide +kernel
theorem dX0_ask_105 : decode cX0_ask 105 = .ok (.laload, 1) := by decide +kernel
theorem dX0_ask_106 : decode cX0_ask 106 = .ok (.lstore 8, 2) := by decide +kernel
theorem dX0_ask_108 : decode cX0_ask 108 = .ok (.lload 8, 2) := by decide +kernel
theorem dX0_ask_110 : decode cX0_ask 110 = .ok (.lconst 0, 1) := by decide +kernel
theorem dX0_ask_111 : decode cX0_ask 111 = .ok (.lcmp, 1) := by decide +kernel
theorem dX0_ask_112 : decode cX0_ask 112 = .ok (.ifCond .lt 20, 3) := by decide +kernel
theorem dX0_ask_115 : decode cX0_ask 115 = .ok (.lload 8, 2) := by decide +kernel
theorem dX0_ask_117 : decode cX0_ask 117 = .ok (.aload_n 2, 1) := by decide +kernel
theorem dX0_ask_118 : decode cX0_ask 118 = .ok (.getfield 42, 3) := by decide +kernel
theorem dX0_ask_121 : decode cX0_ask 121 = .ok (.i2l, 1) := by decide +kernel
theorem dX0_ask_122 : decode cX0_ask 122 = .ok (.lcmp, 1) := by decide +kernel
theorem dX0_ask_123 : decode cX0_ask 123 = .ok (.ifCond .ge 9, 3) := by decide +kernel
theorem dX0_ask_126 : decode cX0_ask 126 = .ok (.lload 8, 2) := by decide +kernel
theorem dX0_ask_128 : decode cX0_ask 128 = .ok (.l2i, 1) := by decide +kernel
theorem dX0_ask_129 : decode cX0_ask 129 = .ok (.goto 4, 3) := by decide +kernel
theorem dX0_ask_132 : decode cX0_ask 132 = .ok (.iconst (-1), 1) := by decide +kernel
theorem dX0_ask_133 : decode cX0_ask 133 = .ok (.ireturn, 1) := by decide +kernel
theorem dX0_ask_134 : decode cX0_ask 134 = .ok (.iinc 4 (-1), 3) := by decide +kernel
theorem dX0_ask_137 : decode cX0_ask 137 = .ok (.goto (-123), 3) := by decide +kernel
theorem dX0_ask_140 : decode cX0_ask 140 = .ok (.iconst (-1), 1) := by decide +kernel
theorem dX0_ask_141 : decode cX0_ask 141 = .ok (.ireturn, 1) := by decide +kernel
theorem dX0_isSo_0 : decode cX0_isSo 0 = .ok (.iload_n 2, 1) := by decide +kernel
theorem dX0_isSo_1 : decode cX0_isSo 1 = .ok (.iload_n 3, 1) := by decide +kernel
theorem dX0_isSo_2 : decode cX0_isSo 2 = .ok (.if_icmp .eq 24, 3) := by decide +kernel
theorem dX0_isSo_5 : decode cX0_isSo 5 = .ok (.aload_n 0, 1) := by decide +kernel
theorem dX0_isSo_6 : decode cX0_isSo 6 = .ok (.aload_n 1, 1) := by decide +kernel
theorem dX0_isSo_7 : decode cX0_isSo 7 = .ok (.iload_n 2, 1) := by decide +kernel
theorem dX0_isSo_8 : decode cX0_isSo 8 = .ok (.iload_n 3, 1) := by decide +kernel
theorem dX0_isSo_9 : decode cX0_isSo 9 = .ok (.invokevirtual 39, 3) := by decide +kernel
theorem dX0_isSo_12 : decode cX0_isSo 12 = .ok (.ifCond .eq 18, 3) := by decide +kernel
theorem dX0_isSo_15 : decode cX0_isSo 15 = .ok (.aload_n 0, 1) := by decide +kernel
theorem dX0_isSo_16 : decode cX0_isSo 16 = .ok (.getfield 17, 3) := by decide +kernel
theorem dX0_isSo_19 : decode cX0_isSo 19 = .ok (.iconst 0, 1) := by decide +kernel
theorem dX0_isSo_20 : decode cX0_isSo 20 = .ok (.laload, 1) := by decide +kernel
theorem dX0_isSo_21 : decode cX0_isSo 21 = .ok (.lconst 0, 1) := by decide +kernel
theorem dX0_isSo_22 : decode cX0_isSo 22 = .ok (.lcmp, 1) := by decide +kernel
theorem dX0_isSo_23 : decode cX0_isSo 23 = .ok (.ifCond .eq 7, 3) := by decide +kernel
theorem dX0_isSo_26 : decode cX0_isSo 26 = .ok (.iconst 1, 1) := by decide +kernel
theorem dX0_isSo_27 : decode cX0_isSo 27 = .ok (.goto 4, 3) := by decide +kernel
theorem dX0_isSo_30 : decode cX0_isSo 30 = .ok (.iconst 0, 1) := by decide +kernel
theorem dX0_isSo_31 : decode cX0_isSo 31 = .ok (.ireturn, 1) := by decide +kernel
theorem dX0_works_0 : decode cX0_works 0 = .ok (.iconst 0, 1) := by decide +kernel
theorem dX0_works_1 : decode cX0_works 1 = .ok (.istore 4, 2) := by decide +kernel
theorem dX0_works_3 : decode cX0_works 3 = .ok (.iload_n 3, 1) := by decide +kernel
theorem dX0_works_4 : decode cX0_works 4 = .ok (.aload_n 1, 1) := by decide +kernel
theorem dX0_works_5 : decode cX0_works 5 = .ok (.arraylength, 1) := by decide +kernel
theorem dX0_works_6 : decode cX0_works 6 = .ok (.invokestatic 47, 3) := by decide +kernel
theorem dX0_works_9 : decode cX0_works 9 = .ok (.istore 5, 2) := by decide +kernel
theorem dX0_works_11 : decode cX0_works 11 = .ok (.iconst 0, 1) := by decide +kernel
theorem dX0_works_12 : decode cX0_works 12 = .ok (.iload_n 2, 1) := by decide +kernel
theorem dX0_works_13 : decode cX0_works 13 = .ok (.invokestatic 53, 3) := by decide +kernel
theorem dX0_works_16 : decode cX0_works 16 = .ok (.istore 6, 2) := by decide +kernel
theorem dX0_works_18 : decode cX0_works 18 = .ok (.iload 6, 2) := by decide +kernel
theorem dX0_works_20 : decode cX0_works 20 = .ok (.iload 5, 2) := by decide +kernel
theorem dX0_works_22 : decode cX0_works 22 = .ok (.if_icmp .ge 219, 3) := by decide +kernel
theorem dX0_works_25 : decode cX0_works 25 = .ok (.aload_n 1, 1) := by decide +kernel
theorem dX0_works_26 : decode cX0_works 26 = .ok (.iload 6, 2) := by decide +kernel
theorem dX0_works_28 : decode cX0_works 28 = .ok (.iaload, 1) := by decide +kernel
theorem dX0_works_29 : decode cX0_works 29 = .ok (.istore 7, 2) := by decide +kernel
theorem dX0_works_31 : decode cX0_works 31 = .ok (.iload 7, 2) := by decide +kernel
theorem dX0_works_33 : decode cX0_works 33 = .ok (.bipush (-8), 2) := by decide +kernel
theorem dX0_works_35 : decode cX0_works 35 = .ok (.if_icmp .lt 46, 3) := by decide +kernel
theorem dX0_works_38 : decode cX0_works 38 = .ok (.iload 4, 2) := by decide +kernel
theorem dX0_works_40 : decode cX0_works 40 = .ok (.bipush 64, 2) := by decide +kernel
theorem dX0_works_42 : decode cX0_works 42 = .ok (.if_icmp .lt 5, 3) := by decide +kernel
theorem dX0_works_45 : decode cX0_works 45 = .ok (.iconst 0, 1) := by decide +kernel
theorem dX0_works_46 : decode cX0_works 46 = .ok (.ireturn, 1) := by decide +kernel
theorem dX0_works_47 : decode cX0_works 47 = .ok (.aload_n 0, 1) := by decide +kernel
theorem dX0_works_48 : decode cX0_works 48 = .ok (.getfield 17, 3) := by decide +kernel
theorem dX0_works_51 : decode cX0_works 51 = .ok (.iload 4, 2) := by decide +kernel
theorem dX0_works_53 : decode cX0_works 53 = .ok (.iload 7, 2) := by decide +kernel
theorem dX0_works_55 : decode cX0_works 55 = .ok (.ifCond .lt 9, 3) := by decide +kernel
theorem dX0_works_58 : decode cX0_works 58 = .ok (.iload 7, 2) := by decide +kernel
theorem dX0_works_60 : decode cX0_works 60 = .ok (.i2l, 1) := by decide +kernel
theorem dX0_works_61 : decode cX0_works 61 = .ok (.goto 13, 3) := by decide +kernel
theorem dX0_works_64 : decode cX0_works 64 = .ok (.aload_n 0, 1) := by decide +kernel
theorem dX0_works_65 : decode cX0_works 65 = .ok (.getfield 11, 3) := by decide +kernel
theorem dX0_works_68 : decode cX0_works 68 = .ok (.iconst (-1), 1) := by decide +kernel
theorem dX0_works_69 : decode cX0_works 69 = .ok (.iload 7, 2) := by decide +kernel
theorem dX0_works_71 : decode cX0_works 71 = .ok (.isub, 1) := by decide +kernel
theorem dX0_works_72 : decode cX0_works 72 = .ok (.iaload, 1) := by decide +kernel
theorem dX0_works_73 : decode cX0_works 73 = .ok (.i2l, 1) := by decide +kernel
theorem dX0_works_74 : decode cX0_works 74 = .ok (.lastore, 1) := by decide +kernel
theorem dX0_works_75 : decode cX0_works 75 = .ok (.iinc 4 1, 3) := by decide +kernel
theorem dX0_works_78 : decode cX0_works 78 = .ok (.goto 157, 3) := by decide +kernel
theorem dX0_works_81 : decode cX0_works 81 = .ok (.iload 4, 2) := by decide +kernel
theorem dX0_works_83 : decode cX0_works 83 = .ok (.iconst 1, 1) := by decide +kernel
theorem dX0_works_84 : decode cX0_works 84 = .ok (.if_icmp .ge 5, 3) := by decide +kernel
theorem dX0_works_87 : decode cX0_works 87 = .ok (.iconst 0, 1) := by decide +kernel
theorem dX0_works_88 : decode cX0_works 88 = .ok (.ireturn, 1) := by decide +kernel
theorem dX0_works_89 : decode cX0_works 89 = .ok (.iload 7, 2) := by decide +kernel
theorem dX0_works_91 : decode cX0_works 91 = .ok (.bipush (-19), 2) := by decide +kernel
theorem dX0_works_93 : decode cX0_works 93 = .ok (.if_icmp .ne 26, 3) := by decide +kernel
theorem dX0_works_96 : decode cX0_works 96 = .ok (.aload_n 0, 1) := by decide +kernel
theorem dX0_works_97 : decode cX0_works 97 = .ok (.getfield 17, 3) := by decide +kernel
theorem dX0_works_100 : decode cX0_works 100 = .ok (.iload 4, 2) := by decide +kernel
theorem dX0_works_102 : decode cX0_works 102 = .ok (.iconst 1, 1) := by decide +kernel
theorem dX0_works_103 : decode cX0_works 103 = .ok (.isub, 1) := by decide +kernel
theorem dX0_works_104 : decode cX0_works 104 = .ok (.lconst 1, 1) := by decide +kernel
theorem dX0_works_105 : decode cX0_works 105 = .ok (.aload_n 0, 1) := by decide +kernel
theorem dX0_works_106 : decode cX0_works 106 = .ok (.getfield 17, 3) := by decide +kernel
theorem dX0_works_109 : decode cX0_works 109 = .ok (.iload 4, 2) := by decide +kernel
theorem dX0_works_111 : decode cX0_works 111 = .ok (.iconst 1, 1) := by decide +kernel
theorem dX0_works_112 : decode cX0_works 112 = .ok (.isub, 1) := by decide +kernel
theorem dX0_works_113 : decode cX0_works 113 = .ok (.laload, 1) := by decide +kernel
theorem dX0_works_114 : decode cX0_works 114 = .ok (.lsub, 1) := by decide +kernel
theorem dX0_works_115 : decode cX0_works 115 = .ok (.lastore, 1) := by decide +kernel
theorem dX0_works_116 : decode cX0_works 116 = .ok (.goto 119, 3) := by decide +kernel
theorem dX0_works_119 : decode cX0_works 119 = .ok (.iload 7, 2) := by decide +kernel
theorem dX0_works_121 : decode cX0_works 121 = .ok (.bipush (-20), 2) := by decide +kernel
theorem dX0_works_123 : decode cX0_works 123 = .ok (.if_icmp .eq 10, 3) := by decide +kernel
theorem dX0_works_126 : decode cX0_works 126 = .ok (.iload 7, 2) := by decide +kernel
theorem dX0_works_128 : decode cX0_works 128 = .ok (.bipush (-21), 2) := by decide +kernel
theorem dX0_works_130 : decode cX0_works 130 = .ok (.if_icmp .ne 81, 3) := by decide +kernel
theorem dX0_works_133 : decode cX0_works 133 = .ok (.iinc 6 1, 3) := by decide +kernel
theorem dX0_works_136 : decode cX0_works 136 = .ok (.aload_n 0, 1) := by decide +kernel
theorem dX0_works_137 : decode cX0_works 137 = .ok (.getfield 17, 3) := by decide +kernel
theorem dX0_works_140 : decode cX0_works 140 = .ok (.iload 4, 2) := by decide +kernel
theorem dX0_works_142 : decode cX0_works 142 = .ok (.iconst 1, 1) := by decide +kernel
theorem dX0_works_143 : decode cX0_works 143 = .ok (.isub, 1) := by decide +kernel
theorem dX0_works_144 : decode cX0_works 144 = .ok (.laload, 1) := by decide +kernel
theorem dX0_works_145 : decode cX0_works 145 = .ok (.lconst 0, 1) := by decide +kernel
theorem dX0_works_146 : decode cX0_works 146 = .ok (.lcmp, 1) := by decide +kernel
theorem dX0_works_147 : decode cX0_works 147 = .ok (.ifCond .eq 7, 3) := by decide +kernel
theorem dX0_works_150 : decode cX0_works 150 = .ok (.iconst 1, 1) := by decide +kernel
theorem dX0_works_151 : decode cX0_works 151 = .ok (.goto 4, 3) := by decide +kernel
theorem dX0_works_154 : decode cX0_works 154 = .ok (.iconst 0, 1) := by decide +kernel
theorem dX0_works_155 : decode cX0_works 155 = .ok (.iload 7, 2) := by decide +kernel
theorem dX0_works_157 : decode cX0_works 157 = .ok (.bipush (-20), 2) := by decide +kernel
theorem dX0_works_159 : decode cX0_works 159 = .ok (.if_icmp .ne 7, 3) := by decide +kernel
theorem dX0_works_162 : decode cX0_works 162 = .ok (.iconst 1, 1) := by decide +kernel
theorem dX0_works_163 : decode cX0_works 163 = .ok (.goto 4, 3) := by decide +kernel
theorem dX0_works_166 : decode cX0_works 166 = .ok (.iconst 0, 1) := by decide +kernel
theorem dX0_works_167 : decode cX0_works 167 = .ok (.if_icmp .ne 7, 3) := by decide +kernel
theorem dX0_works_170 : decode cX0_works 170 = .ok (.iconst 1, 1) := by decide +kernel
theorem dX0_works_171 : decode cX0_works 171 = .ok (.goto 4, 3) := by decide +kernel
theorem dX0_works_174 : decode cX0_works 174 = .ok (.iconst 0, 1) := by decide +kernel
theorem dX0_works_175 : decode cX0_works 175 = .ok (.istore 8, 2) := by decide +kernel
theorem dX0_works_177 : decode cX0_works 177 = .ok (.iload 8, 2) := by decide +kernel
theorem dX0_works_179 : decode cX0_works 179 = .ok (.ifCond .ne 9, 3) := by decide +kernel
theorem dX0_works_182 : decode cX0_works 182 = .ok (.iinc 4 (-1), 3) := by decide +kernel
theorem dX0_works_185 : decode cX0_works 185 = .ok (.goto 23, 3) := by decide +kernel
theorem dX0_works_188 : decode cX0_works 188 = .ok (.iload 6, 2) := by decide +kernel
theorem dX0_works_190 : decode cX0_works 190 = .ok (.iload 5, 2) := by decide +kernel
theorem dX0_works_192 : decode cX0_works 192 = .ok (.if_icmp .ge 16, 3) := by decide +kernel
theorem dX0_works_195 : decode cX0_works 195 = .ok (.iload 6, 2) := by decide +kernel
theorem dX0_works_197 : decode cX0_works 197 = .ok (.aload_n 1, 1) := by decide +kernel
theorem dX0_works_198 : decode cX0_works 198 = .ok (.iload 6, 2) := by decide +kernel
theorem dX0_works_200 : decode cX0_works 200 = .ok (.iaload, 1) := by decide +kernel
theorem dX0_works_201 : decode cX0_works 201 = .ok (.iconst 1, 1) := by decide +kernel
theorem dX0_works_202 : decode cX0_works 202 = .ok (.isub, 1) := by decide +kernel
theorem dX0_works_203 : decode cX0_works 203 = .ok (.invokestatic 53, 3) := by decide +kernel
theorem dX0_works_206 : decode cX0_works 206 = .ok (.istore 6, 2) := by decide +kernel
theorem dX0_works_208 : decode cX0_works 208 = .ok (.goto 27, 3) := by decide +kernel
theorem dX0_works_211 : decode cX0_works 211 = .ok (.iinc 4 (-1), 3) := by decide +kernel
theorem dX0_works_214 : decode cX0_works 214 = .ok (.iload 4, 2) := by decide +kernel
theorem dX0_works_216 : decode cX0_works 216 = .ok (.iconst 1, 1) := by decide +kernel
theorem dX0_works_217 : decode cX0_works 217 = .ok (.if_icmp .lt 16, 3) := by decide +kernel
theorem dX0_works_220 : decode cX0_works 220 = .ok (.aload_n 0, 1) := by decide +kernel
theorem dX0_works_221 : decode cX0_works 221 = .ok (.iload 7, 2) := by decide +kernel
theorem dX0_works_223 : decode cX0_works 223 = .ok (.iload 4, 2) := by decide +kernel
theorem dX0_works_225 : decode cX0_works 225 = .ok (.iconst 1, 1) := by decide +kernel
theorem dX0_works_226 : decode cX0_works 226 = .ok (.isub, 1) := by decide +kernel
theorem dX0_works_227 : decode cX0_works 227 = .ok (.invokevirtual 56, 3) := by decide +kernel
theorem dX0_works_230 : decode cX0_works 230 = .ok (.ifCond .ne 5, 3) := by decide +kernel
theorem dX0_works_233 : decode cX0_works 233 = .ok (.iconst 0, 1) := by decide +kernel
theorem dX0_works_234 : decode cX0_works 234 = .ok (.ireturn, 1) := by decide +kernel
theorem dX0_works_235 : decode cX0_works 235 = .ok (.iinc 6 1, 3) := by decide +kernel
theorem dX0_works_238 : decode cX0_works 238 = .ok (.goto (-220), 3) := by decide +kernel
theorem dX0_works_241 : decode cX0_works 241 = .ok (.iload 4, 2) := by decide +kernel
theorem dX0_works_243 : decode cX0_works 243 = .ok (.iconst 1, 1) := by decide +kernel
theorem dX0_works_244 : decode cX0_works 244 = .ok (.if_icmp .ne 7, 3) := by decide +kernel
theorem dX0_works_247 : decode cX0_works 247 = .ok (.iconst 1, 1) := by decide +kernel
theorem dX0_works_248 : decode cX0_works 248 = .ok (.goto 4, 3) := by decide +kernel
theorem dX0_works_251 : decode cX0_works 251 = .ok (.iconst 0, 1) := by decide +kernel
theorem dX0_works_252 : decode cX0_works 252 = .ok (.ireturn, 1) := by decide +kernel
theorem dX0_join_0 : decode cX0_join 0 = .ok (.aload_n 0, 1) := by decide +kernel
theorem dX0_join_1 : decode cX0_join 1 = .ok (.getfield 17, 3) := by decide +kernel
theorem dX0_join_4 : decode cX0_join 4 = .ok (.iload_n 2, 1) := by decide +kernel
theorem dX0_join_5 : decode cX0_join 5 = .ok (.laload, 1) := by decide +kernel
theorem dX0_join_6 : decode cX0_join 6 = .ok (.lstore_n 3, 1) := by decide +kernel
theorem dX0_join_7 : decode cX0_join 7 = .ok (.aload_n 0, 1) := by decide +kernel
theorem dX0_join_8 : decode cX0_join 8 = .ok (.getfield 17, 3) := by decide +kernel
theorem dX0_join_11 : decode cX0_join 11 = .ok (.iload_n 2, 1) := by decide +kernel
theorem dX0_join_12 : decode cX0_join 12 = .ok (.iconst 1, 1) := by decide +kernel
theorem dX0_join_13 : decode cX0_join 13 = .ok (.iadd, 1) := by decide +kernel
theorem dX0_join_14 : decode cX0_join 14 = .ok (.laload, 1) := by decide +kernel
theorem dX0_join_15 : decode cX0_join 15 = .ok (.lstore 5, 2) := by decide +kernel
theorem dX0_join_17 : decode cX0_join 17 = .ok (.iload_n 1, 1) := by decide +kernel
theorem dX0_join_18 : decode cX0_join 18 = .ok (.bipush (-14), 2) := by decide +kernel
theorem dX0_join_20 : decode cX0_join 20 = .ok (.if_icmp .eq 9, 3) := by decide +kernel
theorem dX0_join_23 : decode cX0_join 23 = .ok (.iload_n 1, 1) := by decide +kernel
theorem dX0_join_24 : decode cX0_join 24 = .ok (.bipush (-15), 2) := by decide +kernel
theorem dX0_join_26 : decode cX0_join 26 = .ok (.if_icmp .ne 12, 3) := by decide +kernel
theorem dX0_join_29 : decode cX0_join 29 = .ok (.lload 5, 2) := by decide +kernel
theorem dX0_join_31 : decode cX0_join 31 = .ok (.lconst 0, 1) := by decide +kernel
theorem dX0_join_32 : decode cX0_join 32 = .ok (.lcmp, 1) := by decide +kernel
theorem dX0_join_33 : decode cX0_join 33 = .ok (.ifCond .ne 5, 3) := by decide +kernel
theorem dX0_join_36 : decode cX0_join 36 = .ok (.iconst 0, 1) := by decide +kernel
theorem dX0_join_37 : decode cX0_join 37 = .ok (.ireturn, 1) := by decide +kernel
theorem dX0_join_38 : decode cX0_join 38 = .ok (.iload_n 1, 1) := by decide +kernel
theorem dX0_join_39 : decode cX0_join 39 = .ok (.tableswitch 120 (-17) (-11) #[103, 86, 77, 68, 59, 50, 41], 41) := by decide +kernel
theorem dX0_join_80 : decode cX0_join 80 = .ok (.lload_n 3, 1) := by decide +kernel
theorem dX0_join_81 : decode cX0_join 81 = .ok (.lload 5, 2) := by decide +kernel
theorem dX0_join_83 : decode cX0_join 83 = .ok (.ladd, 1) := by decide +kernel
theorem dX0_join_84 : decode cX0_join 84 = .ok (.lstore 7, 2) := by decide +kernel
theorem dX0_join_86 : decode cX0_join 86 = .ok (.goto 87, 3) := by decide +kernel
theorem dX0_join_89 : decode cX0_join 89 = .ok (.lload_n 3, 1) := by decide +kernel
theorem dX0_join_90 : decode cX0_join 90 = .ok (.lload 5, 2) := by decide +kernel
theorem dX0_join_92 : decode cX0_join 92 = .ok (.lsub, 1) := by decide +kernel
theorem dX0_join_93 : decode cX0_join 93 = .ok (.lstore 7, 2) := by decide +kernel
theorem dX0_join_95 : decode cX0_join 95 = .ok (.goto 78, 3) := by decide +kernel
theorem dX0_join_98 : decode cX0_join 98 = .ok (.lload_n 3, 1) := by decide +kernel
theorem dX0_join_99 : decode cX0_join 99 = .ok (.lload 5, 2) := by decide +kernel
theorem dX0_join_101 : decode cX0_join 101 = .ok (.lmul, 1) := by decide +kernel
theorem dX0_join_102 : decode cX0_join 102 = .ok (.lstore 7, 2) := by decide +kernel
theorem dX0_join_104 : decode cX0_join 104 = .ok (.goto 69, 3) := by decide +kernel
theorem dX0_join_107 : decode cX0_join 107 = .ok (.lload_n 3, 1) := by decide +kernel
theorem dX0_join_108 : decode cX0_join 108 = .ok (.lload 5, 2) := by decide +kernel
theorem dX0_join_110 : decode cX0_join 110 = .ok (.ldiv, 1) := by decide +kernel
theorem dX0_join_111 : decode cX0_join 111 = .ok (.lstore 7, 2) := by decide +kernel
theorem dX0_join_113 : decode cX0_join 113 = .ok (.goto 60, 3) := by decide +kernel
theorem dX0_join_116 : decode cX0_join 116 = .ok (.lload_n 3, 1) := by decide +kernel
theorem dX0_join_117 : decode cX0_join 117 = .ok (.lload 5, 2) := by decide +kernel
theorem dX0_join_119 : decode cX0_join 119 = .ok (.lrem, 1) := by decide +kernel
theorem dX0_join_120 : decode cX0_join 120 = .ok (.lstore 7, 2) := by decide +kernel
theorem dX0_join_122 : decode cX0_join 122 = .ok (.goto 51, 3) := by decide +kernel
theorem dX0_join_125 : decode cX0_join 125 = .ok (.lload_n 3, 1) := by decide +kernel
theorem dX0_join_126 : decode cX0_join 126 = .ok (.lload 5, 2) := by decide +kernel
theorem dX0_join_128 : decode cX0_join 128 = .ok (.lcmp, 1) := by decide +kernel
theorem dX0_join_129 : decode cX0_join 129 = .ok (.ifCond .ge 7, 3) := by decide +kernel
theorem dX0_join_132 : decode cX0_join 132 = .ok (.lconst 1, 1) := by decide +kernel
theorem dX0_join_133 : decode cX0_join 133 = .ok (.goto 4, 3) := by decide +kernel
theorem dX0_join_136 : decode cX0_join 136 = .ok (.lconst 0, 1) := by decide +kernel
theorem dX0_join_137 : decode cX0_join 137 = .ok (.lstore 7, 2) := by decide +kernel
theorem dX0_join_139 : decode cX0_join 139 = .ok (.goto 34, 3) := by decide +kernel
theorem dX0_join_142 : decode cX0_join 142 = .ok (.lload_n 3, 1) := by decide +kernel
theorem dX0_join_143 : decode cX0_join 143 = .ok (.lload 5, 2) := by decide +kernel
theorem dX0_join_145 : decode cX0_join 145 = .ok (.lcmp, 1) := by decide +kernel
theorem dX0_join_146 : decode cX0_join 146 = .ok (.ifCond .le 7, 3) := by decide +kernel
theorem dX0_join_149 : decode cX0_join 149 = .ok (.lconst 1, 1) := by decide +kernel
theorem dX0_join_150 : decode cX0_join 150 = .ok (.goto 4, 3) := by decide +kernel
theorem dX0_join_153 : decode cX0_join 153 = .ok (.lconst 0, 1) := by decide +kernel
theorem dX0_join_154 : decode cX0_join 154 = .ok (.lstore 7, 2) := by decide +kernel
theorem dX0_join_156 : decode cX0_join 156 = .ok (.goto 17, 3) := by decide +kernel
theorem dX0_join_159 : decode cX0_join 159 = .ok (.lload_n 3, 1) := by decide +kernel
theorem dX0_join_160 : decode cX0_join 160 = .ok (.lload 5, 2) := by decide +kernel
theorem dX0_join_162 : decode cX0_join 162 = .ok (.lcmp, 1) := by decide +kernel
theorem dX0_join_163 : decode cX0_join 163 = .ok (.ifCond .ne 7, 3) := by decide +kernel
theorem dX0_join_166 : decode cX0_join 166 = .ok (.lconst 1, 1) := by decide +kernel
theorem dX0_join_167 : decode cX0_join 167 = .ok (.goto 4, 3) := by decide +kernel
theorem dX0_join_170 : decode cX0_join 170 = .ok (.lconst 0, 1) := by decide +kernel
theorem dX0_join_171 : decode cX0_join 171 = .ok (.lstore 7, 2) := by decide +kernel
theorem dX0_join_173 : decode cX0_join 173 = .ok (.aload_n 0, 1) := by decide +kernel
theorem dX0_join_174 : decode cX0_join 174 = .ok (.getfield 17, 3) := by decide +kernel
theorem dX0_join_177 : decode cX0_join 177 = .ok (.iload_n 2, 1) := by decide +kernel
theorem dX0_join_178 : decode cX0_join 178 = .ok (.lload 7, 2) := by decide +kernel
theorem dX0_join_180 : decode cX0_join 180 = .ok (.lastore, 1) := by decide +kernel
theorem dX0_join_181 : decode cX0_join 181 = .ok (.lload 7, 2) := by decide +kernel
theorem dX0_join_183 : decode cX0_join 183 = .ok (.ldc2_w 60, 3) := by decide +kernel
theorem dX0_join_186 : decode cX0_join 186 = .ok (.lcmp, 1) := by decide +kernel
theorem dX0_join_187 : decode cX0_join 187 = .ok (.ifCond .gt 16, 3) := by decide +kernel
theorem dX0_join_190 : decode cX0_join 190 = .ok (.lload 7, 2) := by decide +kernel
theorem dX0_join_192 : decode cX0_join 192 = .ok (.ldc2_w 62, 3) := by decide +kernel
theorem dX0_join_195 : decode cX0_join 195 = .ok (.lcmp, 1) := by decide +kernel
theorem dX0_join_196 : decode cX0_join 196 = .ok (.ifCond .lt 7, 3) := by decide +kernel
theorem dX0_join_199 : decode cX0_join 199 = .ok (.iconst 1, 1) := by decide +kernel
theorem dX0_join_200 : decode cX0_join 200 = .ok (.goto 4, 3) := by decide +kernel
theorem dX0_join_203 : decode cX0_join 203 = .ok (.iconst 0, 1) := by decide +kernel
theorem dX0_join_204 : decode cX0_join 204 = .ok (.ireturn, 1) := by decide +kernel
theorem dX0_fillWords_0 : decode cX0_fillWords 0 = .ok (.iconst 0, 1) := by decide +kernel
theorem dX0_fillWords_1 : decode cX0_fillWords 1 = .ok (.istore_n 3, 1) := by decide +kernel
theorem dX0_fillWords_2 : decode cX0_fillWords 2 = .ok (.iconst 0, 1) := by decide +kernel
theorem dX0_fillWords_3 : decode cX0_fillWords 3 = .ok (.istore 4, 2) := by decide +kernel
theorem dX0_fillWords_5 : decode cX0_fillWords 5 = .ok (.iconst (-1), 1) := by decide +kernel
theorem dX0_fillWords_6 : decode cX0_fillWords 6 = .ok (.istore 5, 2) := by decide +kernel
theorem dX0_fillWords_8 : decode cX0_fillWords 8 = .ok (.iconst (-1), 1) := by decide +kernel
theorem dX0_fillWords_9 : decode cX0_fillWords 9 = .ok (.istore 6, 2) := by decide +kernel
theorem dX0_fillWords_11 : decode cX0_fillWords 11 = .ok (.iconst 0, 1) := by decide +kernel
theorem dX0_fillWords_12 : decode cX0_fillWords 12 = .ok (.istore 7, 2) := by decide +kernel
theorem dX0_fillWords_14 : decode cX0_fillWords 14 = .ok (.iload 7, 2) := by decide +kernel
theorem dX0_fillWords_16 : decode cX0_fillWords 16 = .ok (.aload_n 1, 1) := by decide +kernel
theorem dX0_fillWords_17 : decode cX0_fillWords 17 = .ok (.getfield 64, 3) := by decide +kernel
theorem dX0_fillWords_20 : decode cX0_fillWords 20 = .ok (.if_icmp .ge 54, 3) := by decide +kernel
theorem dX0_fillWords_23 : decode cX0_fillWords 23 = .ok (.iload_n 2, 1) := by decide +kernel
theorem dX0_fillWords_24 : decode cX0_fillWords 24 = .ok (.iload 7, 2) := by decide +kernel
theorem dX0_fillWords_26 : decode cX0_fillWords 26 = .ok (.ishr, 1) := by decide +kernel
theorem dX0_fillWords_27 : decode cX0_fillWords 27 = .ok (.iconst 1, 1) := by decide +kernel
theorem dX0_fillWords_28 : decode cX0_fillWords 28 = .ok (.iand, 1) := by decide +kernel
theorem dX0_fillWords_29 : decode cX0_fillWords 29 = .ok (.iconst 1, 1) := by decide +kernel
theorem dX0_fillWords_30 : decode cX0_fillWords 30 = .ok (.if_icmp .ne 38, 3) := by decide +kernel
theorem dX0_fillWords_33 : decode cX0_fillWords 33 = .ok (.iload_n 3, 1) := by decide +kernel
theorem dX0_fillWords_34 : decode cX0_fillWords 34 = .ok (.iload 7, 2) := by decide +kernel
theorem dX0_fillWords_36 : decode cX0_fillWords 36 = .ok (.iconst 1, 1) := by decide +kernel
theorem dX0_fillWords_37 : decode cX0_fillWords 37 = .ok (.iadd, 1) := by decide +kernel
theorem dX0_fillWords_38 : decode cX0_fillWords 38 = .ok (.iadd, 1) := by decide +kernel
theorem dX0_fillWords_39 : decode cX0_fillWords 39 = .ok (.istore_n 3, 1) := by decide +kernel
theorem dX0_fillWords_40 : decode cX0_fillWords 40 = .ok (.iload 4, 2) := by decide +kernel
theorem dX0_fillWords_42 : decode cX0_fillWords 42 = .ok (.iload 7, 2) := by decide +kernel
theorem dX0_fillWords_44 : decode cX0_fillWords 44 = .ok (.iconst 1, 1) := by decide +kernel
theorem dX0_fillWords_45 : decode cX0_fillWords 45 = .ok (.iadd, 1) := by decide +kernel
theorem dX0_fillWords_46 : decode cX0_fillWords 46 = .ok (.ixor, 1) := by decide +kernel
theorem dX0_fillWords_47 : decode cX0_fillWords 47 = .ok (.istore 4, 2) := by decide +kernel
theorem dX0_fillWords_49 : decode cX0_fillWords 49 = .ok (.iload 5, 2) := by decide +kernel
theorem dX0_fillWords_51 : decode cX0_fillWords 51 = .ok (.iconst (-1), 1) := by decide +kernel
theorem dX0_fillWords_52 : decode cX0_fillWords 52 = .ok (.if_icmp .ne 8, 3) := by decide +kernel
theorem dX0_fillWords_55 : decode cX0_fillWords 55 = .ok (.iload 7, 2) := by decide +kernel
theorem dX0_fillWords_57 : decode cX0_fillWords 57 = .ok (.goto 5, 3) := by decide +kernel
theorem dX0_fillWords_60 : decode cX0_fillWords 60 = .ok (.iload 5, 2) := by decide +kernel
theorem dX0_fillWords_62 : decode cX0_fillWords 62 = .ok (.istore 5, 2) := by decide +kernel
theorem dX0_fillWords_64 : decode cX0_fillWords 64 = .ok (.iload 7, 2) := by decide +kernel
theorem dX0_fillWords_66 : decode cX0_fillWords 66 = .ok (.istore 6, 2) := by decide +kernel
theorem dX0_fillWords_68 : decode cX0_fillWords 68 = .ok (.iinc 7 1, 3) := by decide +kernel
theorem dX0_fillWords_71 : decode cX0_fillWords 71 = .ok (.goto (-57), 3) := by decide +kernel
theorem dX0_fillWords_74 : decode cX0_fillWords 74 = .ok (.aload_n 0, 1) := by decide +kernel
theorem dX0_fillWords_75 : decode cX0_fillWords 75 = .ok (.getfield 11, 3) := by decide +kernel
theorem dX0_fillWords_78 : decode cX0_fillWords 78 = .ok (.iconst 0, 1) := by decide +kernel
theorem dX0_fillWords_79 : decode cX0_fillWords 79 = .ok (.iload_n 2, 1) := by decide +kernel
theorem dX0_fillWords_80 : decode cX0_fillWords 80 = .ok (.iastore, 1) := by decide +kernel
theorem dX0_fillWords_81 : decode cX0_fillWords 81 = .ok (.aload_n 0, 1) := by decide +kernel
theorem dX0_fillWords_82 : decode cX0_fillWords 82 = .ok (.getfield 11, 3) := by decide +kernel
theorem dX0_fillWords_85 : decode cX0_fillWords 85 = .ok (.iconst 1, 1) := by decide +kernel
theorem dX0_fillWords_86 : decode cX0_fillWords 86 = .ok (.iload_n 2, 1) := by decide +kernel
theorem dX0_fillWords_87 : decode cX0_fillWords 87 = .ok (.invokestatic 67, 3) := by decide +kernel
theorem dX0_fillWords_90 : decode cX0_fillWords 90 = .ok (.iastore, 1) := by decide +kernel
theorem dX0_fillWords_91 : decode cX0_fillWords 91 = .ok (.aload_n 0, 1) := by decide +kernel
theorem dX0_fillWords_92 : decode cX0_fillWords 92 = .ok (.getfield 11, 3) := by decide +kernel
theorem dX0_fillWords_95 : decode cX0_fillWords 95 = .ok (.iconst 2, 1) := by decide +kernel
theorem dX0_fillWords_96 : decode cX0_fillWords 96 = .ok (.iload_n 3, 1) := by decide +kernel
theorem dX0_fillWords_97 : decode cX0_fillWords 97 = .ok (.iastore, 1) := by decide +kernel
theorem dX0_fillWords_98 : decode cX0_fillWords 98 = .ok (.aload_n 0, 1) := by decide +kernel
theorem dX0_fillWords_99 : decode cX0_fillWords 99 = .ok (.getfield 11, 3) := by decide +kernel
theorem dX0_fillWords_102 : decode cX0_fillWords 102 = .ok (.iconst 3, 1) := by decide +kernel
theorem dX0_fillWords_103 : decode cX0_fillWords 103 = .ok (.iload 4, 2) := by decide +kernel
theorem dX0_fillWords_105 : decode cX0_fillWords 105 = .ok (.iastore, 1) := by decide +kernel
theorem dX0_fillWords_106 : decode cX0_fillWords 106 = .ok (.aload_n 0, 1) := by decide +kernel
theorem dX0_fillWords_107 : decode cX0_fillWords 107 = .ok (.getfield 11, 3) := by decide +kernel
theorem dX0_fillWords_110 : decode cX0_fillWords 110 = .ok (.iconst 4, 1) := by decide +kernel
theorem dX0_fillWords_111 : decode cX0_fillWords 111 = .ok (.iload 5, 2) := by decide +kernel
theorem dX0_fillWords_113 : decode cX0_fillWords 113 = .ok (.iastore, 1) := by decide +kernel
theorem dX0_fillWords_114 : decode cX0_fillWords 114 = .ok (.aload_n 0, 1) := by decide +kernel
theorem dX0_fillWords_115 : decode cX0_fillWords 115 = .ok (.getfield 11, 3) := by decide +kernel
theorem dX0_fillWords_118 : decode cX0_fillWords 118 = .ok (.iconst 5, 1) := by decide +kernel
theorem dX0_fillWords_119 : decode cX0_fillWords 119 = .ok (.iload 6, 2) := by decide +kernel
theorem dX0_fillWords_121 : decode cX0_fillWords 121 = .ok (.iastore, 1) := by decide +kernel
theorem dX0_fillWords_122 : decode cX0_fillWords 122 = .ok (.aload_n 0, 1) := by decide +kernel
theorem dX0_fillWords_123 : decode cX0_fillWords 123 = .ok (.getfield 11, 3) := by decide +kernel
theorem dX0_fillWords_126 : decode cX0_fillWords 126 = .ok (.bipush 6, 2) := by decide +kernel
theorem dX0_fillWords_128 : decode cX0_fillWords 128 = .ok (.aload_n 1, 1) := by decide +kernel
theorem dX0_fillWords_129 : decode cX0_fillWords 129 = .ok (.getfield 64, 3) := by decide +kernel
theorem dX0_fillWords_132 : decode cX0_fillWords 132 = .ok (.iastore, 1) := by decide +kernel
theorem dX0_fillWords_133 : decode cX0_fillWords 133 = .ok (.aload_n 0, 1) := by decide +kernel
theorem dX0_fillWords_134 : decode cX0_fillWords 134 = .ok (.getfield 11, 3) := by decide +kernel
theorem dX0_fillWords_137 : decode cX0_fillWords 137 = .ok (.bipush 7, 2) := by decide +kernel
theorem dX0_fillWords_139 : decode cX0_fillWords 139 = .ok (.aload_n 1, 1) := by decide +kernel
theorem dX0_fillWords_140 : decode cX0_fillWords 140 = .ok (.getfield 42, 3) := by decide +kernel
theorem dX0_fillWords_143 : decode cX0_fillWords 143 = .ok (.iastore, 1) := by decide +kernel
theorem dX0_fillWords_144 : decode cX0_fillWords 144 = .ok (.return_, 1) := by decide +kernel
theorem dX1_init_0 : decode cX1_init 0 = .ok (.aload_n 0, 1) := by decide +kernel
theorem dX1_init_1 : decode cX1_init 1 = .ok (.invokespecial 3, 3) := by decide +kernel
theorem dX1_init_4 : decode cX1_init 4 = .ok (.aload_n 0, 1) := by decide +kernel
theorem dX1_init_5 : decode cX1_init 5 = .ok (.bipush 8, 2) := by decide +kernel
theorem dX1_init_7 : decode cX1_init 7 = .ok (.newarray .int, 2) := by decide +kernel
theorem dX1_init_9 : decode cX1_init 9 = .ok (.putfield 9, 3) := by decide +kernel
theorem dX1_init_12 : decode cX1_init 12 = .ok (.aload_n 0, 1) := by decide +kernel
theorem dX1_init_13 : decode cX1_init 13 = .ok (.sipush 256, 3) := by decide +kernel
theorem dX1_init_16 : decode cX1_init 16 = .ok (.newarray .int, 2) := by decide +kernel
theorem dX1_init_18 : decode cX1_init 18 = .ok (.putfield 15, 3) := by decide +kernel
theorem dX1_init_21 : decode cX1_init 21 = .ok (.aload_n 0, 1) := by decide +kernel
theorem dX1_init_22 : decode cX1_init 22 = .ok (.bipush 6, 2) := by decide +kernel
theorem dX1_init_24 : decode cX1_init 24 = .ok (.anewarray 18, 3) := by decide +kernel
theorem dX1_init_27 : decode cX1_init 27 = .ok (.putfield 20, 3) := by decide +kernel
theorem dX1_init_30 : decode cX1_init 30 = .ok (.aload_n 0, 1) := by decide +kernel
theorem dX1_init_31 : decode cX1_init 31 = .ok (.bipush 24, 2) := by decide +kernel
theorem dX1_init_33 : decode cX1_init 33 = .ok (.newarray .int, 2) := by decide +kernel
theorem dX1_init_35 : decode cX1_init 35 = .ok (.putfield 24, 3) := by decide +kernel
theorem dX1_init_38 : decode cX1_init 38 = .ok (.aload_n 0, 1) := by decide +kernel
theorem dX1_init_39 : decode cX1_init 39 = .ok (.bipush 16, 2) := by decide +kernel
theorem dX1_init_41 : decode cX1_init 41 = .ok (.newarray .int, 2) := by decide +kernel
theorem dX1_init_43 : decode cX1_init 43 = .ok (.putfield 27, 3) := by decide +kernel
theorem dX1_init_46 : decode cX1_init 46 = .ok (.aload_n 0, 1) := by decide +kernel
theorem dX1_init_47 : decode cX1_init 47 = .ok (.iconst 3, 1) := by decide +kernel
theorem dX1_init_48 : decode cX1_init 48 = .ok (.putfield 30, 3) := by decide +kernel
theorem dX1_init_51 : decode cX1_init 51 = .ok (.aload_n 0, 1) := by decide +kernel
theorem dX1_init_52 : decode cX1_init 52 = .ok (.iconst 4, 1) := by decide +kernel
theorem dX1_init_53 : decode cX1_init 53 = .ok (.putfield 34, 3) := by decide +kernel
theorem dX1_init_56 : decode cX1_init 56 = .ok (.aload_n 0, 1) := by decide +kernel
theorem dX1_init_57 : decode cX1_init 57 = .ok (.getfield 9, 3) := by decide +kernel
theorem dX1_init_60 : decode cX1_init 60 = .ok (.iconst 1, 1) := by decide +kernel
theorem dX1_init_61 : decode cX1_init 61 = .ok (.invokestatic 37, 3) := by decide +kernel
theorem dX1_init_64 : decode cX1_init 64 = .ok (.aload_n 0, 1) := by decide +kernel
theorem dX1_init_65 : decode cX1_init 65 = .ok (.getfield 15, 3) := by decide +kernel
theorem dX1_init_68 : decode cX1_init 68 = .ok (.iconst (-1), 1) := by decide +kernel
theorem dX1_init_69 : decode cX1_init 69 = .ok (.invokestatic 37, 3) := by decide +kernel
theorem dX1_init_72 : decode cX1_init 72 = .ok (.return_, 1) := by decide +kernel
theorem dX1_full_0 : decode cX1_full 0 = .ok (.iconst 1, 1) := by decide +kernel
theorem dX1_full_1 : decode cX1_full 1 = .ok (.aload_n 0, 1) := by decide +kernel
theorem dX1_full_2 : decode cX1_full 2 = .ok (.getfield 30, 3) := by decide +kernel
theorem dX1_full_5 : decode cX1_full 5 = .ok (.ishl, 1) := by decide +kernel
theorem dX1_full_6 : decode cX1_full 6 = .ok (.iconst 1, 1) := by decide +kernel
theorem dX1_full_7 : decode cX1_full 7 = .ok (.isub, 1) := by decide +kernel
theorem dX1_full_8 : decode cX1_full 8 = .ok (.ireturn, 1) := by decide +kernel
theorem dX1_isLamp_0 : decode cX1_isLamp 0 = .ok (.iload_n 1, 1) := by decide +kernel
theorem dX1_isLamp_1 : decode cX1_isLamp 1 = .ok (.ifCond .lt 15, 3) := by decide +kernel
theorem dX1_isLamp_4 : decode cX1_isLamp 4 = .ok (.iload_n 1, 1) := by decide +kernel
theorem dX1_isLamp_5 : decode cX1_isLamp 5 = .ok (.aload_n 0, 1) := by decide +kernel
theorem dX1_isLamp_6 : decode cX1_isLamp 6 = .ok (.getfield 30, 3) := by decide +kernel
theorem dX1_isLamp_9 : decode cX1_isLamp 9 = .ok (.if_icmp .ge 7, 3) := by decide +kernel
theorem dX1_isLamp_12 : decode cX1_isLamp 12 = .ok (.iconst 1, 1) := by decide +kernel
theorem dX1_isLamp_13 : decode cX1_isLamp 13 = .ok (.goto 4, 3) := by decide +kernel
theorem dX1_isLamp_16 : decode cX1_isLamp 16 = .ok (.iconst 0, 1) := by decide +kernel
theorem dX1_isLamp_17 : decode cX1_isLamp 17 = .ok (.ireturn, 1) := by decide +kernel
theorem dX1_isState_0 : decode cX1_isState 0 = .ok (.iload_n 1, 1) := by decide +kernel
theorem dX1_isState_1 : decode cX1_isState 1 = .ok (.ifCond .lt 15, 3) := by decide +kernel
theorem dX1_isState_4 : decode cX1_isState 4 = .ok (.iload_n 1, 1) := by decide +kernel
theorem dX1_isState_5 : decode cX1_isState 5 = .ok (.aload_n 0, 1) := by decide +kernel
theorem dX1_isState_6 : decode cX1_isState 6 = .ok (.invokevirtual 43, 3) := by decide +kernel
theorem dX1_isState_9 : decode cX1_isState 9 = .ok (.if_icmp .gt 7, 3) := by decide +kernel
theorem dX1_isState_12 : decode cX1_isState 12 = .ok (.iconst 1, 1) := by decide +kernel
theorem dX1_isState_13 : decode cX1_isState 13 = .ok (.goto 4, 3) := by decide +kernel
theorem dX1_isState_16 : decode cX1_isState 16 = .ok (.iconst 0, 1) := by decide +kernel
theorem dX1_isState_17 : decode cX1_isState 17 = .ok (.ireturn, 1) := by decide +kernel
theorem dX1_isNews_0 : decode cX1_isNews 0 = .ok (.iload_n 1, 1) := by decide +kernel
theorem dX1_isNews_1 : decode cX1_isNews 1 = .ok (.ifCond .lt 15, 3) := by decide +kernel
theorem dX1_isNews_4 : decode cX1_isNews 4 = .ok (.iload_n 1, 1) := by decide +kernel
theorem dX1_isNews_5 : decode cX1_isNews 5 = .ok (.aload_n 0, 1) := by decide +kernel
theorem dX1_isNews_6 : decode cX1_isNews 6 = .ok (.getfield 34, 3) := by decide +kernel
theorem dX1_isNews_9 : decode cX1_isNews 9 = .ok (.if_icmp .ge 7, 3) := by decide +kernel
theorem dX1_isNews_12 : decode cX1_isNews 12 = .ok (.iconst 1, 1) := by decide +kernel
theorem dX1_isNews_13 : decode cX1_isNews 13 = .ok (.goto 4, 3) := by decide +kernel
theorem dX1_isNews_16 : decode cX1_isNews 16 = .ok (.iconst 0, 1) := by decide +kernel
theorem dX1_isNews_17 : decode cX1_isNews 17 = .ok (.ireturn, 1) := by decide +kernel
theorem dX1_isReached_0 : decode cX1_isReached 0 = .ok (.iload_n 1, 1) := by decide +kernel
theorem dX1_isReached_1 : decode cX1_isReached 1 = .ok (.ifCond .eq 22, 3) := by decide +kernel
theorem dX1_isReached_4 : decode cX1_isReached 4 = .ok (.aload_n 0, 1) := by decide +kernel
theorem dX1_isReached_5 : decode cX1_isReached 5 = .ok (.getfield 15, 3) := by decide +kernel
theorem dX1_isReached_8 : decode cX1_isReached 8 = .ok (.iload_n 1, 1) := by decide +kernel
theorem dX1_isReached_9 : decode cX1_isReached 9 = .ok (.iaload, 1) := by decide +kernel
theorem dX1_isReached_10 : decode cX1_isReached 10 = .ok (.iconst (-1), 1) := by decide +kernel
theorem dX1_isReached_11 : decode cX1_isReached 11 = .ok (.if_icmp .eq 16, 3) := by decide +kernel
theorem dX1_isReached_14 : decode cX1_isReached 14 = .ok (.iload_n 1, 1) := by decide +kernel
theorem dX1_isReached_15 : decode cX1_isReached 15 = .ok (.aload_n 0, 1) := by decide +kernel
theorem dX1_isReached_16 : decode cX1_isReached 16 = .ok (.getfield 47, 3) := by decide +kernel
theorem dX1_isReached_19 : decode cX1_isReached 19 = .ok (.iand, 1) := by decide +kernel
theorem dX1_isReached_20 : decode cX1_isReached 20 = .ok (.ifCond .ne 7, 3) := by decide +kernel
theorem dX1_isReached_23 : decode cX1_isReached 23 = .ok (.iconst 1, 1) := by decide +kernel
theorem dX1_isReached_24 : decode cX1_isReached 24 = .ok (.goto 4, 3) := by decide +kernel
theorem dX1_isReached_27 : decode cX1_isReached 27 = .ok (.iconst 0, 1) := by decide +kernel
theorem dX1_isReached_28 : decode cX1_isReached 28 = .ok (.ireturn, 1) := by decide +kernel
theorem dX1_canLight_0 : decode cX1_canLight 0 = .ok (.iload_n 2, 1) := by decide +kernel
theorem dX1_canLight_1 : decode cX1_canLight 1 = .ok (.iload_n 1, 1) := by decide +kernel
theorem dX1_canLight_2 : decode cX1_canLight 2 = .ok (.ixor, 1) := by decide +kernel
theorem dX1_canLight_3 : decode cX1_canLight 3 = .ok (.aload_n 0, 1) := by decide +kernel
theorem dX1_canLight_4 : decode cX1_canLight 4 = .ok (.getfield 47, 3) := by decide +kernel
theorem dX1_canLight_7 : decode cX1_canLight 7 = .ok (.iand, 1) := by decide +kernel
theorem dX1_canLight_8 : decode cX1_canLight 8 = .ok (.ifCond .ne 7, 3) := by decide +kernel
theorem dX1_canLight_11 : decode cX1_canLight 11 = .ok (.iconst 1, 1) := by decide +kernel
theorem dX1_canLight_12 : decode cX1_canLight 12 = .ok (.goto 4, 3) := by decide +kernel
theorem dX1_canLight_15 : decode cX1_canLight 15 = .ok (.iconst 0, 1) := by decide +kernel
theorem dX1_canLight_16 : decode cX1_canLight 16 = .ok (.ireturn, 1) := by decide +kernel
theorem dX1_newsBit_0 : decode cX1_newsBit 0 = .ok (.aload_n 0, 1) := by decide +kernel
theorem dX1_newsBit_1 : decode cX1_newsBit 1 = .ok (.getfield 15, 3) := by decide +kernel
theorem dX1_newsBit_4 : decode cX1_newsBit 4 = .ok (.iload_n 1, 1) := by decide +kernel
theorem dX1_newsBit_5 : decode cX1_newsBit 5 = .ok (.iaload, 1) := by decide +kernel
theorem dX1_newsBit_6 : decode cX1_newsBit 6 = .ok (.iconst (-1), 1) := by decide +kernel
theorem dX1_newsBit_7 : decode cX1_newsBit 7 = .ok (.if_icmp .eq 22, 3) := by decide +kernel
theorem dX1_newsBit_10 : decode cX1_newsBit 10 = .ok (.aload_n 0, 1) := by decide +kernel
theorem dX1_newsBit_11 : decode cX1_newsBit 11 = .ok (.iload_n 1, 1) := by decide +kernel
theorem dX1_newsBit_12 : decode cX1_newsBit 12 = .ok (.invokevirtual 50, 3) := by decide +kernel
theorem dX1_newsBit_15 : decode cX1_newsBit 15 = .ok (.ifCond .eq 14, 3) := by decide +kernel
theorem dX1_newsBit_18 : decode cX1_newsBit 18 = .ok (.iconst 1, 1) := by decide +kernel
theorem dX1_newsBit_19 : decode cX1_newsBit 19 = .ok (.aload_n 0, 1) := by decide +kernel
theorem dX1_newsBit_20 : decode cX1_newsBit 20 = .ok (.getfield 15, 3) := by decide +kernel
theorem dX1_newsBit_23 : decode cX1_newsBit 23 = .ok (.iload_n 1, 1) := by decide +kernel
theorem dX1_newsBit_24 : decode cX1_newsBit 24 = .ok (.iaload, 1) := by decide +kernel
theorem dX1_newsBit_25 : decode cX1_newsBit 25 = .ok (.ishl, 1) := by decide +kernel
theorem dX1_newsBit_26 : decode cX1_newsBit 26 = .ok (.goto 4, 3) := by decide +kernel
theorem dX1_newsBit_29 : decode cX1_newsBit 29 = .ok (.iconst 0, 1) := by decide +kernel
theorem dX1_newsBit_30 : decode cX1_newsBit 30 = .ok (.ireturn, 1) := by decide +kernel
theorem dX1_readCount_0 : decode cX1_readCount 0 = .ok (.iconst 0, 1) := by decide +kernel
theorem dX1_readCount_1 : decode cX1_readCount 1 = .ok (.istore_n 1, 1) := by decide +kernel
theorem dX1_readCount_2 : decode cX1_readCount 2 = .ok (.aload_n 0, 1) := by decide +kernel
theorem dX1_readCount_3 : decode cX1_readCount 3 = .ok (.invokevirtual 43, 3) := by decide +kernel
theorem dX1_readCount_6 : decode cX1_readCount 6 = .ok (.istore_n 2, 1) := by decide +kernel
theorem dX1_readCount_7 : decode cX1_readCount 7 = .ok (.iconst 0, 1) := by decide +kernel
theorem dX1_readCount_8 : decode cX1_readCount 8 = .ok (.istore_n 3, 1) := by decide +kernel
theorem dX1_readCount_9 : decode cX1_readCount 9 = .ok (.iload_n 3, 1) := by decide +kernel
theorem dX1_readCount_10 : decode cX1_readCount 10 = .ok (.iload_n 2, 1) := by decide +kernel
theorem dX1_readCount_11 : decode cX1_readCount 11 = .ok (.if_icmp .gt 27, 3) := by decide +kernel
theorem dX1_readCount_14 : decode cX1_readCount 14 = .ok (.iload_n 1, 1) := by decide +kernel
theorem dX1_readCount_15 : decode cX1_readCount 15 = .ok (.aload_n 0, 1) := by decide +kernel
theorem dX1_readCount_16 : decode cX1_readCount 16 = .ok (.getfield 15, 3) := by decide +kernel
theorem dX1_readCount_19 : decode cX1_readCount 19 = .ok (.iload_n 3, 1) := by decide +kernel
theorem dX1_readCount_20 : decode cX1_readCount 20 = .ok (.iaload, 1) := by decide +kernel
theorem dX1_readCount_21 : decode cX1_readCount 21 = .ok (.iconst (-1), 1) := by decide +kernel
theorem dX1_readCount_22 : decode cX1_readCount 22 = .ok (.if_icmp .ne 7, 3) := by decide +kernel
theorem dX1_readCount_25 : decode cX1_readCount 25 = .ok (.iconst 0, 1) := by decide +kernel
theorem dX1_readCount_26 : decode cX1_readCount 26 = .ok (.goto 4, 3) := by decide +kernel
theorem dX1_readCount_29 : decode cX1_readCount 29 = .ok (.iconst 1, 1) := by decide +kernel
theorem dX1_readCount_30 : decode cX1_readCount 30 = .ok (.iadd, 1) := by decide +kernel
theorem dX1_readCount_31 : decode cX1_readCount 31 = .ok (.istore_n 1, 1) := by decide +kernel
theorem dX1_readCount_32 : decode cX1_readCount 32 = .ok (.iinc 3 1, 3) := by decide +kernel
theorem dX1_readCount_35 : decode cX1_readCount 35 = .ok (.goto (-26), 3) := by decide +kernel
theorem dX1_readCount_38 : decode cX1_readCount 38 = .ok (.iload_n 1, 1) := by decide +kernel
theorem dX1_readCount_39 : decode cX1_readCount 39 = .ok (.ireturn, 1) := by decide +kernel
theorem dX1_countReached_0 : decode cX1_countReached 0 = .ok (.iconst 0, 1) := by decide +kernel
theorem dX1_countReached_1 : decode cX1_countReached 1 = .ok (.istore_n 1, 1) := by decide +kernel
theorem dX1_countReached_2 : decode cX1_countReached 2 = .ok (.aload_n 0, 1) := by decide +kernel
theorem dX1_countReached_3 : decode cX1_countReached 3 = .ok (.invokevirtual 43, 3) := by decide +kernel
theorem dX1_countReached_6 : decode cX1_countReached 6 = .ok (.istore_n 2, 1) := by decide +kernel
theorem dX1_countReached_7 : decode cX1_countReached 7 = .ok (.iconst 0, 1) := by decide +kernel
theorem dX1_countReached_8 : decode cX1_countReached 8 = .ok (.istore_n 3, 1) := by decide +kernel
theorem dX1_countReached_9 : decode cX1_countReached 9 = .ok (.iload_n 3, 1) := by decide +kernel
theorem dX1_countReached_10 : decode cX1_countReached 10 = .ok (.iload_n 2, 1) := by decide +kernel
theorem dX1_countReached_11 : decode cX1_countReached 11 = .ok (.if_icmp .gt 25, 3) := by decide +kernel
theorem dX1_countReached_14 : decode cX1_countReached 14 = .ok (.iload_n 1, 1) := by decide +kernel
theorem dX1_countReached_15 : decode cX1_countReached 15 = .ok (.aload_n 0, 1) := by decide +kernel
theorem dX1_countReached_16 : decode cX1_countReached 16 = .ok (.iload_n 3, 1) := by decide +kernel
theorem dX1_countReached_17 : decode cX1_countReached 17 = .ok (.invokevirtual 50, 3) := by decide +kernel
theorem dX1_countReached_20 : decode cX1_countReached 20 = .ok (.ifCond .eq 7, 3) := by decide +kernel
theorem dX1_countReached_23 : decode cX1_countReached 23 = .ok (.iconst 1, 1) := by decide +kernel
theorem dX1_countReached_24 : decode cX1_countReached 24 = .ok (.goto 4, 3) := by decide +kernel
theorem dX1_countReached_27 : decode cX1_countReached 27 = .ok (.iconst 0, 1) := by decide +kernel
theorem dX1_countReached_28 : decode cX1_countReached 28 = .ok (.iadd, 1) := by decide +kernel
theorem dX1_countReached_29 : decode cX1_countReached 29 = .ok (.istore_n 1, 1) := by decide +kernel
theorem dX1_countReached_30 : decode cX1_countReached 30 = .ok (.iinc 3 1, 3) := by decide +kernel
theorem dX1_countReached_33 : decode cX1_countReached 33 = .ok (.goto (-24), 3) := by decide +kernel
theorem dX1_countReached_36 : decode cX1_countReached 36 = .ok (.iload_n 1, 1) := by decide +kernel
theorem dX1_countReached_37 : decode cX1_countReached 37 = .ok (.ireturn, 1) := by decide +kernel
theorem dX1_countWays_0 : decode cX1_countWays 0 = .ok (.iconst 0, 1) := by decide +kernel
theorem dX1_countWays_1 : decode cX1_countWays 1 = .ok (.istore_n 3, 1) := by decide +kernel
theorem dX1_countWays_2 : decode cX1_countWays 2 = .ok (.aload_n 0, 1) := by decide +kernel
theorem dX1_countWays_3 : decode cX1_countWays 3 = .ok (.invokevirtual 43, 3) := by decide +kernel
theorem dX1_countWays_6 : decode cX1_countWays 6 = .ok (.istore 4, 2) := by decide +kernel
theorem dX1_countWays_8 : decode cX1_countWays 8 = .ok (.iload_n 1, 1) := by decide +kernel
theorem dX1_countWays_9 : decode cX1_countWays 9 = .ok (.istore 5, 2) := by decide +kernel
theorem dX1_countWays_11 : decode cX1_countWays 11 = .ok (.iload 5, 2) := by decide +kernel
theorem dX1_countWays_13 : decode cX1_countWays 13 = .ok (.iload 4, 2) := by decide +kernel
theorem dX1_countWays_15 : decode cX1_countWays 15 = .ok (.if_icmp .gt 43, 3) := by decide +kernel
theorem dX1_countWays_18 : decode cX1_countWays 18 = .ok (.iload_n 3, 1) := by decide +kernel
theorem dX1_countWays_19 : decode cX1_countWays 19 = .ok (.aload_n 0, 1) := by decide +kernel
theorem dX1_countWays_20 : decode cX1_countWays 20 = .ok (.getfield 15, 3) := by decide +kernel
theorem dX1_countWays_23 : decode cX1_countWays 23 = .ok (.iload 5, 2) := by decide +kernel
theorem dX1_countWays_25 : decode cX1_countWays 25 = .ok (.iaload, 1) := by decide +kernel
theorem dX1_countWays_26 : decode cX1_countWays 26 = .ok (.iload_n 2, 1) := by decide +kernel
theorem dX1_countWays_27 : decode cX1_countWays 27 = .ok (.if_icmp .ne 17, 3) := by decide +kernel
theorem dX1_countWays_30 : decode cX1_countWays 30 = .ok (.aload_n 0, 1) := by decide +kernel
theorem dX1_countWays_31 : decode cX1_countWays 31 = .ok (.iload_n 1, 1) := by decide +kernel
theorem dX1_countWays_32 : decode cX1_countWays 32 = .ok (.iload 5, 2) := by decide +kernel
theorem dX1_countWays_34 : decode cX1_countWays 34 = .ok (.invokevirtual 54, 3) := by decide +kernel
theorem dX1_countWays_37 : decode cX1_countWays 37 = .ok (.ifCond .eq 7, 3) := by decide +kernel
theorem dX1_countWays_40 : decode cX1_countWays 40 = .ok (.iconst 1, 1) := by decide +kernel
theorem dX1_countWays_41 : decode cX1_countWays 41 = .ok (.goto 4, 3) := by decide +kernel
theorem dX1_countWays_44 : decode cX1_countWays 44 = .ok (.iconst 0, 1) := by decide +kernel
theorem dX1_countWays_45 : decode cX1_countWays 45 = .ok (.iadd, 1) := by decide +kernel
theorem dX1_countWays_46 : decode cX1_countWays 46 = .ok (.istore_n 3, 1) := by decide +kernel
theorem dX1_countWays_47 : decode cX1_countWays 47 = .ok (.iload 5, 2) := by decide +kernel
theorem dX1_countWays_49 : decode cX1_countWays 49 = .ok (.iconst 1, 1) := by decide +kernel
theorem dX1_countWays_50 : decode cX1_countWays 50 = .ok (.iadd, 1) := by decide +kernel
theorem dX1_countWays_51 : decode cX1_countWays 51 = .ok (.iload_n 1, 1) := by decide +kernel
theorem dX1_countWays_52 : decode cX1_countWays 52 = .ok (.ior, 1) := by decide +kernel
theorem dX1_countWays_53 : decode cX1_countWays 53 = .ok (.istore 5, 2) := by decide +kernel
theorem dX1_countWays_55 : decode cX1_countWays 55 = .ok (.goto (-44), 3) := by decide +kernel
theorem dX1_countWays_58 : decode cX1_countWays 58 = .ok (.iload_n 3, 1) := by decide +kernel
theorem dX1_countWays_59 : decode cX1_countWays 59 = .ok (.ireturn, 1) := by decide +kernel
theorem dX1_forget_0 : decode cX1_forget 0 = .ok (.aload_n 0, 1) := by decide +kernel
theorem dX1_forget_1 : decode cX1_forget 1 = .ok (.getfield 15, 3) := by decide +kernel
theorem dX1_forget_4 : decode cX1_forget 4 = .ok (.iconst (-1), 1) := by decide +kernel
theorem dX1_forget_5 : decode cX1_forget 5 = .ok (.invokestatic 37, 3) := by decide +kernel
theorem dX1_forget_8 : decode cX1_forget 8 = .ok (.aload_n 0, 1) := by decide +kernel
theorem dX1_forget_9 : decode cX1_forget 9 = .ok (.iconst 0, 1) := by decide +kernel
theorem dX1_forget_10 : decode cX1_forget 10 = .ok (.putfield 58, 3) := by decide +kernel
theorem dX1_forget_13 : decode cX1_forget 13 = .ok (.aload_n 0, 1) := by decide +kernel
theorem dX1_forget_14 : decode cX1_forget 14 = .ok (.iconst 0, 1) := by decide +kernel
theorem dX1_forget_15 : decode cX1_forget 15 = .ok (.putfield 61, 3) := by decide +kernel
theorem dX1_forget_18 : decode cX1_forget 18 = .ok (.aload_n 0, 1) := by decide +kernel
theorem dX1_forget_19 : decode cX1_forget 19 = .ok (.iconst 0, 1) := by decide +kernel
theorem dX1_forget_20 : decode cX1_forget 20 = .ok (.putfield 64, 3) := by decide +kernel
theorem dX1_forget_23 : decode cX1_forget 23 = .ok (.return_, 1) := by decide +kernel
theorem dX1_copyFrom_0 : decode cX1_copyFrom 0 = .ok (.aload_n 1, 1) := by decide +kernel
theorem dX1_copyFrom_1 : decode cX1_copyFrom 1 = .ok (.getfield 9, 3) := by decide +kernel
theorem dX1_copyFrom_4 : decode cX1_copyFrom 4 = .ok (.iconst 0, 1) := by decide +kernel
theorem dX1_copyFrom_5 : decode cX1_copyFrom 5 = .ok (.aload_n 0, 1) := by decide +kernel
theorem dX1_copyFrom_6 : decode cX1_copyFrom 6 = .ok (.getfield 9, 3) := by decide +kernel
theorem dX1_copyFrom_9 : decode cX1_copyFrom 9 = .ok (.iconst 0, 1) := by decide +kernel
theorem dX1_copyFrom_10 : decode cX1_copyFrom 10 = .ok (.bipush 8, 2) := by decide +kernel
theorem dX1_copyFrom_12 : decode cX1_copyFrom 12 = .ok (.invokestatic 67, 3) := by decide +kernel
theorem dX1_copyFrom_15 : decode cX1_copyFrom 15 = .ok (.aload_n 1, 1) := by decide +kernel
theorem dX1_copyFrom_16 : decode cX1_copyFrom 16 = .ok (.getfield 15, 3) := by decide +kernel
theorem dX1_copyFrom_19 : decode cX1_copyFrom 19 = .ok (.iconst 0, 1) := by decide +kernel
theorem dX1_copyFrom_20 : decode cX1_copyFrom 20 = .ok (.aload_n 0, 1) := by decide +kernel
theorem dX1_copyFrom_21 : decode cX1_copyFrom 21 = .ok (.getfield 15, 3) := by decide +kernel
theorem dX1_copyFrom_24 : decode cX1_copyFrom 24 = .ok (.iconst 0, 1) := by decide +kernel
theorem dX1_copyFrom_25 : decode cX1_copyFrom 25 = .ok (.sipush 256, 3) := by decide +kernel
theorem dX1_copyFrom_28 : decode cX1_copyFrom 28 = .ok (.invokestatic 67, 3) := by decide +kernel
theorem dX1_copyFrom_31 : decode cX1_copyFrom 31 = .ok (.aload_n 1, 1) := by decide +kernel
theorem dX1_copyFrom_32 : decode cX1_copyFrom 32 = .ok (.getfield 24, 3) := by decide +kernel
theorem dX1_copyFrom_35 : decode cX1_copyFrom 35 = .ok (.iconst 0, 1) := by decide +kernel
theorem dX1_copyFrom_36 : decode cX1_copyFrom 36 = .ok (.aload_n 0, 1) := by decide +kernel
theorem dX1_copyFrom_37 : decode cX1_copyFrom 37 = .ok (.getfield 24, 3) := by decide +kernel
theorem dX1_copyFrom_40 : decode cX1_copyFrom 40 = .ok (.iconst 0, 1) := by decide +kernel
theorem dX1_copyFrom_41 : decode cX1_copyFrom 41 = .ok (.bipush 24, 2) := by decide +kernel
theorem dX1_copyFrom_43 : decode cX1_copyFrom 43 = .ok (.invokestatic 67, 3) := by decide +kernel
theorem dX1_copyFrom_46 : decode cX1_copyFrom 46 = .ok (.aload_n 1, 1) := by decide +kernel
theorem dX1_copyFrom_47 : decode cX1_copyFrom 47 = .ok (.getfield 27, 3) := by decide +kernel
theorem dX1_copyFrom_50 : decode cX1_copyFrom 50 = .ok (.iconst 0, 1) := by decide +kernel
theorem dX1_copyFrom_51 : decode cX1_copyFrom 51 = .ok (.aload_n 0, 1) := by decide +kernel
theorem dX1_copyFrom_52 : decode cX1_copyFrom 52 = .ok (.getfield 27, 3) := by decide +kernel
theorem dX1_copyFrom_55 : decode cX1_copyFrom 55 = .ok (.iconst 0, 1) := by decide +kernel
theorem dX1_copyFrom_56 : decode cX1_copyFrom 56 = .ok (.bipush 16, 2) := by decide +kernel
theorem dX1_copyFrom_58 : decode cX1_copyFrom 58 = .ok (.invokestatic 67, 3) := by decide +kernel
theorem dX1_copyFrom_61 : decode cX1_copyFrom 61 = .ok (.iconst 0, 1) := by decide +kernel
theorem dX1_copyFrom_62 : decode cX1_copyFrom 62 = .ok (.istore_n 2, 1) := by decide +kernel
theorem dX1_copyFrom_63 : decode cX1_copyFrom 63 = .ok (.iload_n 2, 1) := by decide +kernel
theorem dX1_copyFrom_64 : decode cX1_copyFrom 64 = .ok (.bipush 6, 2) := by decide +kernel
theorem dX1_copyFrom_66 : decode cX1_copyFrom 66 = .ok (.if_icmp .ge 21, 3) := by decide +kernel
theorem dX1_copyFrom_69 : decode cX1_copyFrom 69 = .ok (.aload_n 0, 1) := by decide +kernel
theorem dX1_copyFrom_70 : decode cX1_copyFrom 70 = .ok (.getfield 20, 3) := by decide +kernel
theorem dX1_copyFrom_73 : decode cX1_copyFrom 73 = .ok (.iload_n 2, 1) := by decide +kernel
theorem dX1_copyFrom_74 : decode cX1_copyFrom 74 = .ok (.aload_n 1, 1) := by decide +kernel
theorem dX1_copyFrom_75 : decode cX1_copyFrom 75 = .ok (.getfield 20, 3) := by decide +kernel
theorem dX1_copyFrom_78 : decode cX1_copyFrom 78 = .ok (.iload_n 2, 1) := by decide +kernel
theorem dX1_copyFrom_79 : decode cX1_copyFrom 79 = .ok (.aaload, 1) := by decide +kernel
theorem dX1_copyFrom_80 : decode cX1_copyFrom 80 = .ok (.aastore, 1) := by decide +kernel
theorem dX1_copyFrom_81 : decode cX1_copyFrom 81 = .ok (.iinc 2 1, 3) := by decide +kernel
theorem dX1_copyFrom_84 : decode cX1_copyFrom 84 = .ok (.goto (-21), 3) := by decide +kernel
theorem dX1_copyFrom_87 : decode cX1_copyFrom 87 = .ok (.aload_n 0, 1) := by decide +kernel
theorem dX1_copyFrom_88 : decode cX1_copyFrom 88 = .ok (.aload_n 1, 1) := by decide +kernel
theorem dX1_copyFrom_89 : decode cX1_copyFrom 89 = .ok (.getfield 30, 3) := by decide +kernel
theorem dX1_copyFrom_92 : decode cX1_copyFrom 92 = .ok (.putfield 30, 3) := by decide +kernel
theorem dX1_copyFrom_95 : decode cX1_copyFrom 95 = .ok (.aload_n 0, 1) := by decide +kernel
theorem dX1_copyFrom_96 : decode cX1_copyFrom 96 = .ok (.aload_n 1, 1) := by decide +kernel
theorem dX1_copyFrom_97 : decode cX1_copyFrom 97 = .ok (.getfield 34, 3) := by decide +kernel
theorem dX1_copyFrom_100 : decode cX1_copyFrom 100 = .ok (.putfield 34, 3) := by decide +kernel
theorem dX1_copyFrom_103 : decode cX1_copyFrom 103 = .ok (.aload_n 0, 1) := by decide +kernel
theorem dX1_copyFrom_104 : decode cX1_copyFrom 104 = .ok (.aload_n 1, 1) := by decide +kernel
theorem dX1_copyFrom_105 : decode cX1_copyFrom 105 = .ok (.getfield 47, 3) := by decide +kernel
theorem dX1_copyFrom_108 : decode cX1_copyFrom 108 = .ok (.putfield 47, 3) := by decide +kernel
theorem dX1_copyFrom_111 : decode cX1_copyFrom 111 = .ok (.aload_n 0, 1) := by decide +kernel
theorem dX1_copyFrom_112 : decode cX1_copyFrom 112 = .ok (.aload_n 1, 1) := by decide +kernel
theorem dX1_copyFrom_113 : decode cX1_copyFrom 113 = .ok (.getfield 58, 3) := by decide +kernel
theorem dX1_copyFrom_116 : decode cX1_copyFrom 116 = .ok (.putfield 58, 3) := by decide +kernel
theorem dX1_copyFrom_119 : decode cX1_copyFrom 119 = .ok (.aload_n 0, 1) := by decide +kernel
theorem dX1_copyFrom_120 : decode cX1_copyFrom 120 = .ok (.aload_n 1, 1) := by decide +kernel
theorem dX1_copyFrom_121 : decode cX1_copyFrom 121 = .ok (.getfield 73, 3) := by decide +kernel
theorem dX1_copyFrom_124 : decode cX1_copyFrom 124 = .ok (.putfield 73, 3) := by decide +kernel
theorem dX1_copyFrom_127 : decode cX1_copyFrom 127 = .ok (.aload_n 0, 1) := by decide +kernel
theorem dX1_copyFrom_128 : decode cX1_copyFrom 128 = .ok (.aload_n 1, 1) := by decide +kernel
theorem dX1_copyFrom_129 : decode cX1_copyFrom 129 = .ok (.getfield 61, 3) := by decide +kernel
theorem dX1_copyFrom_132 : decode cX1_copyFrom 132 = .ok (.putfield 61, 3) := by decide +kernel
theorem dX1_copyFrom_135 : decode cX1_copyFrom 135 = .ok (.aload_n 0, 1) := by decide +kernel
theorem dX1_copyFrom_136 : decode cX1_copyFrom 136 = .ok (.aload_n 1, 1) := by decide +kernel
theorem dX1_copyFrom_137 : decode cX1_copyFrom 137 = .ok (.getfield 64, 3) := by decide +kernel
theorem dX1_copyFrom_140 : decode cX1_copyFrom 140 = .ok (.putfield 64, 3) := by decide +kernel
theorem dX1_copyFrom_143 : decode cX1_copyFrom 143 = .ok (.return_, 1) := by decide +kernel
theorem dX2_init_0 : decode cX2_init 0 = .ok (.aload_n 0, 1) := by decide +kernel
theorem dX2_init_1 : decode cX2_init 1 = .ok (.invokespecial 3, 3) := by decide +kernel
theorem dX2_init_4 : decode cX2_init 4 = .ok (.aload_n 0, 1) := by decide +kernel
theorem dX2_init_5 : decode cX2_init 5 = .ok (.new 9, 3) := by decide +kernel
theorem dX2_init_8 : decode cX2_init 8 = .ok (.dup, 1) := by decide +kernel
theorem dX2_init_9 : decode cX2_init 9 = .ok (.bipush 8, 2) := by decide +kernel
theorem dX2_init_11 : decode cX2_init 11 = .ok (.invokespecial 11, 3) := by decide +kernel
theorem dX2_init_14 : decode cX2_init 14 = .ok (.putfield 14, 3) := by decide +kernel
theorem dX2_init_17 : decode cX2_init 17 = .ok (.aload_n 0, 1) := by decide +kernel
theorem dX2_init_18 : decode cX2_init 18 = .ok (.bipush 8, 2) := by decide +kernel
theorem dX2_init_20 : decode cX2_init 20 = .ok (.newarray .int, 2) := by decide +kernel
theorem dX2_init_22 : decode cX2_init 22 = .ok (.putfield 18, 3) := by decide +kernel
theorem dX2_init_25 : decode cX2_init 25 = .ok (.aload_n 0, 1) := by decide +kernel
theorem dX2_init_26 : decode cX2_init 26 = .ok (.bipush 8, 2) := by decide +kernel
theorem dX2_init_28 : decode cX2_init 28 = .ok (.newarray .int, 2) := by decide +kernel
theorem dX2_init_30 : decode cX2_init 30 = .ok (.putfield 22, 3) := by decide +kernel
theorem dX2_init_33 : decode cX2_init 33 = .ok (.aload_n 0, 1) := by decide +kernel
theorem dX2_init_34 : decode cX2_init 34 = .ok (.bipush 36, 2) := by decide +kernel
theorem dX2_init_36 : decode cX2_init 36 = .ok (.newarray .int, 2) := by decide +kernel
theorem dX2_init_38 : decode cX2_init 38 = .ok (.putfield 25, 3) := by decide +kernel
theorem dX2_init_41 : decode cX2_init 41 = .ok (.aload_n 0, 1) := by decide +kernel
theorem dX2_init_42 : decode cX2_init 42 = .ok (.sipush 288, 3) := by decide +kernel
theorem dX2_init_45 : decode cX2_init 45 = .ok (.newarray .int, 2) := by decide +kernel
theorem dX2_init_47 : decode cX2_init 47 = .ok (.putfield 28, 3) := by decide +kernel
theorem dX2_init_50 : decode cX2_init 50 = .ok (.aload_n 0, 1) := by decide +kernel
theorem dX2_init_51 : decode cX2_init 51 = .ok (.bipush 9, 2) := by decide +kernel
theorem dX2_init_53 : decode cX2_init 53 = .ok (.newarray .boolean, 2) := by decide +kernel
theorem dX2_init_55 : decode cX2_init 55 = .ok (.putfield 31, 3) := by decide +kernel
theorem dX2_init_58 : decode cX2_init 58 = .ok (.return_, 1) := by decide +kernel
theorem dX2_isSearched_0 : decode cX2_isSearched 0 = .ok (.iload_n 0, 1) := by decide +kernel
theorem dX2_isSearched_1 : decode cX2_isSearched 1 = .ok (.iconst 1, 1) := by decide +kernel
theorem dX2_isSearched_2 : decode cX2_isSearched 2 = .ok (.if_icmp .lt 32, 3) := by decide +kernel
theorem dX2_isSearched_5 : decode cX2_isSearched 5 = .ok (.iload_n 0, 1) := by decide +kernel
theorem dX2_isSearched_6 : decode cX2_isSearched 6 = .ok (.iconst 3, 1) := by decide +kernel
theorem dX2_isSearched_7 : decode cX2_isSearched 7 = .ok (.if_icmp .gt 27, 3) := by decide +kernel
theorem dX2_isSearched_10 : decode cX2_isSearched 10 = .ok (.iload_n 1, 1) := by decide +kernel
theorem dX2_isSearched_11 : decode cX2_isSearched 11 = .ok (.iconst 2, 1) := by decide +kernel
theorem dX2_isSearched_12 : decode cX2_isSearched 12 = .ok (.if_icmp .lt 22, 3) := by decide +kernel
theorem dX2_isSearched_15 : decode cX2_isSearched 15 = .ok (.iload_n 1, 1) := by decide +kernel
theorem dX2_isSearched_16 : decode cX2_isSearched 16 = .ok (.iconst 4, 1) := by decide +kernel
theorem dX2_isSearched_17 : decode cX2_isSearched 17 = .ok (.if_icmp .gt 17, 3) := by decide +kernel
theorem dX2_isSearched_20 : decode cX2_isSearched 20 = .ok (.iload_n 2, 1) := by decide +kernel
theorem dX2_isSearched_21 : decode cX2_isSearched 21 = .ok (.ifCond .lt 13, 3) := by decide +kernel
theorem dX2_isSearched_24 : decode cX2_isSearched 24 = .ok (.iload_n 2, 1) := by decide +kernel
theorem dX2_isSearched_25 : decode cX2_isSearched 25 = .ok (.bipush 8, 2) := by decide +kernel
theorem dX2_isSearched_27 : decode cX2_isSearched 27 = .ok (.if_icmp .gt 7, 3) := by decide +kernel
theorem dX2_isSearched_30 : decode cX2_isSearched 30 = .ok (.iconst 1, 1) := by decide +kernel
theorem dX2_isSearched_31 : decode cX2_isSearched 31 = .ok (.goto 4, 3) := by decide +kernel
theorem dX2_isSearched_34 : decode cX2_isSearched 34 = .ok (.iconst 0, 1) := by decide +kernel
theorem dX2_isSearched_35 : decode cX2_isSearched 35 = .ok (.ireturn, 1) := by decide +kernel
theorem dX2_countCodes_0 : decode cX2_countCodes 0 = .ok (.iload_n 3, 1) := by decide +kernel
theorem dX2_countCodes_1 : decode cX2_countCodes 1 = .ok (.iconst 3, 1) := by decide +kernel
theorem dX2_countCodes_2 : decode cX2_countCodes 2 = .ok (.if_icmp .le 5, 3) := by decide +kernel
theorem dX2_countCodes_5 : decode cX2_countCodes 5 = .ok (.iconst 0, 1) := by decide +kernel
theorem dX2_countCodes_6 : decode cX2_countCodes 6 = .ok (.ireturn, 1) := by decide +kernel
theorem dX2_countCodes_7 : decode cX2_countCodes 7 = .ok (.iload_n 1, 1) := by decide +kernel
theorem dX2_countCodes_8 : decode cX2_countCodes 8 = .ok (.iload_n 2, 1) := by decide +kernel
theorem dX2_countCodes_9 : decode cX2_countCodes 9 = .ok (.invokestatic 35, 3) := by decide +kernel
theorem dX2_countCodes_12 : decode cX2_countCodes 12 = .ok (.istore 4, 2) := by decide +kernel
theorem dX2_countCodes_14 : decode cX2_countCodes 14 = .ok (.aload_n 0, 1) := by decide +kernel
theorem dX2_countCodes_15 : decode cX2_countCodes 15 = .ok (.getfield 31, 3) := by decide +kernel
theorem dX2_countCodes_18 : decode cX2_countCodes 18 = .ok (.iload 4, 2) := by decide +kernel
theorem dX2_countCodes_20 : decode cX2_countCodes 20 = .ok (.baload, 1) := by decide +kernel
theorem dX2_countCodes_21 : decode cX2_countCodes 21 = .ok (.ifCond .ne 19, 3) := by decide +kernel
theorem dX2_countCodes_24 : decode cX2_countCodes 24 = .ok (.aload_n 0, 1) := by decide +kernel
theorem dX2_countCodes_25 : decode cX2_countCodes 25 = .ok (.getfield 31, 3) := by decide +kernel
theorem dX2_countCodes_28 : decode cX2_countCodes 28 = .ok (.iload 4, 2) := by decide +kernel
theorem dX2_countCodes_30 : decode cX2_countCodes 30 = .ok (.iconst 1, 1) := by decide +kernel
theorem dX2_countCodes_31 : decode cX2_countCodes 31 = .ok (.bastore, 1) := by decide +kernel
theorem dX2_countCodes_32 : decode cX2_countCodes 32 = .ok (.aload_n 0, 1) := by decide +kernel
theorem dX2_countCodes_33 : decode cX2_countCodes 33 = .ok (.iload 4, 2) := by decide +kernel
theorem dX2_countCodes_35 : decode cX2_countCodes 35 = .ok (.iload_n 1, 1) := by decide +kernel
theorem dX2_countCodes_36 : decode cX2_countCodes 36 = .ok (.iload_n 2, 1) := by decide +kernel
theorem dX2_countCodes_37 : decode cX2_countCodes 37 = .ok (.invokevirtual 39, 3) := by decide +kernel
theorem dX2_countCodes_40 : decode cX2_countCodes 40 = .ok (.aload_n 0, 1) := by decide +kernel
theorem dX2_countCodes_41 : decode cX2_countCodes 41 = .ok (.getfield 25, 3) := by decide +kernel
theorem dX2_countCodes_44 : decode cX2_countCodes 44 = .ok (.iload 4, 2) := by decide +kernel
theorem dX2_countCodes_46 : decode cX2_countCodes 46 = .ok (.iconst 4, 1) := by decide +kernel
theorem dX2_countCodes_47 : decode cX2_countCodes 47 = .ok (.imul, 1) := by decide +kernel
theorem dX2_countCodes_48 : decode cX2_countCodes 48 = .ok (.iload_n 3, 1) := by decide +kernel
theorem dX2_countCodes_49 : decode cX2_countCodes 49 = .ok (.iadd, 1) := by decide +kernel
theorem dX2_countCodes_50 : decode cX2_countCodes 50 = .ok (.iaload, 1) := by decide +kernel
theorem dX2_countCodes_51 : decode cX2_countCodes 51 = .ok (.ireturn, 1) := by decide +kernel
theorem dX2_copyFirst_0 : decode cX2_copyFirst 0 = .ok (.aload_n 0, 1) := by decide +kernel
theorem dX2_copyFirst_1 : decode cX2_copyFirst 1 = .ok (.iload_n 1, 1) := by decide +kernel
theorem dX2_copyFirst_2 : decode cX2_copyFirst 2 = .ok (.iload_n 2, 1) := by decide +kernel
theorem dX2_copyFirst_3 : decode cX2_copyFirst 3 = .ok (.iload_n 3, 1) := by decide +kernel
theorem dX2_copyFirst_4 : decode cX2_copyFirst 4 = .ok (.invokevirtual 43, 3) := by decide +kernel
theorem dX2_copyFirst_7 : decode cX2_copyFirst 7 = .ok (.ifCond .le 28, 3) := by decide +kernel
theorem dX2_copyFirst_10 : decode cX2_copyFirst 10 = .ok (.aload_n 0, 1) := by decide +kernel
theorem dX2_copyFirst_11 : decode cX2_copyFirst 11 = .ok (.getfield 28, 3) := by decide +kernel
theorem dX2_copyFirst_14 : decode cX2_copyFirst 14 = .ok (.iload_n 1, 1) := by decide +kernel
theorem dX2_copyFirst_15 : decode cX2_copyFirst 15 = .ok (.iload_n 2, 1) := by decide +kernel
theorem dX2_copyFirst_16 : decode cX2_copyFirst 16 = .ok (.invokestatic 35, 3) := by decide +kernel
theorem dX2_copyFirst_19 : decode cX2_copyFirst 19 = .ok (.iconst 4, 1) := by decide +kernel
theorem dX2_copyFirst_20 : decode cX2_copyFirst 20 = .ok (.imul, 1) := by decide +kernel
theorem dX2_copyFirst_21 : decode cX2_copyFirst 21 = .ok (.iload_n 3, 1) := by decide +kernel
theorem dX2_copyFirst_22 : decode cX2_copyFirst 22 = .ok (.iadd, 1) := by decide +kernel
theorem dX2_copyFirst_23 : decode cX2_copyFirst 23 = .ok (.bipush 8, 2) := by decide +kernel
theorem dX2_copyFirst_25 : decode cX2_copyFirst 25 = .ok (.imul, 1) := by decide +kernel
theorem dX2_copyFirst_26 : decode cX2_copyFirst 26 = .ok (.aload 4, 2) := by decide +kernel
theorem dX2_copyFirst_28 : decode cX2_copyFirst 28 = .ok (.iconst 0, 1) := by decide +kernel
theorem dX2_copyFirst_29 : decode cX2_copyFirst 29 = .ok (.iconst 1, 1) := by decide +kernel
theorem dX2_copyFirst_30 : decode cX2_copyFirst 30 = .ok (.iload_n 1, 1) := by decide +kernel
theorem dX2_copyFirst_31 : decode cX2_copyFirst 31 = .ok (.ishl, 1) := by decide +kernel
theorem dX2_copyFirst_32 : decode cX2_copyFirst 32 = .ok (.invokestatic 47, 3) := by decide +kernel
theorem dX2_copyFirst_35 : decode cX2_copyFirst 35 = .ok (.return_, 1) := by decide +kernel
theorem dX2_pairOf_0 : decode cX2_pairOf 0 = .ok (.iload_n 0, 1) := by decide +kernel
theorem dX2_pairOf_1 : decode cX2_pairOf 1 = .ok (.iconst 1, 1) := by decide +kernel
theorem dX2_pairOf_2 : decode cX2_pairOf 2 = .ok (.isub, 1) := by decide +kernel
theorem dX2_pairOf_3 : decode cX2_pairOf 3 = .ok (.iconst 3, 1) := by decide +kernel
theorem dX2_pairOf_4 : decode cX2_pairOf 4 = .ok (.imul, 1) := by decide +kernel
theorem dX2_pairOf_5 : decode cX2_pairOf 5 = .ok (.iload_n 1, 1) := by decide +kernel
theorem dX2_pairOf_6 : decode cX2_pairOf 6 = .ok (.iadd, 1) := by decide +kernel
theorem dX2_pairOf_7 : decode cX2_pairOf 7 = .ok (.iconst 2, 1) := by decide +kernel
theorem dX2_pairOf_8 : decode cX2_pairOf 8 = .ok (.isub, 1) := by decide +kernel
theorem dX2_pairOf_9 : decode cX2_pairOf 9 = .ok (.ireturn, 1) := by decide +kernel
theorem dX2_search_0 : decode cX2_search 0 = .ok (.iconst 1, 1) := by decide +kernel
theorem dX2_search_1 : decode cX2_search 1 = .ok (.iload_n 2, 1) := by decide +kernel
theorem dX2_search_2 : decode cX2_search 2 = .ok (.ishl, 1) := by decide +kernel
theorem dX2_search_3 : decode cX2_search 3 = .ok (.istore 4, 2) := by decide +kernel
theorem dX2_search_5 : decode cX2_search 5 = .ok (.aload_n 0, 1) := by decide +kernel
theorem dX2_search_6 : decode cX2_search 6 = .ok (.getfield 18, 3) := by decide +kernel
theorem dX2_search_9 : decode cX2_search 9 = .ok (.iconst 0, 1) := by decide +kernel
theorem dX2_search_10 : decode cX2_search 10 = .ok (.invokestatic 53, 3) := by decide +kernel
theorem dX2_search_13 : decode cX2_search 13 = .ok (.aload_n 0, 1) := by decide +kernel
theorem dX2_search_14 : decode cX2_search 14 = .ok (.getfield 22, 3) := by decide +kernel
theorem dX2_search_17 : decode cX2_search 17 = .ok (.iconst 0, 1) := by decide +kernel
theorem dX2_search_18 : decode cX2_search 18 = .ok (.invokestatic 53, 3) := by decide +kernel
theorem dX2_search_21 : decode cX2_search 21 = .ok (.iconst 1, 1) := by decide +kernel
theorem dX2_search_22 : decode cX2_search 22 = .ok (.istore 5, 2) := by decide +kernel
theorem dX2_search_24 : decode cX2_search 24 = .ok (.iconst 0, 1) := by decide +kernel
theorem dX2_search_25 : decode cX2_search 25 = .ok (.istore 6, 2) := by decide +kernel
theorem dX2_search_27 : decode cX2_search 27 = .ok (.iload 6, 2) := by decide +kernel
theorem dX2_search_29 : decode cX2_search 29 = .ok (.ldc 59, 2) := by decide +kernel
theorem dX2_search_31 : decode cX2_search 31 = .ok (.if_icmp .ge 69, 3) := by decide +kernel
theorem dX2_search_34 : decode cX2_search 34 = .ok (.iload 5, 2) := by decide +kernel
theorem dX2_search_36 : decode cX2_search 36 = .ok (.ifCond .eq 64, 3) := by decide +kernel
theorem dX2_search_39 : decode cX2_search 39 = .ok (.aload_n 0, 1) := by decide +kernel
theorem dX2_search_40 : decode cX2_search 40 = .ok (.getfield 14, 3) := by decide +kernel
theorem dX2_search_43 : decode cX2_search 43 = .ok (.aload_n 0, 1) := by decide +kernel
theorem dX2_search_44 : decode cX2_search 44 = .ok (.getfield 18, 3) := by decide +kernel
theorem dX2_search_47 : decode cX2_search 47 = .ok (.iload 4, 2) := by decide +kernel
theorem dX2_search_49 : decode cX2_search 49 = .ok (.iconst 1, 1) := by decide +kernel
theorem dX2_search_50 : decode cX2_search 50 = .ok (.isub, 1) := by decide +kernel
theorem dX2_search_51 : decode cX2_search 51 = .ok (.iconst 0, 1) := by decide +kernel
theorem dX2_search_52 : decode cX2_search 52 = .ok (.iload_n 3, 1) := by decide +kernel
theorem dX2_search_53 : decode cX2_search 53 = .ok (.invokevirtual 60, 3) := by decide +kernel
theorem dX2_search_56 : decode cX2_search 56 = .ok (.aload_n 0, 1) := by decide +kernel
theorem dX2_search_57 : decode cX2_search 57 = .ok (.iload_n 1, 1) := by decide +kernel
theorem dX2_search_58 : decode cX2_search 58 = .ok (.aload_n 0, 1) := by decide +kernel
theorem dX2_search_59 : decode cX2_search 59 = .ok (.getfield 14, 3) := by decide +kernel
theorem dX2_search_62 : decode cX2_search 62 = .ok (.getfield 63, 3) := by decide +kernel
theorem dX2_search_65 : decode cX2_search 65 = .ok (.iconst 0, 1) := by decide +kernel
theorem dX2_search_66 : decode cX2_search 66 = .ok (.iaload, 1) := by decide +kernel
theorem dX2_search_67 : decode cX2_search 67 = .ok (.iload_n 3, 1) := by decide +kernel
theorem dX2_search_68 : decode cX2_search 68 = .ok (.aload_n 0, 1) := by decide +kernel
theorem dX2_search_69 : decode cX2_search 69 = .ok (.getfield 22, 3) := by decide +kernel
theorem dX2_search_72 : decode cX2_search 72 = .ok (.iload 4, 2) := by decide +kernel
theorem dX2_search_74 : decode cX2_search 74 = .ok (.iconst 1, 1) := by decide +kernel
theorem dX2_search_75 : decode cX2_search 75 = .ok (.isub, 1) := by decide +kernel
theorem dX2_search_76 : decode cX2_search 76 = .ok (.iaload, 1) := by decide +kernel
theorem dX2_search_77 : decode cX2_search 77 = .ok (.iconst 1, 1) := by decide +kernel
theorem dX2_search_78 : decode cX2_search 78 = .ok (.iadd, 1) := by decide +kernel
theorem dX2_search_79 : decode cX2_search 79 = .ok (.invokestatic 66, 3) := by decide +kernel
theorem dX2_search_82 : decode cX2_search 82 = .ok (.invokevirtual 69, 3) := by decide +kernel
theorem dX2_search_85 : decode cX2_search 85 = .ok (.aload_n 0, 1) := by decide +kernel
theorem dX2_search_86 : decode cX2_search 86 = .ok (.iload 4, 2) := by decide +kernel
theorem dX2_search_88 : decode cX2_search 88 = .ok (.iload_n 3, 1) := by decide +kernel
theorem dX2_search_89 : decode cX2_search 89 = .ok (.invokevirtual 72, 3) := by decide +kernel
theorem dX2_search_92 : decode cX2_search 92 = .ok (.istore 5, 2) := by decide +kernel
theorem dX2_search_94 : decode cX2_search 94 = .ok (.iinc 6 1, 3) := by decide +kernel
theorem dX2_search_97 : decode cX2_search 97 = .ok (.goto (-70), 3) := by decide +kernel
theorem dX2_search_100 : decode cX2_search 100 = .ok (.return_, 1) := by decide +kernel
theorem dX2_note_0 : decode cX2_note 0 = .ok (.iconst 0, 1) := by decide +kernel
theorem dX2_note_1 : decode cX2_note 1 = .ok (.istore 4, 2) := by decide +kernel
theorem dX2_note_3 : decode cX2_note 3 = .ok (.iload 4, 2) := by decide +kernel
theorem dX2_note_5 : decode cX2_note 5 = .ok (.iload_n 2, 1) := by decide +kernel
theorem dX2_note_6 : decode cX2_note 6 = .ok (.if_icmp .gt 63, 3) := by decide +kernel
theorem dX2_note_9 : decode cX2_note 9 = .ok (.iload 4, 2) := by decide +kernel
theorem dX2_note_11 : decode cX2_note 11 = .ok (.iconst 4, 1) := by decide +kernel
theorem dX2_note_12 : decode cX2_note 12 = .ok (.if_icmp .ge 57, 3) := by decide +kernel
theorem dX2_note_15 : decode cX2_note 15 = .ok (.iload_n 1, 1) := by decide +kernel
theorem dX2_note_16 : decode cX2_note 16 = .ok (.iconst 4, 1) := by decide +kernel
theorem dX2_note_17 : decode cX2_note 17 = .ok (.imul, 1) := by decide +kernel
theorem dX2_note_18 : decode cX2_note 18 = .ok (.iload 4, 2) := by decide +kernel
theorem dX2_note_20 : decode cX2_note 20 = .ok (.iadd, 1) := by decide +kernel
theorem dX2_note_21 : decode cX2_note 21 = .ok (.istore 5, 2) := by decide +kernel
theorem dX2_note_23 : decode cX2_note 23 = .ok (.aload_n 0, 1) := by decide +kernel
theorem dX2_note_24 : decode cX2_note 24 = .ok (.getfield 25, 3) := by decide +kernel
theorem dX2_note_27 : decode cX2_note 27 = .ok (.iload 5, 2) := by decide +kernel
theorem dX2_note_29 : decode cX2_note 29 = .ok (.iaload, 1) := by decide +kernel
theorem dX2_note_30 : decode cX2_note 30 = .ok (.ifCond .ne 22, 3) := by decide +kernel
theorem dX2_note_33 : decode cX2_note 33 = .ok (.aload_n 0, 1) := by decide +kernel
theorem dX2_note_34 : decode cX2_note 34 = .ok (.getfield 18, 3) := by decide +kernel
theorem dX2_note_37 : decode cX2_note 37 = .ok (.iconst 0, 1) := by decide +kernel
theorem dX2_note_38 : decode cX2_note 38 = .ok (.aload_n 0, 1) := by decide +kernel
theorem dX2_note_39 : decode cX2_note 39 = .ok (.getfield 28, 3) := by decide +kernel
theorem dX2_note_42 : decode cX2_note 42 = .ok (.iload 5, 2) := by decide +kernel
theorem dX2_note_44 : decode cX2_note 44 = .ok (.bipush 8, 2) := by decide +kernel
theorem dX2_note_46 : decode cX2_note 46 = .ok (.imul, 1) := by decide +kernel
theorem dX2_note_47 : decode cX2_note 47 = .ok (.bipush 8, 2) := by decide +kernel
theorem dX2_note_49 : decode cX2_note 49 = .ok (.invokestatic 47, 3) := by decide +kernel
theorem dX2_note_52 : decode cX2_note 52 = .ok (.aload_n 0, 1) := by decide +kernel
theorem dX2_note_53 : decode cX2_note 53 = .ok (.getfield 25, 3) := by decide +kernel
theorem dX2_note_56 : decode cX2_note 56 = .ok (.iload 5, 2) := by decide +kernel
theorem dX2_note_58 : decode cX2_note 58 = .ok (.dup2, 1) := by decide +kernel
theorem dX2_note_59 : decode cX2_note 59 = .ok (.iaload, 1) := by decide +kernel
theorem dX2_note_60 : decode cX2_note 60 = .ok (.iload_n 3, 1) := by decide +kernel
theorem dX2_note_61 : decode cX2_note 61 = .ok (.iadd, 1) := by decide +kernel
theorem dX2_note_62 : decode cX2_note 62 = .ok (.iastore, 1) := by decide +kernel
theorem dX2_note_63 : decode cX2_note 63 = .ok (.iinc 4 1, 3) := by decide +kernel
theorem dX2_note_66 : decode cX2_note 66 = .ok (.goto (-63), 3) := by decide +kernel
theorem dX2_note_69 : decode cX2_note 69 = .ok (.return_, 1) := by decide +kernel
theorem dX2_namings_0 : decode cX2_namings 0 = .ok (.iconst 1, 1) := by decide +kernel
theorem dX2_namings_1 : decode cX2_namings 1 = .ok (.istore_n 2, 1) := by decide +kernel
theorem dX2_namings_2 : decode cX2_namings 2 = .ok (.iconst 0, 1) := by decide +kernel
theorem dX2_namings_3 : decode cX2_namings 3 = .ok (.istore_n 3, 1) := by decide +kernel
theorem dX2_namings_4 : decode cX2_namings 4 = .ok (.iload_n 3, 1) := by decide +kernel
theorem dX2_namings_5 : decode cX2_namings 5 = .ok (.iload_n 1, 1) := by decide +kernel
theorem dX2_namings_6 : decode cX2_namings 6 = .ok (.if_icmp .ge 15, 3) := by decide +kernel
theorem dX2_namings_9 : decode cX2_namings 9 = .ok (.iload_n 2, 1) := by decide +kernel
theorem dX2_namings_10 : decode cX2_namings 10 = .ok (.iload_n 0, 1) := by decide +kernel
theorem dX2_namings_11 : decode cX2_namings 11 = .ok (.iload_n 3, 1) := by decide +kernel
theorem dX2_namings_12 : decode cX2_namings 12 = .ok (.isub, 1) := by decide +kernel
theorem dX2_namings_13 : decode cX2_namings 13 = .ok (.imul, 1) := by decide +kernel
theorem dX2_namings_14 : decode cX2_namings 14 = .ok (.istore_n 2, 1) := by decide +kernel
theorem dX2_namings_15 : decode cX2_namings 15 = .ok (.iinc 3 1, 3) := by decide +kernel
theorem dX2_namings_18 : decode cX2_namings 18 = .ok (.goto (-14), 3) := by decide +kernel
theorem dX2_namings_21 : decode cX2_namings 21 = .ok (.iload_n 2, 1) := by decide +kernel
theorem dX2_namings_22 : decode cX2_namings 22 = .ok (.ireturn, 1) := by decide +kernel
theorem dX2_turnOn_0 : decode cX2_turnOn 0 = .ok (.iload_n 1, 1) := by decide +kernel
theorem dX2_turnOn_1 : decode cX2_turnOn 1 = .ok (.iconst 1, 1) := by decide +kernel
theorem dX2_turnOn_2 : decode cX2_turnOn 2 = .ok (.isub, 1) := by decide +kernel
theorem dX2_turnOn_3 : decode cX2_turnOn 3 = .ok (.istore_n 3, 1) := by decide +kernel
theorem dX2_turnOn_4 : decode cX2_turnOn 4 = .ok (.iload_n 3, 1) := by decide +kernel
theorem dX2_turnOn_5 : decode cX2_turnOn 5 = .ok (.ifCond .le 34, 3) := by decide +kernel
theorem dX2_turnOn_8 : decode cX2_turnOn 8 = .ok (.aload_n 0, 1) := by decide +kernel
theorem dX2_turnOn_9 : decode cX2_turnOn 9 = .ok (.getfield 18, 3) := by decide +kernel
theorem dX2_turnOn_12 : decode cX2_turnOn 12 = .ok (.iload_n 3, 1) := by decide +kernel
theorem dX2_turnOn_13 : decode cX2_turnOn 13 = .ok (.iaload, 1) := by decide +kernel
theorem dX2_turnOn_14 : decode cX2_turnOn 14 = .ok (.iload_n 2, 1) := by decide +kernel
theorem dX2_turnOn_15 : decode cX2_turnOn 15 = .ok (.iconst 1, 1) := by decide +kernel
theorem dX2_turnOn_16 : decode cX2_turnOn 16 = .ok (.isub, 1) := by decide +kernel
theorem dX2_turnOn_17 : decode cX2_turnOn 17 = .ok (.aload_n 0, 1) := by decide +kernel
theorem dX2_turnOn_18 : decode cX2_turnOn 18 = .ok (.getfield 22, 3) := by decide +kernel
theorem dX2_turnOn_21 : decode cX2_turnOn 21 = .ok (.iload_n 3, 1) := by decide +kernel
theorem dX2_turnOn_22 : decode cX2_turnOn 22 = .ok (.iconst 1, 1) := by decide +kernel
theorem dX2_turnOn_23 : decode cX2_turnOn 23 = .ok (.isub, 1) := by decide +kernel
theorem dX2_turnOn_24 : decode cX2_turnOn 24 = .ok (.iaload, 1) := by decide +kernel
theorem dX2_turnOn_25 : decode cX2_turnOn 25 = .ok (.iconst 1, 1) := by decide +kernel
theorem dX2_turnOn_26 : decode cX2_turnOn 26 = .ok (.iadd, 1) := by decide +kernel
theorem dX2_turnOn_27 : decode cX2_turnOn 27 = .ok (.invokestatic 76, 3) := by decide +kernel
theorem dX2_turnOn_30 : decode cX2_turnOn 30 = .ok (.if_icmp .ne 9, 3) := by decide +kernel
theorem dX2_turnOn_33 : decode cX2_turnOn 33 = .ok (.iinc 3 (-1), 3) := by decide +kernel
theorem dX2_turnOn_36 : decode cX2_turnOn 36 = .ok (.goto (-32), 3) := by decide +kernel
theorem dX2_turnOn_39 : decode cX2_turnOn 39 = .ok (.iload_n 3, 1) := by decide +kernel
theorem dX2_turnOn_40 : decode cX2_turnOn 40 = .ok (.ifCond .ne 5, 3) := by decide +kernel
theorem dX2_turnOn_43 : decode cX2_turnOn 43 = .ok (.iconst 0, 1) := by decide +kernel
theorem dX2_turnOn_44 : decode cX2_turnOn 44 = .ok (.ireturn, 1) := by decide +kernel
theorem dX2_turnOn_45 : decode cX2_turnOn 45 = .ok (.aload_n 0, 1) := by decide +kernel
theorem dX2_turnOn_46 : decode cX2_turnOn 46 = .ok (.getfield 18, 3) := by decide +kernel
theorem dX2_turnOn_49 : decode cX2_turnOn 49 = .ok (.iload_n 3, 1) := by decide +kernel
theorem dX2_turnOn_50 : decode cX2_turnOn 50 = .ok (.dup2, 1) := by decide +kernel
theorem dX2_turnOn_51 : decode cX2_turnOn 51 = .ok (.iaload, 1) := by decide +kernel
theorem dX2_turnOn_52 : decode cX2_turnOn 52 = .ok (.iconst 1, 1) := by decide +kernel
theorem dX2_turnOn_53 : decode cX2_turnOn 53 = .ok (.iadd, 1) := by decide +kernel
theorem dX2_turnOn_54 : decode cX2_turnOn 54 = .ok (.iastore, 1) := by decide +kernel
theorem dX2_turnOn_55 : decode cX2_turnOn 55 = .ok (.aload_n 0, 1) := by decide +kernel
theorem dX2_turnOn_56 : decode cX2_turnOn 56 = .ok (.getfield 22, 3) := by decide +kernel
theorem dX2_turnOn_59 : decode cX2_turnOn 59 = .ok (.iload_n 3, 1) := by decide +kernel
theorem dX2_turnOn_60 : decode cX2_turnOn 60 = .ok (.aload_n 0, 1) := by decide +kernel
theorem dX2_turnOn_61 : decode cX2_turnOn 61 = .ok (.getfield 22, 3) := by decide +kernel
theorem dX2_turnOn_64 : decode cX2_turnOn 64 = .ok (.iload_n 3, 1) := by decide +kernel
theorem dX2_turnOn_65 : decode cX2_turnOn 65 = .ok (.iconst 1, 1) := by decide +kernel
theorem dX2_turnOn_66 : decode cX2_turnOn 66 = .ok (.isub, 1) := by decide +kernel
theorem dX2_turnOn_67 : decode cX2_turnOn 67 = .ok (.iaload, 1) := by decide +kernel
theorem dX2_turnOn_68 : decode cX2_turnOn 68 = .ok (.aload_n 0, 1) := by decide +kernel
theorem dX2_turnOn_69 : decode cX2_turnOn 69 = .ok (.getfield 18, 3) := by decide +kernel
theorem dX2_turnOn_72 : decode cX2_turnOn 72 = .ok (.iload_n 3, 1) := by decide +kernel
theorem dX2_turnOn_73 : decode cX2_turnOn 73 = .ok (.iaload, 1) := by decide +kernel
theorem dX2_turnOn_74 : decode cX2_turnOn 74 = .ok (.invokestatic 81, 3) := by decide +kernel
theorem dX2_turnOn_77 : decode cX2_turnOn 77 = .ok (.iastore, 1) := by decide +kernel
theorem dX2_turnOn_78 : decode cX2_turnOn 78 = .ok (.iload_n 3, 1) := by decide +kernel
theorem dX2_turnOn_79 : decode cX2_turnOn 79 = .ok (.iconst 1, 1) := by decide +kernel
theorem dX2_turnOn_80 : decode cX2_turnOn 80 = .ok (.iadd, 1) := by decide +kernel
theorem dX2_turnOn_81 : decode cX2_turnOn 81 = .ok (.istore 4, 2) := by decide +kernel
theorem dX2_turnOn_83 : decode cX2_turnOn 83 = .ok (.iload 4, 2) := by decide +kernel
theorem dX2_turnOn_85 : decode cX2_turnOn 85 = .ok (.iload_n 1, 1) := by decide +kernel
theorem dX2_turnOn_86 : decode cX2_turnOn 86 = .ok (.if_icmp .ge 33, 3) := by decide +kernel
theorem dX2_turnOn_89 : decode cX2_turnOn 89 = .ok (.aload_n 0, 1) := by decide +kernel
theorem dX2_turnOn_90 : decode cX2_turnOn 90 = .ok (.getfield 18, 3) := by decide +kernel
theorem dX2_turnOn_93 : decode cX2_turnOn 93 = .ok (.iload 4, 2) := by decide +kernel
theorem dX2_turnOn_95 : decode cX2_turnOn 95 = .ok (.iconst 0, 1) := by decide +kernel
theorem dX2_turnOn_96 : decode cX2_turnOn 96 = .ok (.iastore, 1) := by decide +kernel
theorem dX2_turnOn_97 : decode cX2_turnOn 97 = .ok (.aload_n 0, 1) := by decide +kernel
theorem dX2_turnOn_98 : decode cX2_turnOn 98 = .ok (.getfield 22, 3) := by decide +kernel
theorem dX2_turnOn_101 : decode cX2_turnOn 101 = .ok (.iload 4, 2) := by decide +kernel
theorem dX2_turnOn_103 : decode cX2_turnOn 103 = .ok (.aload_n 0, 1) := by decide +kernel
theorem dX2_turnOn_104 : decode cX2_turnOn 104 = .ok (.getfield 22, 3) := by decide +kernel
theorem dX2_turnOn_107 : decode cX2_turnOn 107 = .ok (.iload 4, 2) := by decide +kernel
theorem dX2_turnOn_109 : decode cX2_turnOn 109 = .ok (.iconst 1, 1) := by decide +kernel
theorem dX2_turnOn_110 : decode cX2_turnOn 110 = .ok (.isub, 1) := by decide +kernel
theorem dX2_turnOn_111 : decode cX2_turnOn 111 = .ok (.iaload, 1) := by decide +kernel
theorem dX2_turnOn_112 : decode cX2_turnOn 112 = .ok (.iastore, 1) := by decide +kernel
theorem dX2_turnOn_113 : decode cX2_turnOn 113 = .ok (.iinc 4 1, 3) := by decide +kernel
theorem dX2_turnOn_116 : decode cX2_turnOn 116 = .ok (.goto (-33), 3) := by decide +kernel
theorem dX2_turnOn_119 : decode cX2_turnOn 119 = .ok (.iconst 1, 1) := by decide +kernel
theorem dX2_turnOn_120 : decode cX2_turnOn 120 = .ok (.ireturn, 1) := by decide +kernel
theorem dX3_init_0 : decode cX3_init 0 = .ok (.aload_n 0, 1) := by decide +kernel
theorem dX3_init_1 : decode cX3_init 1 = .ok (.invokespecial 3, 3) := by decide +kernel
theorem dX3_init_4 : decode cX3_init 4 = .ok (.aload_n 0, 1) := by decide +kernel
theorem dX3_init_5 : decode cX3_init 5 = .ok (.bipush 16, 2) := by decide +kernel
theorem dX3_init_7 : decode cX3_init 7 = .ok (.newarray .int, 2) := by decide +kernel
theorem dX3_init_9 : decode cX3_init 9 = .ok (.putfield 9, 3) := by decide +kernel
theorem dX3_init_12 : decode cX3_init 12 = .ok (.aload_n 0, 1) := by decide +kernel
theorem dX3_init_13 : decode cX3_init 13 = .ok (.sipush 256, 3) := by decide +kernel
theorem dX3_init_16 : decode cX3_init 16 = .ok (.newarray .long, 2) := by decide +kernel
theorem dX3_init_18 : decode cX3_init 18 = .ok (.putfield 15, 3) := by decide +kernel
theorem dX3_init_21 : decode cX3_init 21 = .ok (.aload_n 0, 1) := by decide +kernel
theorem dX3_init_22 : decode cX3_init 22 = .ok (.sipush 256, 3) := by decide +kernel
theorem dX3_init_25 : decode cX3_init 25 = .ok (.newarray .int, 2) := by decide +kernel
theorem dX3_init_27 : decode cX3_init 27 = .ok (.putfield 19, 3) := by decide +kernel
theorem dX3_init_30 : decode cX3_init 30 = .ok (.aload_n 0, 1) := by decide +kernel
theorem dX3_init_31 : decode cX3_init 31 = .ok (.aload_n 1, 1) := by decide +kernel
theorem dX3_init_32 : decode cX3_init 32 = .ok (.putfield 22, 3) := by decide +kernel
theorem dX3_init_35 : decode cX3_init 35 = .ok (.aload_n 0, 1) := by decide +kernel
theorem dX3_init_36 : decode cX3_init 36 = .ok (.aload_n 1, 1) := by decide +kernel
theorem dX3_init_37 : decode cX3_init 37 = .ok (.getfield 26, 3) := by decide +kernel
theorem dX3_init_40 : decode cX3_init 40 = .ok (.putfield 32, 3) := by decide +kernel
theorem dX3_init_43 : decode cX3_init 43 = .ok (.return_, 1) := by decide +kernel
theorem dX3_solve_0 : decode cX3_solve 0 = .ok (.aload_n 0, 1) := by decide +kernel
theorem dX3_solve_1 : decode cX3_solve 1 = .ok (.getfield 33, 3) := by decide +kernel
theorem dX3_solve_4 : decode cX3_solve 4 = .ok (.ifCond .eq 4, 3) := by decide +kernel
theorem dX3_solve_7 : decode cX3_solve 7 = .ok (.return_, 1) := by decide +kernel
theorem dX3_solve_8 : decode cX3_solve 8 = .ok (.aload_n 0, 1) := by decide +kernel
theorem dX3_solve_9 : decode cX3_solve 9 = .ok (.iconst 1, 1) := by decide +kernel
theorem dX3_solve_10 : decode cX3_solve 10 = .ok (.putfield 33, 3) := by decide +kernel
theorem dX3_solve_13 : decode cX3_solve 13 = .ok (.aload_n 0, 1) := by decide +kernel
theorem dX3_solve_14 : decode cX3_solve 14 = .ok (.getfield 22, 3) := by decide +kernel
theorem dX3_solve_17 : decode cX3_solve 17 = .ok (.invokevirtual 37, 3) := by decide +kernel
theorem dX3_solve_20 : decode cX3_solve 20 = .ok (.aload_n 0, 1) := by decide +kernel
theorem dX3_solve_21 : decode cX3_solve 21 = .ok (.invokevirtual 40, 3) := by decide +kernel
theorem dX3_solve_24 : decode cX3_solve 24 = .ok (.aload_n 0, 1) := by decide +kernel
theorem dX3_solve_25 : decode cX3_solve 25 = .ok (.invokevirtual 43, 3) := by decide +kernel
theorem dX3_solve_28 : decode cX3_solve 28 = .ok (.aload_n 0, 1) := by decide +kernel
theorem dX3_solve_29 : decode cX3_solve 29 = .ok (.getfield 46, 3) := by decide +kernel
theorem dX3_solve_32 : decode cX3_solve 32 = .ok (.iconst (-1), 1) := by decide +kernel
theorem dX3_solve_33 : decode cX3_solve 33 = .ok (.if_icmp .eq 11, 3) := by decide +kernel
theorem dX3_solve_36 : decode cX3_solve 36 = .ok (.aload_n 0, 1) := by decide +kernel
theorem dX3_solve_37 : decode cX3_solve 37 = .ok (.invokevirtual 50, 3) := by decide +kernel
theorem dX3_solve_40 : decode cX3_solve 40 = .ok (.aload_n 0, 1) := by decide +kernel
theorem dX3_solve_41 : decode cX3_solve 41 = .ok (.invokevirtual 53, 3) := by decide +kernel
theorem dX3_solve_44 : decode cX3_solve 44 = .ok (.return_, 1) := by decide +kernel
theorem dX3_countWays_0 : decode cX3_countWays 0 = .ok (.aload_n 0, 1) := by decide +kernel
theorem dX3_countWays_1 : decode cX3_countWays 1 = .ok (.getfield 15, 3) := by decide +kernel
theorem dX3_countWays_4 : decode cX3_countWays 4 = .ok (.lconst 0, 1) := by decide +kernel
theorem dX3_countWays_5 : decode cX3_countWays 5 = .ok (.invokestatic 56, 3) := by decide +kernel
theorem dX3_countWays_8 : decode cX3_countWays 8 = .ok (.aload_n 0, 1) := by decide +kernel
theorem dX3_countWays_9 : decode cX3_countWays 9 = .ok (.getfield 15, 3) := by decide +kernel
theorem dX3_countWays_12 : decode cX3_countWays 12 = .ok (.iconst 0, 1) := by decide +kernel
theorem dX3_countWays_13 : decode cX3_countWays 13 = .ok (.lconst 1, 1) := by decide +kernel
theorem dX3_countWays_14 : decode cX3_countWays 14 = .ok (.lastore, 1) := by decide +kernel
theorem dX3_countWays_15 : decode cX3_countWays 15 = .ok (.aload_n 0, 1) := by decide +kernel
theorem dX3_countWays_16 : decode cX3_countWays 16 = .ok (.getfield 32, 3) := by decide +kernel
theorem dX3_countWays_19 : decode cX3_countWays 19 = .ok (.invokevirtual 62, 3) := by decide +kernel
theorem dX3_countWays_22 : decode cX3_countWays 22 = .ok (.istore_n 1, 1) := by decide +kernel
theorem dX3_countWays_23 : decode cX3_countWays 23 = .ok (.iconst 0, 1) := by decide +kernel
theorem dX3_countWays_24 : decode cX3_countWays 24 = .ok (.istore_n 2, 1) := by decide +kernel
theorem dX3_countWays_25 : decode cX3_countWays 25 = .ok (.iload_n 2, 1) := by decide +kernel
theorem dX3_countWays_26 : decode cX3_countWays 26 = .ok (.aload_n 0, 1) := by decide +kernel
theorem dX3_countWays_27 : decode cX3_countWays 27 = .ok (.getfield 32, 3) := by decide +kernel
theorem dX3_countWays_30 : decode cX3_countWays 30 = .ok (.getfield 68, 3) := by decide +kernel
theorem dX3_countWays_33 : decode cX3_countWays 33 = .ok (.if_icmp .ge 77, 3) := by decide +kernel
theorem dX3_countWays_36 : decode cX3_countWays 36 = .ok (.iconst 0, 1) := by decide +kernel
theorem dX3_countWays_37 : decode cX3_countWays 37 = .ok (.istore_n 3, 1) := by decide +kernel
theorem dX3_countWays_38 : decode cX3_countWays 38 = .ok (.iload_n 3, 1) := by decide +kernel
theorem dX3_countWays_39 : decode cX3_countWays 39 = .ok (.aload_n 0, 1) := by decide +kernel
theorem dX3_countWays_40 : decode cX3_countWays 40 = .ok (.getfield 32, 3) := by decide +kernel
theorem dX3_countWays_43 : decode cX3_countWays 43 = .ok (.getfield 71, 3) := by decide +kernel
theorem dX3_countWays_46 : decode cX3_countWays 46 = .ok (.if_icmp .ge 17, 3) := by decide +kernel
theorem dX3_countWays_49 : decode cX3_countWays 49 = .ok (.aload_n 0, 1) := by decide +kernel
theorem dX3_countWays_50 : decode cX3_countWays 50 = .ok (.iconst 1, 1) := by decide +kernel
theorem dX3_countWays_51 : decode cX3_countWays 51 = .ok (.iload_n 3, 1) := by decide +kernel
theorem dX3_countWays_52 : decode cX3_countWays 52 = .ok (.ishl, 1) := by decide +kernel
theorem dX3_countWays_53 : decode cX3_countWays 53 = .ok (.iload_n 1, 1) := by decide +kernel
theorem dX3_countWays_54 : decode cX3_countWays 54 = .ok (.invokevirtual 74, 3) := by decide +kernel
theorem dX3_countWays_57 : decode cX3_countWays 57 = .ok (.iinc 3 1, 3) := by decide +kernel
theorem dX3_countWays_60 : decode cX3_countWays 60 = .ok (.goto (-22), 3) := by decide +kernel
theorem dX3_countWays_63 : decode cX3_countWays 63 = .ok (.iconst 0, 1) := by decide +kernel
theorem dX3_countWays_64 : decode cX3_countWays 64 = .ok (.istore_n 3, 1) := by decide +kernel
theorem dX3_countWays_65 : decode cX3_countWays 65 = .ok (.iload_n 3, 1) := by decide +kernel
theorem dX3_countWays_66 : decode cX3_countWays 66 = .ok (.iload_n 1, 1) := by decide +kernel
theorem dX3_countWays_67 : decode cX3_countWays 67 = .ok (.if_icmp .gt 37, 3) := by decide +kernel
theorem dX3_countWays_70 : decode cX3_countWays 70 = .ok (.aload_n 0, 1) := by decide +kernel
theorem dX3_countWays_71 : decode cX3_countWays 71 = .ok (.getfield 32, 3) := by decide +kernel
theorem dX3_countWays_74 : decode cX3_countWays 74 = .ok (.getfield 78, 3) := by decide +kernel
theorem dX3_countWays_77 : decode cX3_countWays 77 = .ok (.iload_n 3, 1) := by decide +kernel
theorem dX3_countWays_78 : decode cX3_countWays 78 = .ok (.iaload, 1) := by decide +kernel
theorem dX3_countWays_79 : decode cX3_countWays 79 = .ok (.aload_n 0, 1) := by decide +kernel
theorem dX3_countWays_80 : decode cX3_countWays 80 = .ok (.getfield 32, 3) := by decide +kernel
theorem dX3_countWays_83 : decode cX3_countWays 83 = .ok (.getfield 81, 3) := by decide +kernel
theorem dX3_countWays_86 : decode cX3_countWays 86 = .ok (.iload_n 2, 1) := by decide +kernel
theorem dX3_countWays_87 : decode cX3_countWays 87 = .ok (.iaload, 1) := by decide +kernel
theorem dX3_countWays_88 : decode cX3_countWays 88 = .ok (.if_icmp .eq 10, 3) := by decide +kernel
theorem dX3_countWays_91 : decode cX3_countWays 91 = .ok (.aload_n 0, 1) := by decide +kernel
theorem dX3_countWays_92 : decode cX3_countWays 92 = .ok (.getfield 15, 3) := by decide +kernel
theorem dX3_countWays_95 : decode cX3_countWays 95 = .ok (.iload_n 3, 1) := by decide +kernel
theorem dX3_countWays_96 : decode cX3_countWays 96 = .ok (.lconst 0, 1) := by decide +kernel
theorem dX3_countWays_97 : decode cX3_countWays 97 = .ok (.lastore, 1) := by decide +kernel
theorem dX3_countWays_98 : decode cX3_countWays 98 = .ok (.iinc 3 1, 3) := by decide +kernel
theorem dX3_countWays_101 : decode cX3_countWays 101 = .ok (.goto (-36), 3) := by decide +kernel
theorem dX3_countWays_104 : decode cX3_countWays 104 = .ok (.iinc 2 1, 3) := by decide +kernel
theorem dX3_countWays_107 : decode cX3_countWays 107 = .ok (.goto (-82), 3) := by decide +kernel
theorem dX3_countWays_110 : decode cX3_countWays 110 = .ok (.return_, 1) := by decide +kernel
theorem dX3_spreadUp_0 : decode cX3_spreadUp 0 = .ok (.aload_n 0, 1) := by decide +kernel
theorem dX3_spreadUp_1 : decode cX3_spreadUp 1 = .ok (.getfield 32, 3) := by decide +kernel
theorem dX3_spreadUp_4 : decode cX3_spreadUp 4 = .ok (.getfield 84, 3) := by decide +kernel
theorem dX3_spreadUp_7 : decode cX3_spreadUp 7 = .ok (.iload_n 1, 1) := by decide +kernel
theorem dX3_spreadUp_8 : decode cX3_spreadUp 8 = .ok (.iand, 1) := by decide +kernel
theorem dX3_spreadUp_9 : decode cX3_spreadUp 9 = .ok (.ifCond .eq 4, 3) := by decide +kernel
theorem dX3_spreadUp_12 : decode cX3_spreadUp 12 = .ok (.return_, 1) := by decide +kernel
theorem dX3_spreadUp_13 : decode cX3_spreadUp 13 = .ok (.iload_n 1, 1) := by decide +kernel
theorem dX3_spreadUp_14 : decode cX3_spreadUp 14 = .ok (.istore_n 3, 1) := by decide +kernel
theorem dX3_spreadUp_15 : decode cX3_spreadUp 15 = .ok (.iload_n 3, 1) := by decide +kernel
theorem dX3_spreadUp_16 : decode cX3_spreadUp 16 = .ok (.iload_n 2, 1) := by decide +kernel
theorem dX3_spreadUp_17 : decode cX3_spreadUp 17 = .ok (.if_icmp .gt 29, 3) := by decide +kernel
theorem dX3_spreadUp_20 : decode cX3_spreadUp 20 = .ok (.aload_n 0, 1) := by decide +kernel
theorem dX3_spreadUp_21 : decode cX3_spreadUp 21 = .ok (.getfield 15, 3) := by decide +kernel
theorem dX3_spreadUp_24 : decode cX3_spreadUp 24 = .ok (.iload_n 3, 1) := by decide +kernel
theorem dX3_spreadUp_25 : decode cX3_spreadUp 25 = .ok (.dup2, 1) := by decide +kernel
theorem dX3_spreadUp_26 : decode cX3_spreadUp 26 = .ok (.laload, 1) := by decide +kernel
theorem dX3_spreadUp_27 : decode cX3_spreadUp 27 = .ok (.aload_n 0, 1) := by decide +kernel
theorem dX3_spreadUp_28 : decode cX3_spreadUp 28 = .ok (.getfield 15, 3) := by decide +kernel
theorem dX3_spreadUp_31 : decode cX3_spreadUp 31 = .ok (.iload_n 3, 1) := by decide +kernel
theorem dX3_spreadUp_32 : decode cX3_spreadUp 32 = .ok (.iload_n 1, 1) := by decide +kernel
theorem dX3_spreadUp_33 : decode cX3_spreadUp 33 = .ok (.ixor, 1) := by decide +kernel
theorem dX3_spreadUp_34 : decode cX3_spreadUp 34 = .ok (.laload, 1) := by decide +kernel
theorem dX3_spreadUp_35 : decode cX3_spreadUp 35 = .ok (.ladd, 1) := by decide +kernel
theorem dX3_spreadUp_36 : decode cX3_spreadUp 36 = .ok (.lastore, 1) := by decide +kernel
theorem dX3_spreadUp_37 : decode cX3_spreadUp 37 = .ok (.iload_n 3, 1) := by decide +kernel
theorem dX3_spreadUp_38 : decode cX3_spreadUp 38 = .ok (.iconst 1, 1) := by decide +kernel
theorem dX3_spreadUp_39 : decode cX3_spreadUp 39 = .ok (.iadd, 1) := by decide +kernel
theorem dX3_spreadUp_40 : decode cX3_spreadUp 40 = .ok (.iload_n 1, 1) := by decide +kernel
theorem dX3_spreadUp_41 : decode cX3_spreadUp 41 = .ok (.ior, 1) := by decide +kernel
theorem dX3_spreadUp_42 : decode cX3_spreadUp 42 = .ok (.istore_n 3, 1) := by decide +kernel
theorem dX3_spreadUp_43 : decode cX3_spreadUp 43 = .ok (.goto (-28), 3) := by decide +kernel
theorem dX3_spreadUp_46 : decode cX3_spreadUp 46 = .ok (.return_, 1) := by decide +kernel
theorem dX3_findLeast_0 : decode cX3_findLeast 0 = .ok (.aload_n 0, 1) := by decide +kernel
theorem dX3_findLeast_1 : decode cX3_findLeast 1 = .ok (.iconst (-1), 1) := by decide +kernel
theorem dX3_findLeast_2 : decode cX3_findLeast 2 = .ok (.putfield 46, 3) := by decide +kernel
theorem dX3_findLeast_5 : decode cX3_findLeast 5 = .ok (.lconst 0, 1) := by decide +kernel
theorem dX3_findLeast_6 : decode cX3_findLeast 6 = .ok (.lstore_n 1, 1) := by decide +kernel
theorem dX3_findLeast_7 : decode cX3_findLeast 7 = .ok (.aload_n 0, 1) := by decide +kernel
theorem dX3_findLeast_8 : decode cX3_findLeast 8 = .ok (.getfield 32, 3) := by decide +kernel
theorem dX3_findLeast_11 : decode cX3_findLeast 11 = .ok (.invokevirtual 62, 3) := by decide +kernel
theorem dX3_findLeast_14 : decode cX3_findLeast 14 = .ok (.istore_n 3, 1) := by decide +kernel
theorem dX3_findLeast_15 : decode cX3_findLeast 15 = .ok (.iconst 0, 1) := by decide +kernel
theorem dX3_findLeast_16 : decode cX3_findLeast 16 = .ok (.istore 4, 2) := by decide +kernel
theorem dX3_findLeast_18 : decode cX3_findLeast 18 = .ok (.iload 4, 2) := by decide +kernel
theorem dX3_findLeast_20 : decode cX3_findLeast 20 = .ok (.iload_n 3, 1) := by decide +kernel
theorem dX3_findLeast_21 : decode cX3_findLeast 21 = .ok (.if_icmp .gt 88, 3) := by decide +kernel
theorem dX3_findLeast_24 : decode cX3_findLeast 24 = .ok (.aload_n 0, 1) := by decide +kernel
theorem dX3_findLeast_25 : decode cX3_findLeast 25 = .ok (.getfield 22, 3) := by decide +kernel
theorem dX3_findLeast_28 : decode cX3_findLeast 28 = .ok (.getfield 87, 3) := by decide +kernel
theorem dX3_findLeast_31 : decode cX3_findLeast 31 = .ok (.iload 4, 2) := by decide +kernel
theorem dX3_findLeast_33 : decode cX3_findLeast 33 = .ok (.iaload, 1) := by decide +kernel
theorem dX3_findLeast_34 : decode cX3_findLeast 34 = .ok (.istore 5, 2) := by decide +kernel
theorem dX3_findLeast_36 : decode cX3_findLeast 36 = .ok (.aload_n 0, 1) := by decide +kernel
theorem dX3_findLeast_37 : decode cX3_findLeast 37 = .ok (.getfield 15, 3) := by decide +kernel
theorem dX3_findLeast_40 : decode cX3_findLeast 40 = .ok (.iload 4, 2) := by decide +kernel
theorem dX3_findLeast_42 : decode cX3_findLeast 42 = .ok (.laload, 1) := by decide +kernel
theorem dX3_findLeast_43 : decode cX3_findLeast 43 = .ok (.lconst 0, 1) := by decide +kernel
theorem dX3_findLeast_44 : decode cX3_findLeast 44 = .ok (.lcmp, 1) := by decide +kernel
theorem dX3_findLeast_45 : decode cX3_findLeast 45 = .ok (.ifCond .eq 58, 3) := by decide +kernel
theorem dX3_findLeast_48 : decode cX3_findLeast 48 = .ok (.aload_n 0, 1) := by decide +kernel
theorem dX3_findLeast_49 : decode cX3_findLeast 49 = .ok (.getfield 46, 3) := by decide +kernel
theorem dX3_findLeast_52 : decode cX3_findLeast 52 = .ok (.iconst (-1), 1) := by decide +kernel
theorem dX3_findLeast_53 : decode cX3_findLeast 53 = .ok (.if_icmp .eq 15, 3) := by decide +kernel
theorem dX3_findLeast_56 : decode cX3_findLeast 56 = .ok (.iload 5, 2) := by decide +kernel
theorem dX3_findLeast_58 : decode cX3_findLeast 58 = .ok (.aload_n 0, 1) := by decide +kernel
theorem dX3_findLeast_59 : decode cX3_findLeast 59 = .ok (.getfield 46, 3) := by decide +kernel
theorem dX3_findLeast_62 : decode cX3_findLeast 62 = .ok (.if_icmp .le 6, 3) := by decide +kernel
theorem dX3_findLeast_65 : decode cX3_findLeast 65 = .ok (.goto 38, 3) := by decide +kernel
theorem dX3_findLeast_68 : decode cX3_findLeast 68 = .ok (.iload 5, 2) := by decide +kernel
theorem dX3_findLeast_70 : decode cX3_findLeast 70 = .ok (.aload_n 0, 1) := by decide +kernel
theorem dX3_findLeast_71 : decode cX3_findLeast 71 = .ok (.getfield 46, 3) := by decide +kernel
theorem dX3_findLeast_74 : decode cX3_findLeast 74 = .ok (.if_icmp .ne 15, 3) := by decide +kernel
theorem dX3_findLeast_77 : decode cX3_findLeast 77 = .ok (.lload_n 1, 1) := by decide +kernel
theorem dX3_findLeast_78 : decode cX3_findLeast 78 = .ok (.aload_n 0, 1) := by decide +kernel
theorem dX3_findLeast_79 : decode cX3_findLeast 79 = .ok (.getfield 15, 3) := by decide +kernel
theorem dX3_findLeast_82 : decode cX3_findLeast 82 = .ok (.iload 4, 2) := by decide +kernel
theorem dX3_findLeast_84 : decode cX3_findLeast 84 = .ok (.laload, 1) := by decide +kernel
theorem dX3_findLeast_85 : decode cX3_findLeast 85 = .ok (.ladd, 1) := by decide +kernel
theorem dX3_findLeast_86 : decode cX3_findLeast 86 = .ok (.goto 10, 3) := by decide +kernel
theorem dX3_findLeast_89 : decode cX3_findLeast 89 = .ok (.aload_n 0, 1) := by decide +kernel
theorem dX3_findLeast_90 : decode cX3_findLeast 90 = .ok (.getfield 15, 3) := by decide +kernel
theorem dX3_findLeast_93 : decode cX3_findLeast 93 = .ok (.iload 4, 2) := by decide +kernel
theorem dX3_findLeast_95 : decode cX3_findLeast 95 = .ok (.laload, 1) := by decide +kernel
theorem dX3_findLeast_96 : decode cX3_findLeast 96 = .ok (.lstore_n 1, 1) := by decide +kernel
theorem dX3_findLeast_97 : decode cX3_findLeast 97 = .ok (.aload_n 0, 1) := by decide +kernel
theorem dX3_findLeast_98 : decode cX3_findLeast 98 = .ok (.iload 5, 2) := by decide +kernel
theorem dX3_findLeast_100 : decode cX3_findLeast 100 = .ok (.putfield 46, 3) := by decide +kernel
theorem dX3_findLeast_103 : decode cX3_findLeast 103 = .ok (.iinc 4 1, 3) := by decide +kernel
theorem dX3_findLeast_106 : decode cX3_findLeast 106 = .ok (.goto (-88), 3) := by decide +kernel
theorem dX3_findLeast_109 : decode cX3_findLeast 109 = .ok (.aload_n 0, 1) := by decide +kernel
theorem dX3_findLeast_110 : decode cX3_findLeast 110 = .ok (.lload_n 1, 1) := by decide +kernel
theorem dX3_findLeast_111 : decode cX3_findLeast 111 = .ok (.ldc2_w 90, 3) := by decide +kernel
theorem dX3_findLeast_114 : decode cX3_findLeast 114 = .ok (.invokestatic 92, 3) := by decide +kernel
theorem dX3_findLeast_117 : decode cX3_findLeast 117 = .ok (.l2i, 1) := by decide +kernel
theorem dX3_findLeast_118 : decode cX3_findLeast 118 = .ok (.putfield 98, 3) := by decide +kernel
theorem dX3_findLeast_121 : decode cX3_findLeast 121 = .ok (.return_, 1) := by decide +kernel
theorem dX3_findOpen_0 : decode cX3_findOpen 0 = .ok (.aload_n 0, 1) := by decide +kernel
theorem dX3_findOpen_1 : decode cX3_findOpen 1 = .ok (.getfield 32, 3) := by decide +kernel
theorem dX3_findOpen_4 : decode cX3_findOpen 4 = .ok (.invokevirtual 62, 3) := by decide +kernel
theorem dX3_findOpen_7 : decode cX3_findOpen 7 = .ok (.istore_n 1, 1) := by decide +kernel
theorem dX3_findOpen_8 : decode cX3_findOpen 8 = .ok (.iconst 0, 1) := by decide +kernel
theorem dX3_findOpen_9 : decode cX3_findOpen 9 = .ok (.istore_n 2, 1) := by decide +kernel
theorem dX3_findOpen_10 : decode cX3_findOpen 10 = .ok (.iload_n 2, 1) := by decide +kernel
theorem dX3_findOpen_11 : decode cX3_findOpen 11 = .ok (.iload_n 1, 1) := by decide +kernel
theorem dX3_findOpen_12 : decode cX3_findOpen 12 = .ok (.if_icmp .gt 44, 3) := by decide +kernel
theorem dX3_findOpen_15 : decode cX3_findOpen 15 = .ok (.aload_n 0, 1) := by decide +kernel
theorem dX3_findOpen_16 : decode cX3_findOpen 16 = .ok (.getfield 19, 3) := by decide +kernel
theorem dX3_findOpen_19 : decode cX3_findOpen 19 = .ok (.iload_n 2, 1) := by decide +kernel
theorem dX3_findOpen_20 : decode cX3_findOpen 20 = .ok (.aload_n 0, 1) := by decide +kernel
theorem dX3_findOpen_21 : decode cX3_findOpen 21 = .ok (.getfield 22, 3) := by decide +kernel
theorem dX3_findOpen_24 : decode cX3_findOpen 24 = .ok (.getfield 87, 3) := by decide +kernel
theorem dX3_findOpen_27 : decode cX3_findOpen 27 = .ok (.iload_n 2, 1) := by decide +kernel
theorem dX3_findOpen_28 : decode cX3_findOpen 28 = .ok (.iaload, 1) := by decide +kernel
theorem dX3_findOpen_29 : decode cX3_findOpen 29 = .ok (.aload_n 0, 1) := by decide +kernel
theorem dX3_findOpen_30 : decode cX3_findOpen 30 = .ok (.getfield 46, 3) := by decide +kernel
theorem dX3_findOpen_33 : decode cX3_findOpen 33 = .ok (.if_icmp .ne 15, 3) := by decide +kernel
theorem dX3_findOpen_36 : decode cX3_findOpen 36 = .ok (.iconst 1, 1) := by decide +kernel
theorem dX3_findOpen_37 : decode cX3_findOpen 37 = .ok (.aload_n 0, 1) := by decide +kernel
theorem dX3_findOpen_38 : decode cX3_findOpen 38 = .ok (.getfield 32, 3) := by decide +kernel
theorem dX3_findOpen_41 : decode cX3_findOpen 41 = .ok (.getfield 68, 3) := by decide +kernel
theorem dX3_findOpen_44 : decode cX3_findOpen 44 = .ok (.ishl, 1) := by decide +kernel
theorem dX3_findOpen_45 : decode cX3_findOpen 45 = .ok (.goto 4, 3) := by decide +kernel
theorem dX3_findOpen_48 : decode cX3_findOpen 48 = .ok (.iconst 0, 1) := by decide +kernel
theorem dX3_findOpen_49 : decode cX3_findOpen 49 = .ok (.iastore, 1) := by decide +kernel
theorem dX3_findOpen_50 : decode cX3_findOpen 50 = .ok (.iinc 2 1, 3) := by decide +kernel
theorem dX3_findOpen_53 : decode cX3_findOpen 53 = .ok (.goto (-43), 3) := by decide +kernel
theorem dX3_findOpen_56 : decode cX3_findOpen 56 = .ok (.aload_n 0, 1) := by decide +kernel
theorem dX3_findOpen_57 : decode cX3_findOpen 57 = .ok (.getfield 32, 3) := by decide +kernel
theorem dX3_findOpen_60 : decode cX3_findOpen 60 = .ok (.getfield 68, 3) := by decide +kernel
theorem dX3_findOpen_63 : decode cX3_findOpen 63 = .ok (.iconst 1, 1) := by decide +kernel
theorem dX3_findOpen_64 : decode cX3_findOpen 64 = .ok (.isub, 1) := by decide +kernel
theorem dX3_findOpen_65 : decode cX3_findOpen 65 = .ok (.istore_n 2, 1) := by decide +kernel
theorem dX3_findOpen_66 : decode cX3_findOpen 66 = .ok (.iload_n 2, 1) := by decide +kernel
theorem dX3_findOpen_67 : decode cX3_findOpen 67 = .ok (.iconst 1, 1) := by decide +kernel
theorem dX3_findOpen_68 : decode cX3_findOpen 68 = .ok (.if_icmp .lt 77, 3) := by decide +kernel
theorem dX3_findOpen_71 : decode cX3_findOpen 71 = .ok (.iconst 0, 1) := by decide +kernel
theorem dX3_findOpen_72 : decode cX3_findOpen 72 = .ok (.istore_n 3, 1) := by decide +kernel
theorem dX3_findOpen_73 : decode cX3_findOpen 73 = .ok (.iload_n 3, 1) := by decide +kernel
theorem dX3_findOpen_74 : decode cX3_findOpen 74 = .ok (.iload_n 1, 1) := by decide +kernel
theorem dX3_findOpen_75 : decode cX3_findOpen 75 = .ok (.if_icmp .gt 34, 3) := by decide +kernel
theorem dX3_findOpen_78 : decode cX3_findOpen 78 = .ok (.aload_n 0, 1) := by decide +kernel
theorem dX3_findOpen_79 : decode cX3_findOpen 79 = .ok (.getfield 19, 3) := by decide +kernel
theorem dX3_findOpen_82 : decode cX3_findOpen 82 = .ok (.iload_n 3, 1) := by decide +kernel
theorem dX3_findOpen_83 : decode cX3_findOpen 83 = .ok (.dup2, 1) := by decide +kernel
theorem dX3_findOpen_84 : decode cX3_findOpen 84 = .ok (.iaload, 1) := by decide +kernel
theorem dX3_findOpen_85 : decode cX3_findOpen 85 = .ok (.aload_n 0, 1) := by decide +kernel
theorem dX3_findOpen_86 : decode cX3_findOpen 86 = .ok (.iload_n 3, 1) := by decide +kernel
theorem dX3_findOpen_87 : decode cX3_findOpen 87 = .ok (.iload_n 2, 1) := by decide +kernel
theorem dX3_findOpen_88 : decode cX3_findOpen 88 = .ok (.invokevirtual 101, 3) := by decide +kernel
theorem dX3_findOpen_91 : decode cX3_findOpen 91 = .ok (.ifCond .eq 9, 3) := by decide +kernel
theorem dX3_findOpen_94 : decode cX3_findOpen 94 = .ok (.iconst 1, 1) := by decide +kernel
theorem dX3_findOpen_95 : decode cX3_findOpen 95 = .ok (.iload_n 2, 1) := by decide +kernel
theorem dX3_findOpen_96 : decode cX3_findOpen 96 = .ok (.ishl, 1) := by decide +kernel
theorem dX3_findOpen_97 : decode cX3_findOpen 97 = .ok (.goto 4, 3) := by decide +kernel
theorem dX3_findOpen_100 : decode cX3_findOpen 100 = .ok (.iconst 0, 1) := by decide +kernel
theorem dX3_findOpen_101 : decode cX3_findOpen 101 = .ok (.ior, 1) := by decide +kernel
theorem dX3_findOpen_102 : decode cX3_findOpen 102 = .ok (.iastore, 1) := by decide +kernel
theorem dX3_findOpen_103 : decode cX3_findOpen 103 = .ok (.iinc 3 1, 3) := by decide +kernel
theorem dX3_findOpen_106 : decode cX3_findOpen 106 = .ok (.goto (-33), 3) := by decide +kernel
theorem dX3_findOpen_109 : decode cX3_findOpen 109 = .ok (.iconst 0, 1) := by decide +kernel
theorem dX3_findOpen_110 : decode cX3_findOpen 110 = .ok (.istore_n 3, 1) := by decide +kernel
theorem dX3_findOpen_111 : decode cX3_findOpen 111 = .ok (.iload_n 3, 1) := by decide +kernel
theorem dX3_findOpen_112 : decode cX3_findOpen 112 = .ok (.aload_n 0, 1) := by decide +kernel
theorem dX3_findOpen_113 : decode cX3_findOpen 113 = .ok (.getfield 32, 3) := by decide +kernel
theorem dX3_findOpen_116 : decode cX3_findOpen 116 = .ok (.getfield 71, 3) := by decide +kernel
theorem dX3_findOpen_119 : decode cX3_findOpen 119 = .ok (.if_icmp .ge 20, 3) := by decide +kernel
theorem dX3_findOpen_122 : decode cX3_findOpen 122 = .ok (.aload_n 0, 1) := by decide +kernel
theorem dX3_findOpen_123 : decode cX3_findOpen 123 = .ok (.iconst 1, 1) := by decide +kernel
theorem dX3_findOpen_124 : decode cX3_findOpen 124 = .ok (.iload_n 3, 1) := by decide +kernel
theorem dX3_findOpen_125 : decode cX3_findOpen 125 = .ok (.ishl, 1) := by decide +kernel
theorem dX3_findOpen_126 : decode cX3_findOpen 126 = .ok (.iload_n 1, 1) := by decide +kernel
theorem dX3_findOpen_127 : decode cX3_findOpen 127 = .ok (.iconst 1, 1) := by decide +kernel
theorem dX3_findOpen_128 : decode cX3_findOpen 128 = .ok (.iload_n 2, 1) := by decide +kernel
theorem dX3_findOpen_129 : decode cX3_findOpen 129 = .ok (.ishl, 1) := by decide +kernel
theorem dX3_findOpen_130 : decode cX3_findOpen 130 = .ok (.invokevirtual 105, 3) := by decide +kernel
theorem dX3_findOpen_133 : decode cX3_findOpen 133 = .ok (.iinc 3 1, 3) := by decide +kernel
theorem dX3_findOpen_136 : decode cX3_findOpen 136 = .ok (.goto (-25), 3) := by decide +kernel
theorem dX3_findOpen_139 : decode cX3_findOpen 139 = .ok (.iinc 2 (-1), 3) := by decide +kernel
theorem dX3_findOpen_142 : decode cX3_findOpen 142 = .ok (.goto (-76), 3) := by decide +kernel
theorem dX3_findOpen_145 : decode cX3_findOpen 145 = .ok (.return_, 1) := by decide +kernel
theorem dX3_spreadDown_0 : decode cX3_spreadDown 0 = .ok (.aload_n 0, 1) := by decide +kernel
theorem dX3_spreadDown_1 : decode cX3_spreadDown 1 = .ok (.getfield 32, 3) := by decide +kernel
theorem dX3_spreadDown_4 : decode cX3_spreadDown 4 = .ok (.getfield 84, 3) := by decide +kernel
theorem dX3_spreadDown_7 : decode cX3_spreadDown 7 = .ok (.iload_n 1, 1) := by decide +kernel
theorem dX3_spreadDown_8 : decode cX3_spreadDown 8 = .ok (.iand, 1) := by decide +kernel
theorem dX3_spreadDown_9 : decode cX3_spreadDown 9 = .ok (.ifCond .eq 4, 3) := by decide +kernel
theorem dX3_spreadDown_12 : decode cX3_spreadDown 12 = .ok (.return_, 1) := by decide +kernel
theorem dX3_spreadDown_13 : decode cX3_spreadDown 13 = .ok (.iload_n 1, 1) := by decide +kernel
theorem dX3_spreadDown_14 : decode cX3_spreadDown 14 = .ok (.istore 4, 2) := by decide +kernel
theorem dX3_spreadDown_16 : decode cX3_spreadDown 16 = .ok (.iload 4, 2) := by decide +kernel
theorem dX3_spreadDown_18 : decode cX3_spreadDown 18 = .ok (.iload_n 2, 1) := by decide +kernel
theorem dX3_spreadDown_19 : decode cX3_spreadDown 19 = .ok (.if_icmp .gt 35, 3) := by decide +kernel
theorem dX3_spreadDown_22 : decode cX3_spreadDown 22 = .ok (.aload_n 0, 1) := by decide +kernel
theorem dX3_spreadDown_23 : decode cX3_spreadDown 23 = .ok (.getfield 19, 3) := by decide +kernel
theorem dX3_spreadDown_26 : decode cX3_spreadDown 26 = .ok (.iload 4, 2) := by decide +kernel
theorem dX3_spreadDown_28 : decode cX3_spreadDown 28 = .ok (.iload_n 1, 1) := by decide +kernel
theorem dX3_spreadDown_29 : decode cX3_spreadDown 29 = .ok (.ixor, 1) := by decide +kernel
theorem dX3_spreadDown_30 : decode cX3_spreadDown 30 = .ok (.dup2, 1) := by decide +kernel
theorem dX3_spreadDown_31 : decode cX3_spreadDown 31 = .ok (.iaload, 1) := by decide +kernel
theorem dX3_spreadDown_32 : decode cX3_spreadDown 32 = .ok (.aload_n 0, 1) := by decide +kernel
theorem dX3_spreadDown_33 : decode cX3_spreadDown 33 = .ok (.getfield 19, 3) := by decide +kernel
theorem dX3_spreadDown_36 : decode cX3_spreadDown 36 = .ok (.iload 4, 2) := by decide +kernel
theorem dX3_spreadDown_38 : decode cX3_spreadDown 38 = .ok (.iaload, 1) := by decide +kernel
theorem dX3_spreadDown_39 : decode cX3_spreadDown 39 = .ok (.iload_n 3, 1) := by decide +kernel
theorem dX3_spreadDown_40 : decode cX3_spreadDown 40 = .ok (.iand, 1) := by decide +kernel
theorem dX3_spreadDown_41 : decode cX3_spreadDown 41 = .ok (.ior, 1) := by decide +kernel
theorem dX3_spreadDown_42 : decode cX3_spreadDown 42 = .ok (.iastore, 1) := by decide +kernel
theorem dX3_spreadDown_43 : decode cX3_spreadDown 43 = .ok (.iload 4, 2) := by decide +kernel
theorem dX3_spreadDown_45 : decode cX3_spreadDown 45 = .ok (.iconst 1, 1) := by decide +kernel
theorem dX3_spreadDown_46 : decode cX3_spreadDown 46 = .ok (.iadd, 1) := by decide +kernel
theorem dX3_spreadDown_47 : decode cX3_spreadDown 47 = .ok (.iload_n 1, 1) := by decide +kernel
theorem dX3_spreadDown_48 : decode cX3_spreadDown 48 = .ok (.ior, 1) := by decide +kernel
theorem dX3_spreadDown_49 : decode cX3_spreadDown 49 = .ok (.istore 4, 2) := by decide +kernel
theorem dX3_spreadDown_51 : decode cX3_spreadDown 51 = .ok (.goto (-35), 3) := by decide +kernel
theorem dX3_spreadDown_54 : decode cX3_spreadDown 54 = .ok (.return_, 1) := by decide +kernel
theorem dX3_goesOn_0 : decode cX3_goesOn 0 = .ok (.aload_n 0, 1) := by decide +kernel
theorem dX3_goesOn_1 : decode cX3_goesOn 1 = .ok (.getfield 32, 3) := by decide +kernel
theorem dX3_goesOn_4 : decode cX3_goesOn 4 = .ok (.getfield 78, 3) := by decide +kernel
theorem dX3_goesOn_7 : decode cX3_goesOn 7 = .ok (.iload_n 1, 1) := by decide +kernel
theorem dX3_goesOn_8 : decode cX3_goesOn 8 = .ok (.iaload, 1) := by decide +kernel
theorem dX3_goesOn_9 : decode cX3_goesOn 9 = .ok (.aload_n 0, 1) := by decide +kernel
theorem dX3_goesOn_10 : decode cX3_goesOn 10 = .ok (.getfield 32, 3) := by decide +kernel
theorem dX3_goesOn_13 : decode cX3_goesOn 13 = .ok (.getfield 81, 3) := by decide +kernel
theorem dX3_goesOn_16 : decode cX3_goesOn 16 = .ok (.iload_n 2, 1) := by decide +kernel
theorem dX3_goesOn_17 : decode cX3_goesOn 17 = .ok (.iaload, 1) := by decide +kernel
theorem dX3_goesOn_18 : decode cX3_goesOn 18 = .ok (.if_icmp .ne 23, 3) := by decide +kernel
theorem dX3_goesOn_21 : decode cX3_goesOn 21 = .ok (.aload_n 0, 1) := by decide +kernel
theorem dX3_goesOn_22 : decode cX3_goesOn 22 = .ok (.getfield 19, 3) := by decide +kernel
theorem dX3_goesOn_25 : decode cX3_goesOn 25 = .ok (.iload_n 1, 1) := by decide +kernel
theorem dX3_goesOn_26 : decode cX3_goesOn 26 = .ok (.iaload, 1) := by decide +kernel
theorem dX3_goesOn_27 : decode cX3_goesOn 27 = .ok (.iload_n 2, 1) := by decide +kernel
theorem dX3_goesOn_28 : decode cX3_goesOn 28 = .ok (.iconst 1, 1) := by decide +kernel
theorem dX3_goesOn_29 : decode cX3_goesOn 29 = .ok (.iadd, 1) := by decide +kernel
theorem dX3_goesOn_30 : decode cX3_goesOn 30 = .ok (.ishr, 1) := by decide +kernel
theorem dX3_goesOn_31 : decode cX3_goesOn 31 = .ok (.iconst 1, 1) := by decide +kernel
theorem dX3_goesOn_32 : decode cX3_goesOn 32 = .ok (.iand, 1) := by decide +kernel
theorem dX3_goesOn_33 : decode cX3_goesOn 33 = .ok (.iconst 1, 1) := by decide +kernel
theorem dX3_goesOn_34 : decode cX3_goesOn 34 = .ok (.if_icmp .ne 7, 3) := by decide +kernel
theorem dX3_goesOn_37 : decode cX3_goesOn 37 = .ok (.iconst 1, 1) := by decide +kernel
theorem dX3_goesOn_38 : decode cX3_goesOn 38 = .ok (.goto 4, 3) := by decide +kernel
theorem dX3_goesOn_41 : decode cX3_goesOn 41 = .ok (.iconst 0, 1) := by decide +kernel
theorem dX3_goesOn_42 : decode cX3_goesOn 42 = .ok (.ireturn, 1) := by decide +kernel
theorem dX3_findStates_0 : decode cX3_findStates 0 = .ok (.aload_n 0, 1) := by decide +kernel
theorem dX3_findStates_1 : decode cX3_findStates 1 = .ok (.getfield 32, 3) := by decide +kernel
theorem dX3_findStates_4 : decode cX3_findStates 4 = .ok (.invokevirtual 62, 3) := by decide +kernel
theorem dX3_findStates_7 : decode cX3_findStates 7 = .ok (.istore_n 1, 1) := by decide +kernel
theorem dX3_findStates_8 : decode cX3_findStates 8 = .ok (.iconst 0, 1) := by decide +kernel
theorem dX3_findStates_9 : decode cX3_findStates 9 = .ok (.istore_n 2, 1) := by decide +kernel
theorem dX3_findStates_10 : decode cX3_findStates 10 = .ok (.iconst 0, 1) := by decide +kernel
theorem dX3_findStates_11 : decode cX3_findStates 11 = .ok (.istore_n 3, 1) := by decide +kernel
theorem dX3_findStates_12 : decode cX3_findStates 12 = .ok (.iload_n 3, 1) := by decide +kernel
theorem dX3_findStates_13 : decode cX3_findStates 13 = .ok (.aload_n 0, 1) := by decide +kernel
theorem dX3_findStates_14 : decode cX3_findStates 14 = .ok (.getfield 32, 3) := by decide +kernel
theorem dX3_findStates_17 : decode cX3_findStates 17 = .ok (.getfield 68, 3) := by decide +kernel
theorem dX3_findStates_20 : decode cX3_findStates 20 = .ok (.if_icmp .ge 70, 3) := by decide +kernel
theorem dX3_findStates_23 : decode cX3_findStates 23 = .ok (.iload_n 2, 1) := by decide +kernel
theorem dX3_findStates_24 : decode cX3_findStates 24 = .ok (.istore 4, 2) := by decide +kernel
theorem dX3_findStates_26 : decode cX3_findStates 26 = .ok (.iload 4, 2) := by decide +kernel
theorem dX3_findStates_28 : decode cX3_findStates 28 = .ok (.iload_n 1, 1) := by decide +kernel
theorem dX3_findStates_29 : decode cX3_findStates 29 = .ok (.if_icmp .gt 37, 3) := by decide +kernel
theorem dX3_findStates_32 : decode cX3_findStates 32 = .ok (.aload_n 0, 1) := by decide +kernel
theorem dX3_findStates_33 : decode cX3_findStates 33 = .ok (.iload 4, 2) := by decide +kernel
theorem dX3_findStates_35 : decode cX3_findStates 35 = .ok (.iload_n 3, 1) := by decide +kernel
theorem dX3_findStates_36 : decode cX3_findStates 36 = .ok (.invokevirtual 101, 3) := by decide +kernel
theorem dX3_findStates_39 : decode cX3_findStates 39 = .ok (.ifCond .eq 16, 3) := by decide +kernel
theorem dX3_findStates_42 : decode cX3_findStates 42 = .ok (.aload_n 0, 1) := by decide +kernel
theorem dX3_findStates_43 : decode cX3_findStates 43 = .ok (.getfield 32, 3) := by decide +kernel
theorem dX3_findStates_46 : decode cX3_findStates 46 = .ok (.iload_n 2, 1) := by decide +kernel
theorem dX3_findStates_47 : decode cX3_findStates 47 = .ok (.iload 4, 2) := by decide +kernel
theorem dX3_findStates_49 : decode cX3_findStates 49 = .ok (.invokevirtual 109, 3) := by decide +kernel
theorem dX3_findStates_52 : decode cX3_findStates 52 = .ok (.ifCond .ne 14, 3) := by decide +kernel
theorem dX3_findStates_55 : decode cX3_findStates 55 = .ok (.iload 4, 2) := by decide +kernel
theorem dX3_findStates_57 : decode cX3_findStates 57 = .ok (.iconst 1, 1) := by decide +kernel
theorem dX3_findStates_58 : decode cX3_findStates 58 = .ok (.iadd, 1) := by decide +kernel
theorem dX3_findStates_59 : decode cX3_findStates 59 = .ok (.iload_n 2, 1) := by decide +kernel
theorem dX3_findStates_60 : decode cX3_findStates 60 = .ok (.ior, 1) := by decide +kernel
theorem dX3_findStates_61 : decode cX3_findStates 61 = .ok (.istore 4, 2) := by decide +kernel
theorem dX3_findStates_63 : decode cX3_findStates 63 = .ok (.goto (-37), 3) := by decide +kernel
theorem dX3_findStates_66 : decode cX3_findStates 66 = .ok (.iload 4, 2) := by decide +kernel
theorem dX3_findStates_68 : decode cX3_findStates 68 = .ok (.iload_n 1, 1) := by decide +kernel
theorem dX3_findStates_69 : decode cX3_findStates 69 = .ok (.if_icmp .le 4, 3) := by decide +kernel
theorem dX3_findStates_72 : decode cX3_findStates 72 = .ok (.return_, 1) := by decide +kernel
theorem dX3_findStates_73 : decode cX3_findStates 73 = .ok (.aload_n 0, 1) := by decide +kernel
theorem dX3_findStates_74 : decode cX3_findStates 74 = .ok (.getfield 9, 3) := by decide +kernel
theorem dX3_findStates_77 : decode cX3_findStates 77 = .ok (.iload_n 3, 1) := by decide +kernel
theorem dX3_findStates_78 : decode cX3_findStates 78 = .ok (.iload 4, 2) := by decide +kernel
theorem dX3_findStates_80 : decode cX3_findStates 80 = .ok (.iastore, 1) := by decide +kernel
theorem dX3_findStates_81 : decode cX3_findStates 81 = .ok (.iload 4, 2) := by decide +kernel
theorem dX3_findStates_83 : decode cX3_findStates 83 = .ok (.istore_n 2, 1) := by decide +kernel
theorem dX3_findStates_84 : decode cX3_findStates 84 = .ok (.iinc 3 1, 3) := by decide +kernel
theorem dX3_findStates_87 : decode cX3_findStates 87 = .ok (.goto (-75), 3) := by decide +kernel
theorem dX3_findStates_90 : decode cX3_findStates 90 = .ok (.return_, 1) := by decide +kernel
theorem dX4_init_0 : decode cX4_init 0 = .ok (.aload_n 0, 1) := by decide +kernel
theorem dX4_init_1 : decode cX4_init 1 = .ok (.invokespecial 3, 3) := by decide +kernel
theorem dX4_init_4 : decode cX4_init 4 = .ok (.aload_n 0, 1) := by decide +kernel
theorem dX4_init_5 : decode cX4_init 5 = .ok (.sipush 256, 3) := by decide +kernel
theorem dX4_init_8 : decode cX4_init 8 = .ok (.newarray .int, 2) := by decide +kernel
theorem dX4_init_10 : decode cX4_init 10 = .ok (.putfield 9, 3) := by decide +kernel
theorem dX4_init_13 : decode cX4_init 13 = .ok (.aload_n 0, 1) := by decide +kernel
theorem dX4_init_14 : decode cX4_init 14 = .ok (.bipush 9, 2) := by decide +kernel
theorem dX4_init_16 : decode cX4_init 16 = .ok (.newarray .int, 2) := by decide +kernel
theorem dX4_init_18 : decode cX4_init 18 = .ok (.putfield 15, 3) := by decide +kernel
theorem dX4_init_21 : decode cX4_init 21 = .ok (.aload_n 0, 1) := by decide +kernel
theorem dX4_init_22 : decode cX4_init 22 = .ok (.bipush 8, 2) := by decide +kernel
theorem dX4_init_24 : decode cX4_init 24 = .ok (.newarray .int, 2) := by decide +kernel
theorem dX4_init_26 : decode cX4_init 26 = .ok (.putfield 18, 3) := by decide +kernel
theorem dX4_init_29 : decode cX4_init 29 = .ok (.aload_n 0, 1) := by decide +kernel
theorem dX4_init_30 : decode cX4_init 30 = .ok (.new 21, 3) := by decide +kernel
theorem dX4_init_33 : decode cX4_init 33 = .ok (.dup, 1) := by decide +kernel
theorem dX4_init_34 : decode cX4_init 34 = .ok (.sipush 256, 3) := by decide +kernel
theorem dX4_init_37 : decode cX4_init 37 = .ok (.invokespecial 23, 3) := by decide +kernel
theorem dX4_init_40 : decode cX4_init 40 = .ok (.putfield 26, 3) := by decide +kernel
theorem dX4_init_43 : decode cX4_init 43 = .ok (.aload_n 0, 1) := by decide +kernel
theorem dX4_init_44 : decode cX4_init 44 = .ok (.new 21, 3) := by decide +kernel
theorem dX4_init_47 : decode cX4_init 47 = .ok (.dup, 1) := by decide +kernel
theorem dX4_init_48 : decode cX4_init 48 = .ok (.sipush 256, 3) := by decide +kernel
theorem dX4_init_51 : decode cX4_init 51 = .ok (.invokespecial 23, 3) := by decide +kernel
theorem dX4_init_54 : decode cX4_init 54 = .ok (.putfield 30, 3) := by decide +kernel
theorem dX4_init_57 : decode cX4_init 57 = .ok (.aload_n 0, 1) := by decide +kernel
theorem dX4_init_58 : decode cX4_init 58 = .ok (.sipush 256, 3) := by decide +kernel
theorem dX4_init_61 : decode cX4_init 61 = .ok (.newarray .long, 2) := by decide +kernel
theorem dX4_init_63 : decode cX4_init 63 = .ok (.putfield 33, 3) := by decide +kernel
theorem dX4_init_66 : decode cX4_init 66 = .ok (.aload_n 0, 1) := by decide +kernel
theorem dX4_init_67 : decode cX4_init 67 = .ok (.bipush 8, 2) := by decide +kernel
theorem dX4_init_69 : decode cX4_init 69 = .ok (.newarray .long, 2) := by decide +kernel
theorem dX4_init_71 : decode cX4_init 71 = .ok (.putfield 37, 3) := by decide +kernel
theorem dX4_init_74 : decode cX4_init 74 = .ok (.aload_n 0, 1) := by decide +kernel
theorem dX4_init_75 : decode cX4_init 75 = .ok (.bipush 9, 2) := by decide +kernel
theorem dX4_init_77 : decode cX4_init 77 = .ok (.newarray .int, 2) := by decide +kernel
theorem dX4_init_79 : decode cX4_init 79 = .ok (.putfield 40, 3) := by decide +kernel
theorem dX4_init_82 : decode cX4_init 82 = .ok (.aload_n 0, 1) := by decide +kernel
theorem dX4_init_83 : decode cX4_init 83 = .ok (.lconst 1, 1) := by decide +kernel
theorem dX4_init_84 : decode cX4_init 84 = .ok (.putfield 43, 3) := by decide +kernel
theorem dX4_init_87 : decode cX4_init 87 = .ok (.aload_n 0, 1) := by decide +kernel
theorem dX4_init_88 : decode cX4_init 88 = .ok (.aload_n 1, 1) := by decide +kernel
theorem dX4_init_89 : decode cX4_init 89 = .ok (.putfield 47, 3) := by decide +kernel
theorem dX4_init_92 : decode cX4_init 92 = .ok (.return_, 1) := by decide +kernel
theorem dX4_forgetTables_0 : decode cX4_forgetTables 0 = .ok (.aload_n 0, 1) := by decide +kernel
theorem dX4_forgetTables_1 : decode cX4_forgetTables 1 = .ok (.iconst 0, 1) := by decide +kernel
theorem dX4_forgetTables_2 : decode cX4_forgetTables 2 = .ok (.putfield 51, 3) := by decide +kernel
theorem dX4_forgetTables_5 : decode cX4_forgetTables 5 = .ok (.aload_n 0, 1) := by decide +kernel
theorem dX4_forgetTables_6 : decode cX4_forgetTables 6 = .ok (.iconst 0, 1) := by decide +kernel
theorem dX4_forgetTables_7 : decode cX4_forgetTables 7 = .ok (.putfield 55, 3) := by decide +kernel
theorem dX4_forgetTables_10 : decode cX4_forgetTables 10 = .ok (.aload_n 0, 1) := by decide +kernel
theorem dX4_forgetTables_11 : decode cX4_forgetTables 11 = .ok (.iconst 0, 1) := by decide +kernel
theorem dX4_forgetTables_12 : decode cX4_forgetTables 12 = .ok (.putfield 58, 3) := by decide +kernel
theorem dX4_forgetTables_15 : decode cX4_forgetTables 15 = .ok (.return_, 1) := by decide +kernel
theorem dX4_oilOf_0 : decode cX4_oilOf 0 = .ok (.aload_n 0, 1) := by decide +kernel
theorem dX4_oilOf_1 : decode cX4_oilOf 1 = .ok (.invokevirtual 61, 3) := by decide +kernel
theorem dX4_oilOf_4 : decode cX4_oilOf 4 = .ok (.aload_n 0, 1) := by decide +kernel
theorem dX4_oilOf_5 : decode cX4_oilOf 5 = .ok (.getfield 9, 3) := by decide +kernel
theorem dX4_oilOf_8 : decode cX4_oilOf 8 = .ok (.iload_n 1, 1) := by decide +kernel
theorem dX4_oilOf_9 : decode cX4_oilOf 9 = .ok (.iaload, 1) := by decide +kernel
theorem dX4_oilOf_10 : decode cX4_oilOf 10 = .ok (.ireturn, 1) := by decide +kernel
theorem dX4_lastingOf_0 : decode cX4_lastingOf 0 = .ok (.aload_n 0, 1) := by decide +kernel
theorem dX4_lastingOf_1 : decode cX4_lastingOf 1 = .ok (.invokevirtual 64, 3) := by decide +kernel
theorem dX4_lastingOf_4 : decode cX4_lastingOf 4 = .ok (.aload_n 0, 1) := by decide +kernel
theorem dX4_lastingOf_5 : decode cX4_lastingOf 5 = .ok (.getfield 26, 3) := by decide +kernel
theorem dX4_lastingOf_8 : decode cX4_lastingOf 8 = .ok (.getfield 67, 3) := by decide +kernel
theorem dX4_lastingOf_11 : decode cX4_lastingOf 11 = .ok (.iload_n 1, 1) := by decide +kernel
theorem dX4_lastingOf_12 : decode cX4_lastingOf 12 = .ok (.iaload, 1) := by decide +kernel
theorem dX4_lastingOf_13 : decode cX4_lastingOf 13 = .ok (.ireturn, 1) := by decide +kernel
theorem dX4_lastingWithout_0 : decode cX4_lastingWithout 0 = .ok (.aload_n 0, 1) := by decide +kernel
theorem dX4_lastingWithout_1 : decode cX4_lastingWithout 1 = .ok (.getfield 30, 3) := by decide +kernel
theorem dX4_lastingWithout_4 : decode cX4_lastingWithout 4 = .ok (.aload_n 0, 1) := by decide +kernel
theorem dX4_lastingWithout_5 : decode cX4_lastingWithout 5 = .ok (.getfield 47, 3) := by decide +kernel
theorem dX4_lastingWithout_8 : decode cX4_lastingWithout 8 = .ok (.getfield 70, 3) := by decide +kernel
theorem dX4_lastingWithout_11 : decode cX4_lastingWithout 11 = .ok (.aload_n 0, 1) := by decide +kernel
theorem dX4_lastingWithout_12 : decode cX4_lastingWithout 12 = .ok (.getfield 47, 3) := by decide +kernel
theorem dX4_lastingWithout_15 : decode cX4_lastingWithout 15 = .ok (.invokevirtual 75, 3) := by decide +kernel
theorem dX4_lastingWithout_18 : decode cX4_lastingWithout 18 = .ok (.aload_n 0, 1) := by decide +kernel
theorem dX4_lastingWithout_19 : decode cX4_lastingWithout 19 = .ok (.getfield 47, 3) := by decide +kernel
theorem dX4_lastingWithout_22 : decode cX4_lastingWithout 22 = .ok (.getfield 79, 3) := by decide +kernel
theorem dX4_lastingWithout_25 : decode cX4_lastingWithout 25 = .ok (.iconst 1, 1) := by decide +kernel
theorem dX4_lastingWithout_26 : decode cX4_lastingWithout 26 = .ok (.iload_n 1, 1) := by decide +kernel
theorem dX4_lastingWithout_27 : decode cX4_lastingWithout 27 = .ok (.ishl, 1) := by decide +kernel
theorem dX4_lastingWithout_28 : decode cX4_lastingWithout 28 = .ok (.ior, 1) := by decide +kernel
theorem dX4_lastingWithout_29 : decode cX4_lastingWithout 29 = .ok (.aload_n 0, 1) := by decide +kernel
theorem dX4_lastingWithout_30 : decode cX4_lastingWithout 30 = .ok (.getfield 47, 3) := by decide +kernel
theorem dX4_lastingWithout_33 : decode cX4_lastingWithout 33 = .ok (.getfield 83, 3) := by decide +kernel
theorem dX4_lastingWithout_36 : decode cX4_lastingWithout 36 = .ok (.invokevirtual 86, 3) := by decide +kernel
theorem dX4_lastingWithout_39 : decode cX4_lastingWithout 39 = .ok (.aload_n 0, 1) := by decide +kernel
theorem dX4_lastingWithout_40 : decode cX4_lastingWithout 40 = .ok (.getfield 30, 3) := by decide +kernel
theorem dX4_lastingWithout_43 : decode cX4_lastingWithout 43 = .ok (.getfield 67, 3) := by decide +kernel
theorem dX4_lastingWithout_46 : decode cX4_lastingWithout 46 = .ok (.iconst 0, 1) := by decide +kernel
theorem dX4_lastingWithout_47 : decode cX4_lastingWithout 47 = .ok (.iaload, 1) := by decide +kernel
theorem dX4_lastingWithout_48 : decode cX4_lastingWithout 48 = .ok (.ireturn, 1) := by decide +kernel
theorem dX4_meanPart_0 : decode cX4_meanPart 0 = .ok (.aload_n 0, 1) := by decide +kernel
theorem dX4_meanPart_1 : decode cX4_meanPart 1 = .ok (.invokevirtual 90, 3) := by decide +kernel
theorem dX4_meanPart_4 : decode cX4_meanPart 4 = .ok (.aload_n 0, 1) := by decide +kernel
theorem dX4_meanPart_5 : decode cX4_meanPart 5 = .ok (.getfield 33, 3) := by decide +kernel
theorem dX4_meanPart_8 : decode cX4_meanPart 8 = .ok (.iload_n 1, 1) := by decide +kernel
theorem dX4_meanPart_9 : decode cX4_meanPart 9 = .ok (.laload, 1) := by decide +kernel
theorem dX4_meanPart_10 : decode cX4_meanPart 10 = .ok (.lstore_n 3, 1) := by decide +kernel
theorem dX4_meanPart_11 : decode cX4_meanPart 11 = .ok (.aload_n 0, 1) := by decide +kernel
theorem dX4_meanPart_12 : decode cX4_meanPart 12 = .ok (.getfield 47, 3) := by decide +kernel
theorem dX4_meanPart_15 : decode cX4_meanPart 15 = .ok (.getfield 70, 3) := by decide +kernel
theorem dX4_meanPart_18 : decode cX4_meanPart 18 = .ok (.iload_n 1, 1) := by decide +kernel
theorem dX4_meanPart_19 : decode cX4_meanPart 19 = .ok (.iaload, 1) := by decide +kernel
theorem dX4_meanPart_20 : decode cX4_meanPart 20 = .ok (.iconst (-1), 1) := by decide +kernel
theorem dX4_meanPart_21 : decode cX4_meanPart 21 = .ok (.if_icmp .ne 19, 3) := by decide +kernel
theorem dX4_meanPart_24 : decode cX4_meanPart 24 = .ok (.aload_n 0, 1) := by decide +kernel
theorem dX4_meanPart_25 : decode cX4_meanPart 25 = .ok (.getfield 43, 3) := by decide +kernel
theorem dX4_meanPart_28 : decode cX4_meanPart 28 = .ok (.aload_n 0, 1) := by decide +kernel
theorem dX4_meanPart_29 : decode cX4_meanPart 29 = .ok (.getfield 47, 3) := by decide +kernel
theorem dX4_meanPart_32 : decode cX4_meanPart 32 = .ok (.getfield 83, 3) := by decide +kernel
theorem dX4_meanPart_35 : decode cX4_meanPart 35 = .ok (.i2l, 1) := by decide +kernel
theorem dX4_meanPart_36 : decode cX4_meanPart 36 = .ok (.lmul, 1) := by decide +kernel
theorem dX4_meanPart_37 : decode cX4_meanPart 37 = .ok (.goto 7, 3) := by decide +kernel
theorem dX4_meanPart_40 : decode cX4_meanPart 40 = .ok (.aload_n 0, 1) := by decide +kernel
theorem dX4_meanPart_41 : decode cX4_meanPart 41 = .ok (.getfield 43, 3) := by decide +kernel
theorem dX4_meanPart_44 : decode cX4_meanPart 44 = .ok (.lstore 5, 2) := by decide +kernel
theorem dX4_meanPart_46 : decode cX4_meanPart 46 = .ok (.lconst 1, 1) := by decide +kernel
theorem dX4_meanPart_47 : decode cX4_meanPart 47 = .ok (.lload_n 3, 1) := by decide +kernel
theorem dX4_meanPart_48 : decode cX4_meanPart 48 = .ok (.lload 5, 2) := by decide +kernel
theorem dX4_meanPart_50 : decode cX4_meanPart 50 = .ok (.invokestatic 93, 3) := by decide +kernel
theorem dX4_meanPart_53 : decode cX4_meanPart 53 = .ok (.invokestatic 97, 3) := by decide +kernel
theorem dX4_meanPart_56 : decode cX4_meanPart 56 = .ok (.lstore 7, 2) := by decide +kernel
theorem dX4_meanPart_58 : decode cX4_meanPart 58 = .ok (.iload_n 2, 1) := by decide +kernel
theorem dX4_meanPart_59 : decode cX4_meanPart 59 = .ok (.ifCond .eq 10, 3) := by decide +kernel
theorem dX4_meanPart_62 : decode cX4_meanPart 62 = .ok (.lload_n 3, 1) := by decide +kernel
theorem dX4_meanPart_63 : decode cX4_meanPart 63 = .ok (.lload 7, 2) := by decide +kernel
theorem dX4_meanPart_65 : decode cX4_meanPart 65 = .ok (.ldiv, 1) := by decide +kernel
theorem dX4_meanPart_66 : decode cX4_meanPart 66 = .ok (.goto 8, 3) := by decide +kernel
theorem dX4_meanPart_69 : decode cX4_meanPart 69 = .ok (.lload 5, 2) := by decide +kernel
theorem dX4_meanPart_71 : decode cX4_meanPart 71 = .ok (.lload 7, 2) := by decide +kernel
theorem dX4_meanPart_73 : decode cX4_meanPart 73 = .ok (.ldiv, 1) := by decide +kernel
theorem dX4_meanPart_74 : decode cX4_meanPart 74 = .ok (.lreturn, 1) := by decide +kernel
theorem dX4_choose_0 : decode cX4_choose 0 = .ok (.aload_n 0, 1) := by decide +kernel
theorem dX4_choose_1 : decode cX4_choose 1 = .ok (.iload_n 1, 1) := by decide +kernel
theorem dX4_choose_2 : decode cX4_choose 2 = .ok (.iload_n 3, 1) := by decide +kernel
theorem dX4_choose_3 : decode cX4_choose 3 = .ok (.invokevirtual 102, 3) := by decide +kernel
theorem dX4_choose_6 : decode cX4_choose 6 = .ok (.aload_n 0, 1) := by decide +kernel
theorem dX4_choose_7 : decode cX4_choose 7 = .ok (.getfield 18, 3) := by decide +kernel
theorem dX4_choose_10 : decode cX4_choose 10 = .ok (.iload_n 2, 1) := by decide +kernel
theorem dX4_choose_11 : decode cX4_choose 11 = .ok (.iaload, 1) := by decide +kernel
theorem dX4_choose_12 : decode cX4_choose 12 = .ok (.ireturn, 1) := by decide +kernel
theorem dX4_chooseAll_0 : decode cX4_chooseAll 0 = .ok (.aload_n 0, 1) := by decide +kernel
theorem dX4_chooseAll_1 : decode cX4_chooseAll 1 = .ok (.getfield 18, 3) := by decide +kernel
theorem dX4_chooseAll_4 : decode cX4_chooseAll 4 = .ok (.iconst (-1), 1) := by decide +kernel
theorem dX4_chooseAll_5 : decode cX4_chooseAll 5 = .ok (.invokestatic 106, 3) := by decide +kernel
theorem dX4_chooseAll_8 : decode cX4_chooseAll 8 = .ok (.aload_n 0, 1) := by decide +kernel
theorem dX4_chooseAll_9 : decode cX4_chooseAll 9 = .ok (.getfield 47, 3) := by decide +kernel
theorem dX4_chooseAll_12 : decode cX4_chooseAll 12 = .ok (.invokevirtual 75, 3) := by decide +kernel
theorem dX4_chooseAll_15 : decode cX4_chooseAll 15 = .ok (.istore_n 3, 1) := by decide +kernel
theorem dX4_chooseAll_16 : decode cX4_chooseAll 16 = .ok (.iload_n 1, 1) := by decide +kernel
theorem dX4_chooseAll_17 : decode cX4_chooseAll 17 = .ok (.istore 4, 2) := by decide +kernel
theorem dX4_chooseAll_19 : decode cX4_chooseAll 19 = .ok (.iload 4, 2) := by decide +kernel
theorem dX4_chooseAll_21 : decode cX4_chooseAll 21 = .ok (.iload_n 3, 1) := by decide +kernel
theorem dX4_chooseAll_22 : decode cX4_chooseAll 22 = .ok (.if_icmp .gt 88, 3) := by decide +kernel
theorem dX4_chooseAll_25 : decode cX4_chooseAll 25 = .ok (.aload_n 0, 1) := by decide +kernel
theorem dX4_chooseAll_26 : decode cX4_chooseAll 26 = .ok (.getfield 47, 3) := by decide +kernel
theorem dX4_chooseAll_29 : decode cX4_chooseAll 29 = .ok (.getfield 70, 3) := by decide +kernel
theorem dX4_chooseAll_32 : decode cX4_chooseAll 32 = .ok (.iload 4, 2) := by decide +kernel
theorem dX4_chooseAll_34 : decode cX4_chooseAll 34 = .ok (.iaload, 1) := by decide +kernel
theorem dX4_chooseAll_35 : decode cX4_chooseAll 35 = .ok (.istore 5, 2) := by decide +kernel
theorem dX4_chooseAll_37 : decode cX4_chooseAll 37 = .ok (.iload 5, 2) := by decide +kernel
theorem dX4_chooseAll_39 : decode cX4_chooseAll 39 = .ok (.ifCond .lt 60, 3) := by decide +kernel
theorem dX4_chooseAll_42 : decode cX4_chooseAll 42 = .ok (.iload 5, 2) := by decide +kernel
theorem dX4_chooseAll_44 : decode cX4_chooseAll 44 = .ok (.bipush 8, 2) := by decide +kernel
theorem dX4_chooseAll_46 : decode cX4_chooseAll 46 = .ok (.if_icmp .ge 53, 3) := by decide +kernel
theorem dX4_chooseAll_49 : decode cX4_chooseAll 49 = .ok (.aload_n 0, 1) := by decide +kernel
theorem dX4_chooseAll_50 : decode cX4_chooseAll 50 = .ok (.getfield 47, 3) := by decide +kernel
theorem dX4_chooseAll_53 : decode cX4_chooseAll 53 = .ok (.iload_n 1, 1) := by decide +kernel
theorem dX4_chooseAll_54 : decode cX4_chooseAll 54 = .ok (.iload 4, 2) := by decide +kernel
theorem dX4_chooseAll_56 : decode cX4_chooseAll 56 = .ok (.invokevirtual 111, 3) := by decide +kernel
theorem dX4_chooseAll_59 : decode cX4_chooseAll 59 = .ok (.ifCond .eq 40, 3) := by decide +kernel
theorem dX4_chooseAll_62 : decode cX4_chooseAll 62 = .ok (.aload_n 0, 1) := by decide +kernel
theorem dX4_chooseAll_63 : decode cX4_chooseAll 63 = .ok (.getfield 18, 3) := by decide +kernel
theorem dX4_chooseAll_66 : decode cX4_chooseAll 66 = .ok (.iload 5, 2) := by decide +kernel
theorem dX4_chooseAll_68 : decode cX4_chooseAll 68 = .ok (.iaload, 1) := by decide +kernel
theorem dX4_chooseAll_69 : decode cX4_chooseAll 69 = .ok (.iconst (-1), 1) := by decide +kernel
theorem dX4_chooseAll_70 : decode cX4_chooseAll 70 = .ok (.if_icmp .eq 20, 3) := by decide +kernel
theorem dX4_chooseAll_73 : decode cX4_chooseAll 73 = .ok (.aload_n 0, 1) := by decide +kernel
theorem dX4_chooseAll_74 : decode cX4_chooseAll 74 = .ok (.iload 4, 2) := by decide +kernel
theorem dX4_chooseAll_76 : decode cX4_chooseAll 76 = .ok (.aload_n 0, 1) := by decide +kernel
theorem dX4_chooseAll_77 : decode cX4_chooseAll 77 = .ok (.getfield 18, 3) := by decide +kernel
theorem dX4_chooseAll_80 : decode cX4_chooseAll 80 = .ok (.iload 5, 2) := by decide +kernel
theorem dX4_chooseAll_82 : decode cX4_chooseAll 82 = .ok (.iaload, 1) := by decide +kernel
theorem dX4_chooseAll_83 : decode cX4_chooseAll 83 = .ok (.iload_n 2, 1) := by decide +kernel
theorem dX4_chooseAll_84 : decode cX4_chooseAll 84 = .ok (.invokevirtual 115, 3) := by decide +kernel
theorem dX4_chooseAll_87 : decode cX4_chooseAll 87 = .ok (.ifCond .eq 12, 3) := by decide +kernel
theorem dX4_chooseAll_90 : decode cX4_chooseAll 90 = .ok (.aload_n 0, 1) := by decide +kernel
theorem dX4_chooseAll_91 : decode cX4_chooseAll 91 = .ok (.getfield 18, 3) := by decide +kernel
theorem dX4_chooseAll_94 : decode cX4_chooseAll 94 = .ok (.iload 5, 2) := by decide +kernel
theorem dX4_chooseAll_96 : decode cX4_chooseAll 96 = .ok (.iload 4, 2) := by decide +kernel
theorem dX4_chooseAll_98 : decode cX4_chooseAll 98 = .ok (.iastore, 1) := by decide +kernel
theorem dX4_chooseAll_99 : decode cX4_chooseAll 99 = .ok (.iload 4, 2) := by decide +kernel
theorem dX4_chooseAll_101 : decode cX4_chooseAll 101 = .ok (.iconst 1, 1) := by decide +kernel
theorem dX4_chooseAll_102 : decode cX4_chooseAll 102 = .ok (.iadd, 1) := by decide +kernel
theorem dX4_chooseAll_103 : decode cX4_chooseAll 103 = .ok (.iload_n 1, 1) := by decide +kernel
theorem dX4_chooseAll_104 : decode cX4_chooseAll 104 = .ok (.ior, 1) := by decide +kernel
theorem dX4_chooseAll_105 : decode cX4_chooseAll 105 = .ok (.istore 4, 2) := by decide +kernel
theorem dX4_chooseAll_107 : decode cX4_chooseAll 107 = .ok (.goto (-88), 3) := by decide +kernel
theorem dX4_chooseAll_110 : decode cX4_chooseAll 110 = .ok (.return_, 1) := by decide +kernel
theorem dX4_wouldLight_0 : decode cX4_wouldLight 0 = .ok (.aload_n 0, 1) := by decide +kernel
theorem dX4_wouldLight_1 : decode cX4_wouldLight 1 = .ok (.getfield 47, 3) := by decide +kernel
theorem dX4_wouldLight_4 : decode cX4_wouldLight 4 = .ok (.iload_n 1, 1) := by decide +kernel
theorem dX4_wouldLight_5 : decode cX4_wouldLight 5 = .ok (.invokevirtual 119, 3) := by decide +kernel
theorem dX4_wouldLight_8 : decode cX4_wouldLight 8 = .ok (.ifCond .eq 21, 3) := by decide +kernel
theorem dX4_wouldLight_11 : decode cX4_wouldLight 11 = .ok (.aload_n 0, 1) := by decide +kernel
theorem dX4_wouldLight_12 : decode cX4_wouldLight 12 = .ok (.getfield 47, 3) := by decide +kernel
theorem dX4_wouldLight_15 : decode cX4_wouldLight 15 = .ok (.iload_n 2, 1) := by decide +kernel
theorem dX4_wouldLight_16 : decode cX4_wouldLight 16 = .ok (.invokevirtual 119, 3) := by decide +kernel
theorem dX4_wouldLight_19 : decode cX4_wouldLight 19 = .ok (.ifCond .eq 10, 3) := by decide +kernel
theorem dX4_wouldLight_22 : decode cX4_wouldLight 22 = .ok (.iload_n 1, 1) := by decide +kernel
theorem dX4_wouldLight_23 : decode cX4_wouldLight 23 = .ok (.iload_n 2, 1) := by decide +kernel
theorem dX4_wouldLight_24 : decode cX4_wouldLight 24 = .ok (.iand, 1) := by decide +kernel
theorem dX4_wouldLight_25 : decode cX4_wouldLight 25 = .ok (.iload_n 1, 1) := by decide +kernel
theorem dX4_wouldLight_26 : decode cX4_wouldLight 26 = .ok (.if_icmp .eq 5, 3) := by decide +kernel
theorem dX4_wouldLight_29 : decode cX4_wouldLight 29 = .ok (.iconst 0, 1) := by decide +kernel
theorem dX4_wouldLight_30 : decode cX4_wouldLight 30 = .ok (.ireturn, 1) := by decide +kernel
theorem dX4_wouldLight_31 : decode cX4_wouldLight 31 = .ok (.aload_n 0, 1) := by decide +kernel
theorem dX4_wouldLight_32 : decode cX4_wouldLight 32 = .ok (.getfield 47, 3) := by decide +kernel
theorem dX4_wouldLight_35 : decode cX4_wouldLight 35 = .ok (.getfield 70, 3) := by decide +kernel
theorem dX4_wouldLight_38 : decode cX4_wouldLight 38 = .ok (.iload_n 2, 1) := by decide +kernel
theorem dX4_wouldLight_39 : decode cX4_wouldLight 39 = .ok (.iaload, 1) := by decide +kernel
theorem dX4_wouldLight_40 : decode cX4_wouldLight 40 = .ok (.istore 4, 2) := by decide +kernel
theorem dX4_wouldLight_42 : decode cX4_wouldLight 42 = .ok (.iload 4, 2) := by decide +kernel
theorem dX4_wouldLight_44 : decode cX4_wouldLight 44 = .ok (.iconst (-1), 1) := by decide +kernel
theorem dX4_wouldLight_45 : decode cX4_wouldLight 45 = .ok (.if_icmp .eq 19, 3) := by decide +kernel
theorem dX4_wouldLight_48 : decode cX4_wouldLight 48 = .ok (.aload_n 0, 1) := by decide +kernel
theorem dX4_wouldLight_49 : decode cX4_wouldLight 49 = .ok (.iload_n 1, 1) := by decide +kernel
theorem dX4_wouldLight_50 : decode cX4_wouldLight 50 = .ok (.iload 4, 2) := by decide +kernel
theorem dX4_wouldLight_52 : decode cX4_wouldLight 52 = .ok (.iload_n 3, 1) := by decide +kernel
theorem dX4_wouldLight_53 : decode cX4_wouldLight 53 = .ok (.invokevirtual 123, 3) := by decide +kernel
theorem dX4_wouldLight_56 : decode cX4_wouldLight 56 = .ok (.iload_n 2, 1) := by decide +kernel
theorem dX4_wouldLight_57 : decode cX4_wouldLight 57 = .ok (.if_icmp .ne 7, 3) := by decide +kernel
theorem dX4_wouldLight_60 : decode cX4_wouldLight 60 = .ok (.iconst 1, 1) := by decide +kernel
theorem dX4_wouldLight_61 : decode cX4_wouldLight 61 = .ok (.goto 4, 3) := by decide +kernel
theorem dX4_wouldLight_64 : decode cX4_wouldLight 64 = .ok (.iconst 0, 1) := by decide +kernel
theorem dX4_wouldLight_65 : decode cX4_wouldLight 65 = .ok (.ireturn, 1) := by decide +kernel
theorem dX4_findFailing_0 : decode cX4_findFailing 0 = .ok (.iconst 0, 1) := by decide +kernel
theorem dX4_findFailing_1 : decode cX4_findFailing 1 = .ok (.istore_n 1, 1) := by decide +kernel
theorem dX4_findFailing_2 : decode cX4_findFailing 2 = .ok (.iconst 0, 1) := by decide +kernel
theorem dX4_findFailing_3 : decode cX4_findFailing 3 = .ok (.istore_n 2, 1) := by decide +kernel
theorem dX4_findFailing_4 : decode cX4_findFailing 4 = .ok (.iload_n 2, 1) := by decide +kernel
theorem dX4_findFailing_5 : decode cX4_findFailing 5 = .ok (.bipush 9, 2) := by decide +kernel
theorem dX4_findFailing_7 : decode cX4_findFailing 7 = .ok (.if_icmp .ge 119, 3) := by decide +kernel
theorem dX4_findFailing_10 : decode cX4_findFailing 10 = .ok (.aload_n 0, 1) := by decide +kernel
theorem dX4_findFailing_11 : decode cX4_findFailing 11 = .ok (.iload_n 1, 1) := by decide +kernel
theorem dX4_findFailing_12 : decode cX4_findFailing 12 = .ok (.iconst 2, 1) := by decide +kernel
theorem dX4_findFailing_13 : decode cX4_findFailing 13 = .ok (.invokevirtual 102, 3) := by decide +kernel
theorem dX4_findFailing_16 : decode cX4_findFailing 16 = .ok (.iconst (-1), 1) := by decide +kernel
theorem dX4_findFailing_17 : decode cX4_findFailing 17 = .ok (.istore_n 3, 1) := by decide +kernel
theorem dX4_findFailing_18 : decode cX4_findFailing 18 = .ok (.iconst 0, 1) := by decide +kernel
theorem dX4_findFailing_19 : decode cX4_findFailing 19 = .ok (.istore 4, 2) := by decide +kernel
theorem dX4_findFailing_21 : decode cX4_findFailing 21 = .ok (.iload 4, 2) := by decide +kernel
theorem dX4_findFailing_23 : decode cX4_findFailing 23 = .ok (.aload_n 0, 1) := by decide +kernel
theorem dX4_findFailing_24 : decode cX4_findFailing 24 = .ok (.getfield 47, 3) := by decide +kernel
theorem dX4_findFailing_27 : decode cX4_findFailing 27 = .ok (.getfield 83, 3) := by decide +kernel
theorem dX4_findFailing_30 : decode cX4_findFailing 30 = .ok (.if_icmp .ge 55, 3) := by decide +kernel
theorem dX4_findFailing_33 : decode cX4_findFailing 33 = .ok (.iload 4, 2) := by decide +kernel
theorem dX4_findFailing_35 : decode cX4_findFailing 35 = .ok (.aload_n 0, 1) := by decide +kernel
theorem dX4_findFailing_36 : decode cX4_findFailing 36 = .ok (.getfield 47, 3) := by decide +kernel
theorem dX4_findFailing_39 : decode cX4_findFailing 39 = .ok (.getfield 70, 3) := by decide +kernel
theorem dX4_findFailing_42 : decode cX4_findFailing 42 = .ok (.iload_n 1, 1) := by decide +kernel
theorem dX4_findFailing_43 : decode cX4_findFailing 43 = .ok (.iaload, 1) := by decide +kernel
theorem dX4_findFailing_44 : decode cX4_findFailing 44 = .ok (.if_icmp .eq 35, 3) := by decide +kernel
theorem dX4_findFailing_47 : decode cX4_findFailing 47 = .ok (.iload_n 3, 1) := by decide +kernel
theorem dX4_findFailing_48 : decode cX4_findFailing 48 = .ok (.iconst (-1), 1) := by decide +kernel
theorem dX4_findFailing_49 : decode cX4_findFailing 49 = .ok (.if_icmp .eq 27, 3) := by decide +kernel
theorem dX4_findFailing_52 : decode cX4_findFailing 52 = .ok (.aload_n 0, 1) := by decide +kernel
theorem dX4_findFailing_53 : decode cX4_findFailing 53 = .ok (.aload_n 0, 1) := by decide +kernel
theorem dX4_findFailing_54 : decode cX4_findFailing 54 = .ok (.getfield 18, 3) := by decide +kernel
theorem dX4_findFailing_57 : decode cX4_findFailing 57 = .ok (.iload 4, 2) := by decide +kernel
theorem dX4_findFailing_59 : decode cX4_findFailing 59 = .ok (.iaload, 1) := by decide +kernel
theorem dX4_findFailing_60 : decode cX4_findFailing 60 = .ok (.invokevirtual 127, 3) := by decide +kernel
theorem dX4_findFailing_63 : decode cX4_findFailing 63 = .ok (.aload_n 0, 1) := by decide +kernel
theorem dX4_findFailing_64 : decode cX4_findFailing 64 = .ok (.aload_n 0, 1) := by decide +kernel
theorem dX4_findFailing_65 : decode cX4_findFailing 65 = .ok (.getfield 18, 3) := by decide +kernel
theorem dX4_findFailing_68 : decode cX4_findFailing 68 = .ok (.iload_n 3, 1) := by decide +kernel
theorem dX4_findFailing_69 : decode cX4_findFailing 69 = .ok (.iaload, 1) := by decide +kernel
theorem dX4_findFailing_70 : decode cX4_findFailing 70 = .ok (.invokevirtual 127, 3) := by decide +kernel
theorem dX4_findFailing_73 : decode cX4_findFailing 73 = .ok (.if_icmp .ge 6, 3) := by decide +kernel
theorem dX4_findFailing_76 : decode cX4_findFailing 76 = .ok (.iload 4, 2) := by decide +kernel
theorem dX4_findFailing_78 : decode cX4_findFailing 78 = .ok (.istore_n 3, 1) := by decide +kernel
theorem dX4_findFailing_79 : decode cX4_findFailing 79 = .ok (.iinc 4 1, 3) := by decide +kernel
theorem dX4_findFailing_82 : decode cX4_findFailing 82 = .ok (.goto (-61), 3) := by decide +kernel
theorem dX4_findFailing_85 : decode cX4_findFailing 85 = .ok (.iload_n 3, 1) := by decide +kernel
theorem dX4_findFailing_86 : decode cX4_findFailing 86 = .ok (.iconst (-1), 1) := by decide +kernel
theorem dX4_findFailing_87 : decode cX4_findFailing 87 = .ok (.if_icmp .ne 5, 3) := by decide +kernel
theorem dX4_findFailing_90 : decode cX4_findFailing 90 = .ok (.iload_n 2, 1) := by decide +kernel
theorem dX4_findFailing_91 : decode cX4_findFailing 91 = .ok (.ireturn, 1) := by decide +kernel
theorem dX4_findFailing_92 : decode cX4_findFailing 92 = .ok (.aload_n 0, 1) := by decide +kernel
theorem dX4_findFailing_93 : decode cX4_findFailing 93 = .ok (.getfield 15, 3) := by decide +kernel
theorem dX4_findFailing_96 : decode cX4_findFailing 96 = .ok (.iload_n 2, 1) := by decide +kernel
theorem dX4_findFailing_97 : decode cX4_findFailing 97 = .ok (.iload_n 3, 1) := by decide +kernel
theorem dX4_findFailing_98 : decode cX4_findFailing 98 = .ok (.iastore, 1) := by decide +kernel
theorem dX4_findFailing_99 : decode cX4_findFailing 99 = .ok (.aload_n 0, 1) := by decide +kernel
theorem dX4_findFailing_100 : decode cX4_findFailing 100 = .ok (.getfield 18, 3) := by decide +kernel
theorem dX4_findFailing_103 : decode cX4_findFailing 103 = .ok (.iload_n 3, 1) := by decide +kernel
theorem dX4_findFailing_104 : decode cX4_findFailing 104 = .ok (.iaload, 1) := by decide +kernel
theorem dX4_findFailing_105 : decode cX4_findFailing 105 = .ok (.iconst (-1), 1) := by decide +kernel
theorem dX4_findFailing_106 : decode cX4_findFailing 106 = .ok (.if_icmp .ne 7, 3) := by decide +kernel
theorem dX4_findFailing_109 : decode cX4_findFailing 109 = .ok (.iload_n 2, 1) := by decide +kernel
theorem dX4_findFailing_110 : decode cX4_findFailing 110 = .ok (.iconst 1, 1) := by decide +kernel
theorem dX4_findFailing_111 : decode cX4_findFailing 111 = .ok (.iadd, 1) := by decide +kernel
theorem dX4_findFailing_112 : decode cX4_findFailing 112 = .ok (.ireturn, 1) := by decide +kernel
theorem dX4_findFailing_113 : decode cX4_findFailing 113 = .ok (.aload_n 0, 1) := by decide +kernel
theorem dX4_findFailing_114 : decode cX4_findFailing 114 = .ok (.getfield 18, 3) := by decide +kernel
theorem dX4_findFailing_117 : decode cX4_findFailing 117 = .ok (.iload_n 3, 1) := by decide +kernel
theorem dX4_findFailing_118 : decode cX4_findFailing 118 = .ok (.iaload, 1) := by decide +kernel
theorem dX4_findFailing_119 : decode cX4_findFailing 119 = .ok (.istore_n 1, 1) := by decide +kernel
theorem dX4_findFailing_120 : decode cX4_findFailing 120 = .ok (.iinc 2 1, 3) := by decide +kernel
theorem dX4_findFailing_123 : decode cX4_findFailing 123 = .ok (.goto (-119), 3) := by decide +kernel
theorem dX4_findFailing_126 : decode cX4_findFailing 126 = .ok (.bipush 9, 2) := by decide +kernel
theorem dX4_findFailing_128 : decode cX4_findFailing 128 = .ok (.ireturn, 1) := by decide +kernel
theorem dX4_findSafe_0 : decode cX4_findSafe 0 = .ok (.aload_n 0, 1) := by decide +kernel
theorem dX4_findSafe_1 : decode cX4_findSafe 1 = .ok (.getfield 47, 3) := by decide +kernel
theorem dX4_findSafe_4 : decode cX4_findSafe 4 = .ok (.invokevirtual 75, 3) := by decide +kernel
theorem dX4_findSafe_7 : decode cX4_findSafe 7 = .ok (.istore_n 1, 1) := by decide +kernel
theorem dX4_findSafe_8 : decode cX4_findSafe 8 = .ok (.bipush 8, 2) := by decide +kernel
theorem dX4_findSafe_10 : decode cX4_findSafe 10 = .ok (.istore_n 2, 1) := by decide +kernel
theorem dX4_findSafe_11 : decode cX4_findSafe 11 = .ok (.iconst 0, 1) := by decide +kernel
theorem dX4_findSafe_12 : decode cX4_findSafe 12 = .ok (.istore_n 3, 1) := by decide +kernel
theorem dX4_findSafe_13 : decode cX4_findSafe 13 = .ok (.iload_n 3, 1) := by decide +kernel
theorem dX4_findSafe_14 : decode cX4_findSafe 14 = .ok (.iload_n 1, 1) := by decide +kernel
theorem dX4_findSafe_15 : decode cX4_findSafe 15 = .ok (.if_icmp .gt 22, 3) := by decide +kernel
theorem dX4_findSafe_18 : decode cX4_findSafe 18 = .ok (.iload_n 2, 1) := by decide +kernel
theorem dX4_findSafe_19 : decode cX4_findSafe 19 = .ok (.aload_n 0, 1) := by decide +kernel
theorem dX4_findSafe_20 : decode cX4_findSafe 20 = .ok (.iload_n 3, 1) := by decide +kernel
theorem dX4_findSafe_21 : decode cX4_findSafe 21 = .ok (.iload_n 1, 1) := by decide +kernel
theorem dX4_findSafe_22 : decode cX4_findSafe 22 = .ok (.invokevirtual 131, 3) := by decide +kernel
theorem dX4_findSafe_25 : decode cX4_findSafe 25 = .ok (.iconst 1, 1) := by decide +kernel
theorem dX4_findSafe_26 : decode cX4_findSafe 26 = .ok (.isub, 1) := by decide +kernel
theorem dX4_findSafe_27 : decode cX4_findSafe 27 = .ok (.invokestatic 135, 3) := by decide +kernel
theorem dX4_findSafe_30 : decode cX4_findSafe 30 = .ok (.istore_n 2, 1) := by decide +kernel
theorem dX4_findSafe_31 : decode cX4_findSafe 31 = .ok (.iinc 3 1, 3) := by decide +kernel
theorem dX4_findSafe_34 : decode cX4_findSafe 34 = .ok (.goto (-21), 3) := by decide +kernel
theorem dX4_findSafe_37 : decode cX4_findSafe 37 = .ok (.iload_n 2, 1) := by decide +kernel
theorem dX4_findSafe_38 : decode cX4_findSafe 38 = .ok (.ireturn, 1) := by decide +kernel
theorem dX4_firstDoubt_0 : decode cX4_firstDoubt 0 = .ok (.aload_n 0, 1) := by decide +kernel
theorem dX4_firstDoubt_1 : decode cX4_firstDoubt 1 = .ok (.getfield 40, 3) := by decide +kernel
theorem dX4_firstDoubt_4 : decode cX4_firstDoubt 4 = .ok (.iconst 0, 1) := by decide +kernel
theorem dX4_firstDoubt_5 : decode cX4_firstDoubt 5 = .ok (.invokestatic 106, 3) := by decide +kernel
theorem dX4_firstDoubt_8 : decode cX4_firstDoubt 8 = .ok (.iload_n 1, 1) := by decide +kernel
theorem dX4_firstDoubt_9 : decode cX4_firstDoubt 9 = .ok (.istore_n 3, 1) := by decide +kernel
theorem dX4_firstDoubt_10 : decode cX4_firstDoubt 10 = .ok (.iload_n 3, 1) := by decide +kernel
theorem dX4_firstDoubt_11 : decode cX4_firstDoubt 11 = .ok (.iload_n 2, 1) := by decide +kernel
theorem dX4_firstDoubt_12 : decode cX4_firstDoubt 12 = .ok (.if_icmp .gt 34, 3) := by decide +kernel
theorem dX4_firstDoubt_15 : decode cX4_firstDoubt 15 = .ok (.aload_n 0, 1) := by decide +kernel
theorem dX4_firstDoubt_16 : decode cX4_firstDoubt 16 = .ok (.getfield 40, 3) := by decide +kernel
theorem dX4_firstDoubt_19 : decode cX4_firstDoubt 19 = .ok (.iload_n 3, 1) := by decide +kernel
theorem dX4_firstDoubt_20 : decode cX4_firstDoubt 20 = .ok (.iload_n 1, 1) := by decide +kernel
theorem dX4_firstDoubt_21 : decode cX4_firstDoubt 21 = .ok (.ixor, 1) := by decide +kernel
theorem dX4_firstDoubt_22 : decode cX4_firstDoubt 22 = .ok (.invokestatic 138, 3) := by decide +kernel
theorem dX4_firstDoubt_25 : decode cX4_firstDoubt 25 = .ok (.dup2, 1) := by decide +kernel
theorem dX4_firstDoubt_26 : decode cX4_firstDoubt 26 = .ok (.iaload, 1) := by decide +kernel
theorem dX4_firstDoubt_27 : decode cX4_firstDoubt 27 = .ok (.aload_n 0, 1) := by decide +kernel
theorem dX4_firstDoubt_28 : decode cX4_firstDoubt 28 = .ok (.getfield 47, 3) := by decide +kernel
theorem dX4_firstDoubt_31 : decode cX4_firstDoubt 31 = .ok (.iload_n 3, 1) := by decide +kernel
theorem dX4_firstDoubt_32 : decode cX4_firstDoubt 32 = .ok (.invokevirtual 143, 3) := by decide +kernel
theorem dX4_firstDoubt_35 : decode cX4_firstDoubt 35 = .ok (.ior, 1) := by decide +kernel
theorem dX4_firstDoubt_36 : decode cX4_firstDoubt 36 = .ok (.iastore, 1) := by decide +kernel
theorem dX4_firstDoubt_37 : decode cX4_firstDoubt 37 = .ok (.iload_n 3, 1) := by decide +kernel
theorem dX4_firstDoubt_38 : decode cX4_firstDoubt 38 = .ok (.iconst 1, 1) := by decide +kernel
theorem dX4_firstDoubt_39 : decode cX4_firstDoubt 39 = .ok (.iadd, 1) := by decide +kernel
theorem dX4_firstDoubt_40 : decode cX4_firstDoubt 40 = .ok (.iload_n 1, 1) := by decide +kernel
theorem dX4_firstDoubt_41 : decode cX4_firstDoubt 41 = .ok (.ior, 1) := by decide +kernel
theorem dX4_firstDoubt_42 : decode cX4_firstDoubt 42 = .ok (.istore_n 3, 1) := by decide +kernel
theorem dX4_firstDoubt_43 : decode cX4_firstDoubt 43 = .ok (.goto (-33), 3) := by decide +kernel
theorem dX4_firstDoubt_46 : decode cX4_firstDoubt 46 = .ok (.iconst 0, 1) := by decide +kernel
theorem dX4_firstDoubt_47 : decode cX4_firstDoubt 47 = .ok (.istore_n 3, 1) := by decide +kernel
theorem dX4_firstDoubt_48 : decode cX4_firstDoubt 48 = .ok (.iconst 0, 1) := by decide +kernel
theorem dX4_firstDoubt_49 : decode cX4_firstDoubt 49 = .ok (.istore 4, 2) := by decide +kernel
theorem dX4_firstDoubt_51 : decode cX4_firstDoubt 51 = .ok (.iload 4, 2) := by decide +kernel
theorem dX4_firstDoubt_53 : decode cX4_firstDoubt 53 = .ok (.bipush 8, 2) := by decide +kernel
theorem dX4_firstDoubt_55 : decode cX4_firstDoubt 55 = .ok (.if_icmp .gt 30, 3) := by decide +kernel
theorem dX4_firstDoubt_58 : decode cX4_firstDoubt 58 = .ok (.iload_n 3, 1) := by decide +kernel
theorem dX4_firstDoubt_59 : decode cX4_firstDoubt 59 = .ok (.aload_n 0, 1) := by decide +kernel
theorem dX4_firstDoubt_60 : decode cX4_firstDoubt 60 = .ok (.getfield 40, 3) := by decide +kernel
theorem dX4_firstDoubt_63 : decode cX4_firstDoubt 63 = .ok (.iload 4, 2) := by decide +kernel
theorem dX4_firstDoubt_65 : decode cX4_firstDoubt 65 = .ok (.iaload, 1) := by decide +kernel
theorem dX4_firstDoubt_66 : decode cX4_firstDoubt 66 = .ok (.ior, 1) := by decide +kernel
theorem dX4_firstDoubt_67 : decode cX4_firstDoubt 67 = .ok (.istore_n 3, 1) := by decide +kernel
theorem dX4_firstDoubt_68 : decode cX4_firstDoubt 68 = .ok (.iload_n 3, 1) := by decide +kernel
theorem dX4_firstDoubt_69 : decode cX4_firstDoubt 69 = .ok (.invokestatic 138, 3) := by decide +kernel
theorem dX4_firstDoubt_72 : decode cX4_firstDoubt 72 = .ok (.iconst 1, 1) := by decide +kernel
theorem dX4_firstDoubt_73 : decode cX4_firstDoubt 73 = .ok (.if_icmp .le 6, 3) := by decide +kernel
theorem dX4_firstDoubt_76 : decode cX4_firstDoubt 76 = .ok (.iload 4, 2) := by decide +kernel
theorem dX4_firstDoubt_78 : decode cX4_firstDoubt 78 = .ok (.ireturn, 1) := by decide +kernel
theorem dX4_firstDoubt_79 : decode cX4_firstDoubt 79 = .ok (.iinc 4 1, 3) := by decide +kernel
theorem dX4_firstDoubt_82 : decode cX4_firstDoubt 82 = .ok (.goto (-31), 3) := by decide +kernel
theorem dX4_firstDoubt_85 : decode cX4_firstDoubt 85 = .ok (.bipush 9, 2) := by decide +kernel
theorem dX4_firstDoubt_87 : decode cX4_firstDoubt 87 = .ok (.ireturn, 1) := by decide +kernel
theorem dX4_lastsBy_0 : decode cX4_lastsBy 0 = .ok (.iload_n 1, 1) := by decide +kernel
theorem dX4_lastsBy_1 : decode cX4_lastsBy 1 = .ok (.iconst (-1), 1) := by decide +kernel
theorem dX4_lastsBy_2 : decode cX4_lastsBy 2 = .ok (.if_icmp .ne 7, 3) := by decide +kernel
theorem dX4_lastsBy_5 : decode cX4_lastsBy 5 = .ok (.iconst (-1), 1) := by decide +kernel
theorem dX4_lastsBy_6 : decode cX4_lastsBy 6 = .ok (.goto 12, 3) := by decide +kernel
theorem dX4_lastsBy_9 : decode cX4_lastsBy 9 = .ok (.aload_n 0, 1) := by decide +kernel
theorem dX4_lastsBy_10 : decode cX4_lastsBy 10 = .ok (.getfield 26, 3) := by decide +kernel
theorem dX4_lastsBy_13 : decode cX4_lastsBy 13 = .ok (.getfield 67, 3) := by decide +kernel
theorem dX4_lastsBy_16 : decode cX4_lastsBy 16 = .ok (.iload_n 1, 1) := by decide +kernel
theorem dX4_lastsBy_17 : decode cX4_lastsBy 17 = .ok (.iaload, 1) := by decide +kernel
theorem dX4_lastsBy_18 : decode cX4_lastsBy 18 = .ok (.ireturn, 1) := by decide +kernel
theorem dX4_isBetter_0 : decode cX4_isBetter 0 = .ok (.iload_n 3, 1) := by decide +kernel
theorem dX4_isBetter_1 : decode cX4_isBetter 1 = .ok (.tableswitch 129 1 3 #[27, 48, 107], 27) := by decide +kernel
theorem dX4_isBetter_28 : decode cX4_isBetter 28 = .ok (.aload_n 0, 1) := by decide +kernel
theorem dX4_isBetter_29 : decode cX4_isBetter 29 = .ok (.getfield 9, 3) := by decide +kernel
theorem dX4_isBetter_32 : decode cX4_isBetter 32 = .ok (.iload_n 1, 1) := by decide +kernel
theorem dX4_isBetter_33 : decode cX4_isBetter 33 = .ok (.iaload, 1) := by decide +kernel
theorem dX4_isBetter_34 : decode cX4_isBetter 34 = .ok (.aload_n 0, 1) := by decide +kernel
theorem dX4_isBetter_35 : decode cX4_isBetter 35 = .ok (.getfield 9, 3) := by decide +kernel
theorem dX4_isBetter_38 : decode cX4_isBetter 38 = .ok (.iload_n 2, 1) := by decide +kernel
theorem dX4_isBetter_39 : decode cX4_isBetter 39 = .ok (.iaload, 1) := by decide +kernel
theorem dX4_isBetter_40 : decode cX4_isBetter 40 = .ok (.if_icmp .ge 7, 3) := by decide +kernel
theorem dX4_isBetter_43 : decode cX4_isBetter 43 = .ok (.iconst 1, 1) := by decide +kernel
theorem dX4_isBetter_44 : decode cX4_isBetter 44 = .ok (.goto 4, 3) := by decide +kernel
theorem dX4_isBetter_47 : decode cX4_isBetter 47 = .ok (.iconst 0, 1) := by decide +kernel
theorem dX4_isBetter_48 : decode cX4_isBetter 48 = .ok (.ireturn, 1) := by decide +kernel
theorem dX4_isBetter_49 : decode cX4_isBetter 49 = .ok (.aload_n 0, 1) := by decide +kernel
theorem dX4_isBetter_50 : decode cX4_isBetter 50 = .ok (.getfield 26, 3) := by decide +kernel
theorem dX4_isBetter_53 : decode cX4_isBetter 53 = .ok (.getfield 67, 3) := by decide +kernel
theorem dX4_isBetter_56 : decode cX4_isBetter 56 = .ok (.iload_n 1, 1) := by decide +kernel
theorem dX4_isBetter_57 : decode cX4_isBetter 57 = .ok (.iaload, 1) := by decide +kernel
theorem dX4_isBetter_58 : decode cX4_isBetter 58 = .ok (.aload_n 0, 1) := by decide +kernel
theorem dX4_isBetter_59 : decode cX4_isBetter 59 = .ok (.getfield 26, 3) := by decide +kernel
theorem dX4_isBetter_62 : decode cX4_isBetter 62 = .ok (.getfield 67, 3) := by decide +kernel
theorem dX4_isBetter_65 : decode cX4_isBetter 65 = .ok (.iload_n 2, 1) := by decide +kernel
theorem dX4_isBetter_66 : decode cX4_isBetter 66 = .ok (.iaload, 1) := by decide +kernel
theorem dX4_isBetter_67 : decode cX4_isBetter 67 = .ok (.if_icmp .gt 35, 3) := by decide +kernel
theorem dX4_isBetter_70 : decode cX4_isBetter 70 = .ok (.aload_n 0, 1) := by decide +kernel
theorem dX4_isBetter_71 : decode cX4_isBetter 71 = .ok (.getfield 26, 3) := by decide +kernel
theorem dX4_isBetter_74 : decode cX4_isBetter 74 = .ok (.getfield 67, 3) := by decide +kernel
theorem dX4_isBetter_77 : decode cX4_isBetter 77 = .ok (.iload_n 1, 1) := by decide +kernel
theorem dX4_isBetter_78 : decode cX4_isBetter 78 = .ok (.iaload, 1) := by decide +kernel
theorem dX4_isBetter_79 : decode cX4_isBetter 79 = .ok (.aload_n 0, 1) := by decide +kernel
theorem dX4_isBetter_80 : decode cX4_isBetter 80 = .ok (.getfield 26, 3) := by decide +kernel
theorem dX4_isBetter_83 : decode cX4_isBetter 83 = .ok (.getfield 67, 3) := by decide +kernel
theorem dX4_isBetter_86 : decode cX4_isBetter 86 = .ok (.iload_n 2, 1) := by decide +kernel
theorem dX4_isBetter_87 : decode cX4_isBetter 87 = .ok (.iaload, 1) := by decide +kernel
theorem dX4_isBetter_88 : decode cX4_isBetter 88 = .ok (.if_icmp .ne 18, 3) := by decide +kernel
theorem dX4_isBetter_91 : decode cX4_isBetter 91 = .ok (.iload_n 1, 1) := by decide +kernel
theorem dX4_isBetter_92 : decode cX4_isBetter 92 = .ok (.invokestatic 138, 3) := by decide +kernel
theorem dX4_isBetter_95 : decode cX4_isBetter 95 = .ok (.iload_n 2, 1) := by decide +kernel
theorem dX4_isBetter_96 : decode cX4_isBetter 96 = .ok (.invokestatic 138, 3) := by decide +kernel
theorem dX4_isBetter_99 : decode cX4_isBetter 99 = .ok (.if_icmp .ge 7, 3) := by decide +kernel
theorem dX4_isBetter_102 : decode cX4_isBetter 102 = .ok (.iconst 1, 1) := by decide +kernel
theorem dX4_isBetter_103 : decode cX4_isBetter 103 = .ok (.goto 4, 3) := by decide +kernel
theorem dX4_isBetter_106 : decode cX4_isBetter 106 = .ok (.iconst 0, 1) := by decide +kernel
theorem dX4_isBetter_107 : decode cX4_isBetter 107 = .ok (.ireturn, 1) := by decide +kernel
theorem dX4_isBetter_108 : decode cX4_isBetter 108 = .ok (.aload_n 0, 1) := by decide +kernel
theorem dX4_isBetter_109 : decode cX4_isBetter 109 = .ok (.getfield 33, 3) := by decide +kernel
theorem dX4_isBetter_112 : decode cX4_isBetter 112 = .ok (.iload_n 1, 1) := by decide +kernel
theorem dX4_isBetter_113 : decode cX4_isBetter 113 = .ok (.laload, 1) := by decide +kernel
theorem dX4_isBetter_114 : decode cX4_isBetter 114 = .ok (.aload_n 0, 1) := by decide +kernel
theorem dX4_isBetter_115 : decode cX4_isBetter 115 = .ok (.getfield 33, 3) := by decide +kernel
theorem dX4_isBetter_118 : decode cX4_isBetter 118 = .ok (.iload_n 2, 1) := by decide +kernel
theorem dX4_isBetter_119 : decode cX4_isBetter 119 = .ok (.laload, 1) := by decide +kernel
theorem dX4_isBetter_120 : decode cX4_isBetter 120 = .ok (.lcmp, 1) := by decide +kernel
theorem dX4_isBetter_121 : decode cX4_isBetter 121 = .ok (.ifCond .le 7, 3) := by decide +kernel
theorem dX4_isBetter_124 : decode cX4_isBetter 124 = .ok (.iconst 1, 1) := by decide +kernel
theorem dX4_isBetter_125 : decode cX4_isBetter 125 = .ok (.goto 4, 3) := by decide +kernel
theorem dX4_isBetter_128 : decode cX4_isBetter 128 = .ok (.iconst 0, 1) := by decide +kernel
theorem dX4_isBetter_129 : decode cX4_isBetter 129 = .ok (.ireturn, 1) := by decide +kernel
theorem dX4_isBetter_130 : decode cX4_isBetter 130 = .ok (.iload_n 1, 1) := by decide +kernel
theorem dX4_isBetter_131 : decode cX4_isBetter 131 = .ok (.invokestatic 138, 3) := by decide +kernel
theorem dX4_isBetter_134 : decode cX4_isBetter 134 = .ok (.iload_n 2, 1) := by decide +kernel
theorem dX4_isBetter_135 : decode cX4_isBetter 135 = .ok (.invokestatic 138, 3) := by decide +kernel
theorem dX4_isBetter_138 : decode cX4_isBetter 138 = .ok (.if_icmp .ge 7, 3) := by decide +kernel
theorem dX4_isBetter_141 : decode cX4_isBetter 141 = .ok (.iconst 1, 1) := by decide +kernel
theorem dX4_isBetter_142 : decode cX4_isBetter 142 = .ok (.goto 4, 3) := by decide +kernel
theorem dX4_isBetter_145 : decode cX4_isBetter 145 = .ok (.iconst 0, 1) := by decide +kernel
theorem dX4_isBetter_146 : decode cX4_isBetter 146 = .ok (.ireturn, 1) := by decide +kernel
theorem dX4_prepare_0 : decode cX4_prepare 0 = .ok (.iload_n 1, 1) := by decide +kernel
theorem dX4_prepare_1 : decode cX4_prepare 1 = .ok (.tableswitch 48 1 3 #[27, 34, 41], 27) := by decide +kernel
theorem dX4_prepare_28 : decode cX4_prepare 28 = .ok (.aload_n 0, 1) := by decide +kernel
theorem dX4_prepare_29 : decode cX4_prepare 29 = .ok (.invokevirtual 61, 3) := by decide +kernel
theorem dX4_prepare_32 : decode cX4_prepare 32 = .ok (.goto 17, 3) := by decide +kernel
theorem dX4_prepare_35 : decode cX4_prepare 35 = .ok (.aload_n 0, 1) := by decide +kernel
theorem dX4_prepare_36 : decode cX4_prepare 36 = .ok (.invokevirtual 64, 3) := by decide +kernel
theorem dX4_prepare_39 : decode cX4_prepare 39 = .ok (.goto 10, 3) := by decide +kernel
theorem dX4_prepare_42 : decode cX4_prepare 42 = .ok (.aload_n 0, 1) := by decide +kernel
theorem dX4_prepare_43 : decode cX4_prepare 43 = .ok (.invokevirtual 90, 3) := by decide +kernel
theorem dX4_prepare_46 : decode cX4_prepare 46 = .ok (.goto 3, 3) := by decide +kernel
theorem dX4_prepare_49 : decode cX4_prepare 49 = .ok (.return_, 1) := by decide +kernel
theorem dX4_fillOil_0 : decode cX4_fillOil 0 = .ok (.aload_n 0, 1) := by decide +kernel
theorem dX4_fillOil_1 : decode cX4_fillOil 1 = .ok (.getfield 51, 3) := by decide +kernel
theorem dX4_fillOil_4 : decode cX4_fillOil 4 = .ok (.ifCond .eq 4, 3) := by decide +kernel
theorem dX4_fillOil_7 : decode cX4_fillOil 7 = .ok (.return_, 1) := by decide +kernel
theorem dX4_fillOil_8 : decode cX4_fillOil 8 = .ok (.aload_n 0, 1) := by decide +kernel
theorem dX4_fillOil_9 : decode cX4_fillOil 9 = .ok (.iconst 1, 1) := by decide +kernel
theorem dX4_fillOil_10 : decode cX4_fillOil 10 = .ok (.putfield 51, 3) := by decide +kernel
theorem dX4_fillOil_13 : decode cX4_fillOil 13 = .ok (.aload_n 0, 1) := by decide +kernel
theorem dX4_fillOil_14 : decode cX4_fillOil 14 = .ok (.getfield 9, 3) := by decide +kernel
theorem dX4_fillOil_17 : decode cX4_fillOil 17 = .ok (.iconst 0, 1) := by decide +kernel
theorem dX4_fillOil_18 : decode cX4_fillOil 18 = .ok (.iconst 0, 1) := by decide +kernel
theorem dX4_fillOil_19 : decode cX4_fillOil 19 = .ok (.iastore, 1) := by decide +kernel
theorem dX4_fillOil_20 : decode cX4_fillOil 20 = .ok (.iconst 0, 1) := by decide +kernel
theorem dX4_fillOil_21 : decode cX4_fillOil 21 = .ok (.istore_n 1, 1) := by decide +kernel
theorem dX4_fillOil_22 : decode cX4_fillOil 22 = .ok (.iload_n 1, 1) := by decide +kernel
theorem dX4_fillOil_23 : decode cX4_fillOil 23 = .ok (.aload_n 0, 1) := by decide +kernel
theorem dX4_fillOil_24 : decode cX4_fillOil 24 = .ok (.getfield 47, 3) := by decide +kernel
theorem dX4_fillOil_27 : decode cX4_fillOil 27 = .ok (.getfield 146, 3) := by decide +kernel
theorem dX4_fillOil_30 : decode cX4_fillOil 30 = .ok (.if_icmp .ge 50, 3) := by decide +kernel
theorem dX4_fillOil_33 : decode cX4_fillOil 33 = .ok (.iconst 1, 1) := by decide +kernel
theorem dX4_fillOil_34 : decode cX4_fillOil 34 = .ok (.iload_n 1, 1) := by decide +kernel
theorem dX4_fillOil_35 : decode cX4_fillOil 35 = .ok (.ishl, 1) := by decide +kernel
theorem dX4_fillOil_36 : decode cX4_fillOil 36 = .ok (.istore_n 2, 1) := by decide +kernel
theorem dX4_fillOil_37 : decode cX4_fillOil 37 = .ok (.iconst 0, 1) := by decide +kernel
theorem dX4_fillOil_38 : decode cX4_fillOil 38 = .ok (.istore_n 3, 1) := by decide +kernel
theorem dX4_fillOil_39 : decode cX4_fillOil 39 = .ok (.iload_n 3, 1) := by decide +kernel
theorem dX4_fillOil_40 : decode cX4_fillOil 40 = .ok (.iload_n 2, 1) := by decide +kernel
theorem dX4_fillOil_41 : decode cX4_fillOil 41 = .ok (.if_icmp .ge 33, 3) := by decide +kernel
theorem dX4_fillOil_44 : decode cX4_fillOil 44 = .ok (.aload_n 0, 1) := by decide +kernel
theorem dX4_fillOil_45 : decode cX4_fillOil 45 = .ok (.getfield 9, 3) := by decide +kernel
theorem dX4_fillOil_48 : decode cX4_fillOil 48 = .ok (.iload_n 2, 1) := by decide +kernel
theorem dX4_fillOil_49 : decode cX4_fillOil 49 = .ok (.iload_n 3, 1) := by decide +kernel
theorem dX4_fillOil_50 : decode cX4_fillOil 50 = .ok (.ior, 1) := by decide +kernel
theorem dX4_fillOil_51 : decode cX4_fillOil 51 = .ok (.aload_n 0, 1) := by decide +kernel
theorem dX4_fillOil_52 : decode cX4_fillOil 52 = .ok (.getfield 9, 3) := by decide +kernel
theorem dX4_fillOil_55 : decode cX4_fillOil 55 = .ok (.iload_n 3, 1) := by decide +kernel
theorem dX4_fillOil_56 : decode cX4_fillOil 56 = .ok (.iaload, 1) := by decide +kernel
theorem dX4_fillOil_57 : decode cX4_fillOil 57 = .ok (.aload_n 0, 1) := by decide +kernel
theorem dX4_fillOil_58 : decode cX4_fillOil 58 = .ok (.getfield 47, 3) := by decide +kernel
theorem dX4_fillOil_61 : decode cX4_fillOil 61 = .ok (.getfield 149, 3) := by decide +kernel
theorem dX4_fillOil_64 : decode cX4_fillOil 64 = .ok (.iload_n 1, 1) := by decide +kernel
theorem dX4_fillOil_65 : decode cX4_fillOil 65 = .ok (.iaload, 1) := by decide +kernel
theorem dX4_fillOil_66 : decode cX4_fillOil 66 = .ok (.iadd, 1) := by decide +kernel
theorem dX4_fillOil_67 : decode cX4_fillOil 67 = .ok (.iastore, 1) := by decide +kernel
theorem dX4_fillOil_68 : decode cX4_fillOil 68 = .ok (.iinc 3 1, 3) := by decide +kernel
theorem dX4_fillOil_71 : decode cX4_fillOil 71 = .ok (.goto (-32), 3) := by decide +kernel
theorem dX4_fillOil_74 : decode cX4_fillOil 74 = .ok (.iinc 1 1, 3) := by decide +kernel
theorem dX4_fillOil_77 : decode cX4_fillOil 77 = .ok (.goto (-55), 3) := by decide +kernel
theorem dX4_fillOil_80 : decode cX4_fillOil 80 = .ok (.return_, 1) := by decide +kernel
theorem dX4_fillLasting_0 : decode cX4_fillLasting 0 = .ok (.aload_n 0, 1) := by decide +kernel
theorem dX4_fillLasting_1 : decode cX4_fillLasting 1 = .ok (.getfield 55, 3) := by decide +kernel
theorem dX4_fillLasting_4 : decode cX4_fillLasting 4 = .ok (.ifCond .ne 43, 3) := by decide +kernel
theorem dX4_fillLasting_7 : decode cX4_fillLasting 7 = .ok (.aload_n 0, 1) := by decide +kernel
theorem dX4_fillLasting_8 : decode cX4_fillLasting 8 = .ok (.iconst 1, 1) := by decide +kernel
theorem dX4_fillLasting_9 : decode cX4_fillLasting 9 = .ok (.putfield 55, 3) := by decide +kernel
theorem dX4_fillLasting_12 : decode cX4_fillLasting 12 = .ok (.aload_n 0, 1) := by decide +kernel
theorem dX4_fillLasting_13 : decode cX4_fillLasting 13 = .ok (.getfield 26, 3) := by decide +kernel
theorem dX4_fillLasting_16 : decode cX4_fillLasting 16 = .ok (.aload_n 0, 1) := by decide +kernel
theorem dX4_fillLasting_17 : decode cX4_fillLasting 17 = .ok (.getfield 47, 3) := by decide +kernel
theorem dX4_fillLasting_20 : decode cX4_fillLasting 20 = .ok (.getfield 70, 3) := by decide +kernel
theorem dX4_fillLasting_23 : decode cX4_fillLasting 23 = .ok (.aload_n 0, 1) := by decide +kernel
theorem dX4_fillLasting_24 : decode cX4_fillLasting 24 = .ok (.getfield 47, 3) := by decide +kernel
theorem dX4_fillLasting_27 : decode cX4_fillLasting 27 = .ok (.invokevirtual 75, 3) := by decide +kernel
theorem dX4_fillLasting_30 : decode cX4_fillLasting 30 = .ok (.aload_n 0, 1) := by decide +kernel
theorem dX4_fillLasting_31 : decode cX4_fillLasting 31 = .ok (.getfield 47, 3) := by decide +kernel
theorem dX4_fillLasting_34 : decode cX4_fillLasting 34 = .ok (.getfield 79, 3) := by decide +kernel
theorem dX4_fillLasting_37 : decode cX4_fillLasting 37 = .ok (.aload_n 0, 1) := by decide +kernel
theorem dX4_fillLasting_38 : decode cX4_fillLasting 38 = .ok (.getfield 47, 3) := by decide +kernel
theorem dX4_fillLasting_41 : decode cX4_fillLasting 41 = .ok (.getfield 83, 3) := by decide +kernel
theorem dX4_fillLasting_44 : decode cX4_fillLasting 44 = .ok (.invokevirtual 86, 3) := by decide +kernel
theorem dX4_fillLasting_47 : decode cX4_fillLasting 47 = .ok (.return_, 1) := by decide +kernel
theorem dX4_fillMean_0 : decode cX4_fillMean 0 = .ok (.aload_n 0, 1) := by decide +kernel
theorem dX4_fillMean_1 : decode cX4_fillMean 1 = .ok (.getfield 58, 3) := by decide +kernel
theorem dX4_fillMean_4 : decode cX4_fillMean 4 = .ok (.ifCond .eq 4, 3) := by decide +kernel
theorem dX4_fillMean_7 : decode cX4_fillMean 7 = .ok (.return_, 1) := by decide +kernel
theorem dX4_fillMean_8 : decode cX4_fillMean 8 = .ok (.aload_n 0, 1) := by decide +kernel
theorem dX4_fillMean_9 : decode cX4_fillMean 9 = .ok (.iconst 1, 1) := by decide +kernel
theorem dX4_fillMean_10 : decode cX4_fillMean 10 = .ok (.putfield 58, 3) := by decide +kernel
theorem dX4_fillMean_13 : decode cX4_fillMean 13 = .ok (.aload_n 0, 1) := by decide +kernel
theorem dX4_fillMean_14 : decode cX4_fillMean 14 = .ok (.lconst 1, 1) := by decide +kernel
theorem dX4_fillMean_15 : decode cX4_fillMean 15 = .ok (.putfield 43, 3) := by decide +kernel
theorem dX4_fillMean_18 : decode cX4_fillMean 18 = .ok (.iconst 0, 1) := by decide +kernel
theorem dX4_fillMean_19 : decode cX4_fillMean 19 = .ok (.istore_n 1, 1) := by decide +kernel
theorem dX4_fillMean_20 : decode cX4_fillMean 20 = .ok (.iload_n 1, 1) := by decide +kernel
theorem dX4_fillMean_21 : decode cX4_fillMean 21 = .ok (.bipush 9, 2) := by decide +kernel
theorem dX4_fillMean_23 : decode cX4_fillMean 23 = .ok (.if_icmp .ge 28, 3) := by decide +kernel
theorem dX4_fillMean_26 : decode cX4_fillMean 26 = .ok (.aload_n 0, 1) := by decide +kernel
theorem dX4_fillMean_27 : decode cX4_fillMean 27 = .ok (.dup, 1) := by decide +kernel
theorem dX4_fillMean_28 : decode cX4_fillMean 28 = .ok (.getfield 43, 3) := by decide +kernel
theorem dX4_fillMean_31 : decode cX4_fillMean 31 = .ok (.aload_n 0, 1) := by decide +kernel
theorem dX4_fillMean_32 : decode cX4_fillMean 32 = .ok (.getfield 47, 3) := by decide +kernel
theorem dX4_fillMean_35 : decode cX4_fillMean 35 = .ok (.getfield 83, 3) := by decide +kernel
theorem dX4_fillMean_38 : decode cX4_fillMean 38 = .ok (.iconst 1, 1) := by decide +kernel
theorem dX4_fillMean_39 : decode cX4_fillMean 39 = .ok (.isub, 1) := by decide +kernel
theorem dX4_fillMean_40 : decode cX4_fillMean 40 = .ok (.i2l, 1) := by decide +kernel
theorem dX4_fillMean_41 : decode cX4_fillMean 41 = .ok (.lmul, 1) := by decide +kernel
theorem dX4_fillMean_42 : decode cX4_fillMean 42 = .ok (.putfield 43, 3) := by decide +kernel
theorem dX4_fillMean_45 : decode cX4_fillMean 45 = .ok (.iinc 1 1, 3) := by decide +kernel
theorem dX4_fillMean_48 : decode cX4_fillMean 48 = .ok (.goto (-28), 3) := by decide +kernel
theorem dX4_fillMean_51 : decode cX4_fillMean 51 = .ok (.aload_n 0, 1) := by decide +kernel
theorem dX4_fillMean_52 : decode cX4_fillMean 52 = .ok (.getfield 47, 3) := by decide +kernel
theorem dX4_fillMean_55 : decode cX4_fillMean 55 = .ok (.invokevirtual 75, 3) := by decide +kernel
theorem dX4_fillMean_58 : decode cX4_fillMean 58 = .ok (.istore_n 1, 1) := by decide +kernel
theorem dX4_fillMean_59 : decode cX4_fillMean 59 = .ok (.iload_n 1, 1) := by decide +kernel
theorem dX4_fillMean_60 : decode cX4_fillMean 60 = .ok (.ifCond .lt 20, 3) := by decide +kernel
theorem dX4_fillMean_63 : decode cX4_fillMean 63 = .ok (.aload_n 0, 1) := by decide +kernel
theorem dX4_fillMean_64 : decode cX4_fillMean 64 = .ok (.getfield 33, 3) := by decide +kernel
theorem dX4_fillMean_67 : decode cX4_fillMean 67 = .ok (.iload_n 1, 1) := by decide +kernel
theorem dX4_fillMean_68 : decode cX4_fillMean 68 = .ok (.aload_n 0, 1) := by decide +kernel
theorem dX4_fillMean_69 : decode cX4_fillMean 69 = .ok (.iload_n 1, 1) := by decide +kernel
theorem dX4_fillMean_70 : decode cX4_fillMean 70 = .ok (.invokevirtual 152, 3) := by decide +kernel
theorem dX4_fillMean_73 : decode cX4_fillMean 73 = .ok (.lastore, 1) := by decide +kernel
theorem dX4_fillMean_74 : decode cX4_fillMean 74 = .ok (.iinc 1 (-1), 3) := by decide +kernel
theorem dX4_fillMean_77 : decode cX4_fillMean 77 = .ok (.goto (-18), 3) := by decide +kernel
theorem dX4_fillMean_80 : decode cX4_fillMean 80 = .ok (.return_, 1) := by decide +kernel
theorem dX4_meanOf_0 : decode cX4_meanOf 0 = .ok (.aload_n 0, 1) := by decide +kernel
theorem dX4_meanOf_1 : decode cX4_meanOf 1 = .ok (.iload_n 1, 1) := by decide +kernel
theorem dX4_meanOf_2 : decode cX4_meanOf 2 = .ok (.invokevirtual 156, 3) := by decide +kernel
theorem dX4_meanOf_5 : decode cX4_meanOf 5 = .ok (.aload_n 0, 1) := by decide +kernel
theorem dX4_meanOf_6 : decode cX4_meanOf 6 = .ok (.getfield 47, 3) := by decide +kernel
theorem dX4_meanOf_9 : decode cX4_meanOf 9 = .ok (.getfield 70, 3) := by decide +kernel
theorem dX4_meanOf_12 : decode cX4_meanOf 12 = .ok (.iload_n 1, 1) := by decide +kernel
theorem dX4_meanOf_13 : decode cX4_meanOf 13 = .ok (.iaload, 1) := by decide +kernel
theorem dX4_meanOf_14 : decode cX4_meanOf 14 = .ok (.istore_n 2, 1) := by decide +kernel
theorem dX4_meanOf_15 : decode cX4_meanOf 15 = .ok (.iload_n 2, 1) := by decide +kernel
theorem dX4_meanOf_16 : decode cX4_meanOf 16 = .ok (.iconst (-1), 1) := by decide +kernel
theorem dX4_meanOf_17 : decode cX4_meanOf 17 = .ok (.if_icmp .ne 7, 3) := by decide +kernel
theorem dX4_meanOf_20 : decode cX4_meanOf 20 = .ok (.lconst 0, 1) := by decide +kernel
theorem dX4_meanOf_21 : decode cX4_meanOf 21 = .ok (.goto 7, 3) := by decide +kernel
theorem dX4_meanOf_24 : decode cX4_meanOf 24 = .ok (.aload_n 0, 1) := by decide +kernel
theorem dX4_meanOf_25 : decode cX4_meanOf 25 = .ok (.getfield 43, 3) := by decide +kernel
theorem dX4_meanOf_28 : decode cX4_meanOf 28 = .ok (.lstore_n 3, 1) := by decide +kernel
theorem dX4_meanOf_29 : decode cX4_meanOf 29 = .ok (.iconst 0, 1) := by decide +kernel
theorem dX4_meanOf_30 : decode cX4_meanOf 30 = .ok (.istore 5, 2) := by decide +kernel
theorem dX4_meanOf_32 : decode cX4_meanOf 32 = .ok (.iload 5, 2) := by decide +kernel
theorem dX4_meanOf_34 : decode cX4_meanOf 34 = .ok (.aload_n 0, 1) := by decide +kernel
theorem dX4_meanOf_35 : decode cX4_meanOf 35 = .ok (.getfield 47, 3) := by decide +kernel
theorem dX4_meanOf_38 : decode cX4_meanOf 38 = .ok (.getfield 83, 3) := by decide +kernel
theorem dX4_meanOf_41 : decode cX4_meanOf 41 = .ok (.if_icmp .ge 44, 3) := by decide +kernel
theorem dX4_meanOf_44 : decode cX4_meanOf 44 = .ok (.iload 5, 2) := by decide +kernel
theorem dX4_meanOf_46 : decode cX4_meanOf 46 = .ok (.iload_n 2, 1) := by decide +kernel
theorem dX4_meanOf_47 : decode cX4_meanOf 47 = .ok (.if_icmp .eq 32, 3) := by decide +kernel
theorem dX4_meanOf_50 : decode cX4_meanOf 50 = .ok (.aload_n 0, 1) := by decide +kernel
theorem dX4_meanOf_51 : decode cX4_meanOf 51 = .ok (.getfield 37, 3) := by decide +kernel
theorem dX4_meanOf_54 : decode cX4_meanOf 54 = .ok (.iload 5, 2) := by decide +kernel
theorem dX4_meanOf_56 : decode cX4_meanOf 56 = .ok (.laload, 1) := by decide +kernel
theorem dX4_meanOf_57 : decode cX4_meanOf 57 = .ok (.ldc2_w 159, 3) := by decide +kernel
theorem dX4_meanOf_60 : decode cX4_meanOf 60 = .ok (.lcmp, 1) := by decide +kernel
theorem dX4_meanOf_61 : decode cX4_meanOf 61 = .ok (.ifCond .eq 18, 3) := by decide +kernel
theorem dX4_meanOf_64 : decode cX4_meanOf 64 = .ok (.lload_n 3, 1) := by decide +kernel
theorem dX4_meanOf_65 : decode cX4_meanOf 65 = .ok (.aload_n 0, 1) := by decide +kernel
theorem dX4_meanOf_66 : decode cX4_meanOf 66 = .ok (.getfield 43, 3) := by decide +kernel
theorem dX4_meanOf_69 : decode cX4_meanOf 69 = .ok (.aload_n 0, 1) := by decide +kernel
theorem dX4_meanOf_70 : decode cX4_meanOf 70 = .ok (.getfield 37, 3) := by decide +kernel
theorem dX4_meanOf_73 : decode cX4_meanOf 73 = .ok (.iload 5, 2) := by decide +kernel
theorem dX4_meanOf_75 : decode cX4_meanOf 75 = .ok (.laload, 1) := by decide +kernel
theorem dX4_meanOf_76 : decode cX4_meanOf 76 = .ok (.ladd, 1) := by decide +kernel
theorem dX4_meanOf_77 : decode cX4_meanOf 77 = .ok (.ladd, 1) := by decide +kernel
theorem dX4_meanOf_78 : decode cX4_meanOf 78 = .ok (.lstore_n 3, 1) := by decide +kernel
theorem dX4_meanOf_79 : decode cX4_meanOf 79 = .ok (.iinc 5 1, 3) := by decide +kernel
theorem dX4_meanOf_82 : decode cX4_meanOf 82 = .ok (.goto (-50), 3) := by decide +kernel
theorem dX4_meanOf_85 : decode cX4_meanOf 85 = .ok (.iload_n 2, 1) := by decide +kernel
theorem dX4_meanOf_86 : decode cX4_meanOf 86 = .ok (.iconst (-1), 1) := by decide +kernel
theorem dX4_meanOf_87 : decode cX4_meanOf 87 = .ok (.if_icmp .ne 7, 3) := by decide +kernel
theorem dX4_meanOf_90 : decode cX4_meanOf 90 = .ok (.lload_n 3, 1) := by decide +kernel
theorem dX4_meanOf_91 : decode cX4_meanOf 91 = .ok (.goto 19, 3) := by decide +kernel
theorem dX4_meanOf_94 : decode cX4_meanOf 94 = .ok (.lload_n 3, 1) := by decide +kernel
theorem dX4_meanOf_95 : decode cX4_meanOf 95 = .ok (.iconst 1, 1) := by decide +kernel
theorem dX4_meanOf_96 : decode cX4_meanOf 96 = .ok (.aload_n 0, 1) := by decide +kernel
theorem dX4_meanOf_97 : decode cX4_meanOf 97 = .ok (.getfield 47, 3) := by decide +kernel
theorem dX4_meanOf_100 : decode cX4_meanOf 100 = .ok (.getfield 83, 3) := by decide +kernel
theorem dX4_meanOf_103 : decode cX4_meanOf 103 = .ok (.iconst 1, 1) := by decide +kernel
theorem dX4_meanOf_104 : decode cX4_meanOf 104 = .ok (.isub, 1) := by decide +kernel
theorem dX4_meanOf_105 : decode cX4_meanOf 105 = .ok (.invokestatic 161, 3) := by decide +kernel
theorem dX4_meanOf_108 : decode cX4_meanOf 108 = .ok (.i2l, 1) := by decide +kernel
theorem dX4_meanOf_109 : decode cX4_meanOf 109 = .ok (.ldiv, 1) := by decide +kernel
theorem dX4_meanOf_110 : decode cX4_meanOf 110 = .ok (.lreturn, 1) := by decide +kernel
theorem dX4_fillRichest_0 : decode cX4_fillRichest 0 = .ok (.aload_n 0, 1) := by decide +kernel
theorem dX4_fillRichest_1 : decode cX4_fillRichest 1 = .ok (.getfield 37, 3) := by decide +kernel
theorem dX4_fillRichest_4 : decode cX4_fillRichest 4 = .ok (.ldc2_w 159, 3) := by decide +kernel
theorem dX4_fillRichest_7 : decode cX4_fillRichest 7 = .ok (.invokestatic 163, 3) := by decide +kernel
theorem dX4_fillRichest_10 : decode cX4_fillRichest 10 = .ok (.aload_n 0, 1) := by decide +kernel
theorem dX4_fillRichest_11 : decode cX4_fillRichest 11 = .ok (.getfield 47, 3) := by decide +kernel
theorem dX4_fillRichest_14 : decode cX4_fillRichest 14 = .ok (.invokevirtual 75, 3) := by decide +kernel
theorem dX4_fillRichest_17 : decode cX4_fillRichest 17 = .ok (.istore_n 2, 1) := by decide +kernel
theorem dX4_fillRichest_18 : decode cX4_fillRichest 18 = .ok (.iload_n 1, 1) := by decide +kernel
theorem dX4_fillRichest_19 : decode cX4_fillRichest 19 = .ok (.iconst 1, 1) := by decide +kernel
theorem dX4_fillRichest_20 : decode cX4_fillRichest 20 = .ok (.iadd, 1) := by decide +kernel
theorem dX4_fillRichest_21 : decode cX4_fillRichest 21 = .ok (.iload_n 1, 1) := by decide +kernel
theorem dX4_fillRichest_22 : decode cX4_fillRichest 22 = .ok (.ior, 1) := by decide +kernel
theorem dX4_fillRichest_23 : decode cX4_fillRichest 23 = .ok (.istore_n 3, 1) := by decide +kernel
theorem dX4_fillRichest_24 : decode cX4_fillRichest 24 = .ok (.iload_n 3, 1) := by decide +kernel
theorem dX4_fillRichest_25 : decode cX4_fillRichest 25 = .ok (.iload_n 2, 1) := by decide +kernel
theorem dX4_fillRichest_26 : decode cX4_fillRichest 26 = .ok (.if_icmp .gt 70, 3) := by decide +kernel
theorem dX4_fillRichest_29 : decode cX4_fillRichest 29 = .ok (.aload_n 0, 1) := by decide +kernel
theorem dX4_fillRichest_30 : decode cX4_fillRichest 30 = .ok (.getfield 47, 3) := by decide +kernel
theorem dX4_fillRichest_33 : decode cX4_fillRichest 33 = .ok (.getfield 70, 3) := by decide +kernel
theorem dX4_fillRichest_36 : decode cX4_fillRichest 36 = .ok (.iload_n 3, 1) := by decide +kernel
theorem dX4_fillRichest_37 : decode cX4_fillRichest 37 = .ok (.iaload, 1) := by decide +kernel
theorem dX4_fillRichest_38 : decode cX4_fillRichest 38 = .ok (.istore 4, 2) := by decide +kernel
theorem dX4_fillRichest_40 : decode cX4_fillRichest 40 = .ok (.iload 4, 2) := by decide +kernel
theorem dX4_fillRichest_42 : decode cX4_fillRichest 42 = .ok (.ifCond .lt 45, 3) := by decide +kernel
theorem dX4_fillRichest_45 : decode cX4_fillRichest 45 = .ok (.iload 4, 2) := by decide +kernel
theorem dX4_fillRichest_47 : decode cX4_fillRichest 47 = .ok (.bipush 8, 2) := by decide +kernel
theorem dX4_fillRichest_49 : decode cX4_fillRichest 49 = .ok (.if_icmp .ge 38, 3) := by decide +kernel
theorem dX4_fillRichest_52 : decode cX4_fillRichest 52 = .ok (.aload_n 0, 1) := by decide +kernel
theorem dX4_fillRichest_53 : decode cX4_fillRichest 53 = .ok (.getfield 47, 3) := by decide +kernel
theorem dX4_fillRichest_56 : decode cX4_fillRichest 56 = .ok (.iload_n 1, 1) := by decide +kernel
theorem dX4_fillRichest_57 : decode cX4_fillRichest 57 = .ok (.iload_n 3, 1) := by decide +kernel
theorem dX4_fillRichest_58 : decode cX4_fillRichest 58 = .ok (.invokevirtual 111, 3) := by decide +kernel
theorem dX4_fillRichest_61 : decode cX4_fillRichest 61 = .ok (.ifCond .eq 26, 3) := by decide +kernel
theorem dX4_fillRichest_64 : decode cX4_fillRichest 64 = .ok (.aload_n 0, 1) := by decide +kernel
theorem dX4_fillRichest_65 : decode cX4_fillRichest 65 = .ok (.getfield 37, 3) := by decide +kernel
theorem dX4_fillRichest_68 : decode cX4_fillRichest 68 = .ok (.iload 4, 2) := by decide +kernel
theorem dX4_fillRichest_70 : decode cX4_fillRichest 70 = .ok (.aload_n 0, 1) := by decide +kernel
theorem dX4_fillRichest_71 : decode cX4_fillRichest 71 = .ok (.getfield 37, 3) := by decide +kernel
theorem dX4_fillRichest_74 : decode cX4_fillRichest 74 = .ok (.iload 4, 2) := by decide +kernel
theorem dX4_fillRichest_76 : decode cX4_fillRichest 76 = .ok (.laload, 1) := by decide +kernel
theorem dX4_fillRichest_77 : decode cX4_fillRichest 77 = .ok (.aload_n 0, 1) := by decide +kernel
theorem dX4_fillRichest_78 : decode cX4_fillRichest 78 = .ok (.getfield 33, 3) := by decide +kernel
theorem dX4_fillRichest_81 : decode cX4_fillRichest 81 = .ok (.iload_n 3, 1) := by decide +kernel
theorem dX4_fillRichest_82 : decode cX4_fillRichest 82 = .ok (.laload, 1) := by decide +kernel
theorem dX4_fillRichest_83 : decode cX4_fillRichest 83 = .ok (.invokestatic 97, 3) := by decide +kernel
theorem dX4_fillRichest_86 : decode cX4_fillRichest 86 = .ok (.lastore, 1) := by decide +kernel
theorem dX4_fillRichest_87 : decode cX4_fillRichest 87 = .ok (.iload_n 3, 1) := by decide +kernel
theorem dX4_fillRichest_88 : decode cX4_fillRichest 88 = .ok (.iconst 1, 1) := by decide +kernel
theorem dX4_fillRichest_89 : decode cX4_fillRichest 89 = .ok (.iadd, 1) := by decide +kernel
theorem dX4_fillRichest_90 : decode cX4_fillRichest 90 = .ok (.iload_n 1, 1) := by decide +kernel
theorem dX4_fillRichest_91 : decode cX4_fillRichest 91 = .ok (.ior, 1) := by decide +kernel
theorem dX4_fillRichest_92 : decode cX4_fillRichest 92 = .ok (.istore_n 3, 1) := by decide +kernel
theorem dX4_fillRichest_93 : decode cX4_fillRichest 93 = .ok (.goto (-69), 3) := by decide +kernel
theorem dX4_fillRichest_96 : decode cX4_fillRichest 96 = .ok (.return_, 1) := by decide +kernel
theorem dX4_commonDivisor_0 : decode cX4_commonDivisor 0 = .ok (.iconst 0, 1) := by decide +kernel
theorem dX4_commonDivisor_1 : decode cX4_commonDivisor 1 = .ok (.istore 4, 2) := by decide +kernel
theorem dX4_commonDivisor_3 : decode cX4_commonDivisor 3 = .ok (.iload 4, 2) := by decide +kernel
theorem dX4_commonDivisor_5 : decode cX4_commonDivisor 5 = .ok (.sipush 200, 3) := by decide +kernel
theorem dX4_commonDivisor_8 : decode cX4_commonDivisor 8 = .ok (.if_icmp .ge 25, 3) := by decide +kernel
theorem dX4_commonDivisor_11 : decode cX4_commonDivisor 11 = .ok (.lload_n 2, 1) := by decide +kernel
theorem dX4_commonDivisor_12 : decode cX4_commonDivisor 12 = .ok (.lconst 0, 1) := by decide +kernel
theorem dX4_commonDivisor_13 : decode cX4_commonDivisor 13 = .ok (.lcmp, 1) := by decide +kernel
theorem dX4_commonDivisor_14 : decode cX4_commonDivisor 14 = .ok (.ifCond .eq 19, 3) := by decide +kernel
theorem dX4_commonDivisor_17 : decode cX4_commonDivisor 17 = .ok (.lload_n 0, 1) := by decide +kernel
theorem dX4_commonDivisor_18 : decode cX4_commonDivisor 18 = .ok (.lload_n 2, 1) := by decide +kernel
theorem dX4_commonDivisor_19 : decode cX4_commonDivisor 19 = .ok (.lrem, 1) := by decide +kernel
theorem dX4_commonDivisor_20 : decode cX4_commonDivisor 20 = .ok (.lstore 5, 2) := by decide +kernel
theorem dX4_commonDivisor_22 : decode cX4_commonDivisor 22 = .ok (.lload_n 2, 1) := by decide +kernel
theorem dX4_commonDivisor_23 : decode cX4_commonDivisor 23 = .ok (.lstore_n 0, 1) := by decide +kernel
theorem dX4_commonDivisor_24 : decode cX4_commonDivisor 24 = .ok (.lload 5, 2) := by decide +kernel
theorem dX4_commonDivisor_26 : decode cX4_commonDivisor 26 = .ok (.lstore_n 2, 1) := by decide +kernel
theorem dX4_commonDivisor_27 : decode cX4_commonDivisor 27 = .ok (.iinc 4 1, 3) := by decide +kernel
theorem dX4_commonDivisor_30 : decode cX4_commonDivisor 30 = .ok (.goto (-27), 3) := by decide +kernel
theorem dX4_commonDivisor_33 : decode cX4_commonDivisor 33 = .ok (.lload_n 0, 1) := by decide +kernel
theorem dX4_commonDivisor_34 : decode cX4_commonDivisor 34 = .ok (.lreturn, 1) := by decide +kernel
theorem dX5_init_0 : decode cX5_init 0 = .ok (.aload_n 0, 1) := by decide +kernel
theorem dX5_init_1 : decode cX5_init 1 = .ok (.invokespecial 3, 3) := by decide +kernel
theorem dX5_init_4 : decode cX5_init 4 = .ok (.aload_n 0, 1) := by decide +kernel
theorem dX5_init_5 : decode cX5_init 5 = .ok (.bipush 8, 2) := by decide +kernel
theorem dX5_init_7 : decode cX5_init 7 = .ok (.newarray .int, 2) := by decide +kernel
theorem dX5_init_9 : decode cX5_init 9 = .ok (.putfield 9, 3) := by decide +kernel
theorem dX5_init_12 : decode cX5_init 12 = .ok (.aload_n 0, 1) := by decide +kernel
theorem dX5_init_13 : decode cX5_init 13 = .ok (.iload_n 1, 1) := by decide +kernel
theorem dX5_init_14 : decode cX5_init 14 = .ok (.newarray .int, 2) := by decide +kernel
theorem dX5_init_16 : decode cX5_init 16 = .ok (.putfield 15, 3) := by decide +kernel
theorem dX5_init_19 : decode cX5_init 19 = .ok (.return_, 1) := by decide +kernel
theorem dX5_fill_0 : decode cX5_fill 0 = .ok (.iload_n 2, 1) := by decide +kernel
theorem dX5_fill_1 : decode cX5_fill 1 = .ok (.aload_n 0, 1) := by decide +kernel
theorem dX5_fill_2 : decode cX5_fill 2 = .ok (.getfield 15, 3) := by decide +kernel
theorem dX5_fill_5 : decode cX5_fill 5 = .ok (.arraylength, 1) := by decide +kernel
theorem dX5_fill_6 : decode cX5_fill 6 = .ok (.iconst 1, 1) := by decide +kernel
theorem dX5_fill_7 : decode cX5_fill 7 = .ok (.isub, 1) := by decide +kernel
theorem dX5_fill_8 : decode cX5_fill 8 = .ok (.invokestatic 18, 3) := by decide +kernel
theorem dX5_fill_11 : decode cX5_fill 11 = .ok (.istore 5, 2) := by decide +kernel
theorem dX5_fill_13 : decode cX5_fill 13 = .ok (.iload 5, 2) := by decide +kernel
theorem dX5_fill_15 : decode cX5_fill 15 = .ok (.istore 6, 2) := by decide +kernel
theorem dX5_fill_17 : decode cX5_fill 17 = .ok (.iload 6, 2) := by decide +kernel
theorem dX5_fill_19 : decode cX5_fill 19 = .ok (.ifCond .lt 80, 3) := by decide +kernel
theorem dX5_fill_22 : decode cX5_fill 22 = .ok (.aload_n 0, 1) := by decide +kernel
theorem dX5_fill_23 : decode cX5_fill 23 = .ok (.aload_n 1, 1) := by decide +kernel
theorem dX5_fill_24 : decode cX5_fill 24 = .ok (.iload 5, 2) := by decide +kernel
theorem dX5_fill_26 : decode cX5_fill 26 = .ok (.iload_n 3, 1) := by decide +kernel
theorem dX5_fill_27 : decode cX5_fill 27 = .ok (.iload 6, 2) := by decide +kernel
theorem dX5_fill_29 : decode cX5_fill 29 = .ok (.invokevirtual 24, 3) := by decide +kernel
theorem dX5_fill_32 : decode cX5_fill 32 = .ok (.bipush 8, 2) := by decide +kernel
theorem dX5_fill_34 : decode cX5_fill 34 = .ok (.istore 7, 2) := by decide +kernel
theorem dX5_fill_36 : decode cX5_fill 36 = .ok (.iconst 0, 1) := by decide +kernel
theorem dX5_fill_37 : decode cX5_fill 37 = .ok (.istore 8, 2) := by decide +kernel
theorem dX5_fill_39 : decode cX5_fill 39 = .ok (.iload 8, 2) := by decide +kernel
theorem dX5_fill_41 : decode cX5_fill 41 = .ok (.iload 4, 2) := by decide +kernel
theorem dX5_fill_43 : decode cX5_fill 43 = .ok (.if_icmp .ge 41, 3) := by decide +kernel
theorem dX5_fill_46 : decode cX5_fill 46 = .ok (.iload 8, 2) := by decide +kernel
theorem dX5_fill_48 : decode cX5_fill 48 = .ok (.bipush 8, 2) := by decide +kernel
theorem dX5_fill_50 : decode cX5_fill 50 = .ok (.if_icmp .ge 34, 3) := by decide +kernel
theorem dX5_fill_53 : decode cX5_fill 53 = .ok (.iload 8, 2) := by decide +kernel
theorem dX5_fill_55 : decode cX5_fill 55 = .ok (.aload_n 1, 1) := by decide +kernel
theorem dX5_fill_56 : decode cX5_fill 56 = .ok (.iload 6, 2) := by decide +kernel
theorem dX5_fill_58 : decode cX5_fill 58 = .ok (.iaload, 1) := by decide +kernel
theorem dX5_fill_59 : decode cX5_fill 59 = .ok (.if_icmp .eq 19, 3) := by decide +kernel
theorem dX5_fill_62 : decode cX5_fill 62 = .ok (.iload 7, 2) := by decide +kernel
theorem dX5_fill_64 : decode cX5_fill 64 = .ok (.aload_n 0, 1) := by decide +kernel
theorem dX5_fill_65 : decode cX5_fill 65 = .ok (.getfield 9, 3) := by decide +kernel
theorem dX5_fill_68 : decode cX5_fill 68 = .ok (.iload 8, 2) := by decide +kernel
theorem dX5_fill_70 : decode cX5_fill 70 = .ok (.iaload, 1) := by decide +kernel
theorem dX5_fill_71 : decode cX5_fill 71 = .ok (.iconst 1, 1) := by decide +kernel
theorem dX5_fill_72 : decode cX5_fill 72 = .ok (.iadd, 1) := by decide +kernel
theorem dX5_fill_73 : decode cX5_fill 73 = .ok (.invokestatic 18, 3) := by decide +kernel
theorem dX5_fill_76 : decode cX5_fill 76 = .ok (.istore 7, 2) := by decide +kernel
theorem dX5_fill_78 : decode cX5_fill 78 = .ok (.iinc 8 1, 3) := by decide +kernel
theorem dX5_fill_81 : decode cX5_fill 81 = .ok (.goto (-42), 3) := by decide +kernel
theorem dX5_fill_84 : decode cX5_fill 84 = .ok (.aload_n 0, 1) := by decide +kernel
theorem dX5_fill_85 : decode cX5_fill 85 = .ok (.getfield 15, 3) := by decide +kernel
theorem dX5_fill_88 : decode cX5_fill 88 = .ok (.iload 6, 2) := by decide +kernel
theorem dX5_fill_90 : decode cX5_fill 90 = .ok (.iload 7, 2) := by decide +kernel
theorem dX5_fill_92 : decode cX5_fill 92 = .ok (.iastore, 1) := by decide +kernel
theorem dX5_fill_93 : decode cX5_fill 93 = .ok (.iinc 6 (-1), 3) := by decide +kernel
theorem dX5_fill_96 : decode cX5_fill 96 = .ok (.goto (-79), 3) := by decide +kernel
theorem dX5_fill_99 : decode cX5_fill 99 = .ok (.return_, 1) := by decide +kernel
theorem dX5_fillBest_0 : decode cX5_fillBest 0 = .ok (.aload_n 0, 1) := by decide +kernel
theorem dX5_fillBest_1 : decode cX5_fillBest 1 = .ok (.getfield 9, 3) := by decide +kernel
theorem dX5_fillBest_4 : decode cX5_fillBest 4 = .ok (.iconst (-1), 1) := by decide +kernel
theorem dX5_fillBest_5 : decode cX5_fillBest 5 = .ok (.invokestatic 28, 3) := by decide +kernel
theorem dX5_fillBest_8 : decode cX5_fillBest 8 = .ok (.iload 4, 2) := by decide +kernel
theorem dX5_fillBest_10 : decode cX5_fillBest 10 = .ok (.iconst 1, 1) := by decide +kernel
theorem dX5_fillBest_11 : decode cX5_fillBest 11 = .ok (.iadd, 1) := by decide +kernel
theorem dX5_fillBest_12 : decode cX5_fillBest 12 = .ok (.iload 4, 2) := by decide +kernel
theorem dX5_fillBest_14 : decode cX5_fillBest 14 = .ok (.ior, 1) := by decide +kernel
theorem dX5_fillBest_15 : decode cX5_fillBest 15 = .ok (.istore 5, 2) := by decide +kernel
theorem dX5_fillBest_17 : decode cX5_fillBest 17 = .ok (.iload 5, 2) := by decide +kernel
theorem dX5_fillBest_19 : decode cX5_fillBest 19 = .ok (.iload_n 2, 1) := by decide +kernel
theorem dX5_fillBest_20 : decode cX5_fillBest 20 = .ok (.if_icmp .gt 67, 3) := by decide +kernel
theorem dX5_fillBest_23 : decode cX5_fillBest 23 = .ok (.aload_n 1, 1) := by decide +kernel
theorem dX5_fillBest_24 : decode cX5_fillBest 24 = .ok (.iload 5, 2) := by decide +kernel
theorem dX5_fillBest_26 : decode cX5_fillBest 26 = .ok (.iaload, 1) := by decide +kernel
theorem dX5_fillBest_27 : decode cX5_fillBest 27 = .ok (.istore 6, 2) := by decide +kernel
theorem dX5_fillBest_29 : decode cX5_fillBest 29 = .ok (.iload 6, 2) := by decide +kernel
theorem dX5_fillBest_31 : decode cX5_fillBest 31 = .ok (.ifCond .lt 44, 3) := by decide +kernel
theorem dX5_fillBest_34 : decode cX5_fillBest 34 = .ok (.iload 6, 2) := by decide +kernel
theorem dX5_fillBest_36 : decode cX5_fillBest 36 = .ok (.bipush 8, 2) := by decide +kernel
theorem dX5_fillBest_38 : decode cX5_fillBest 38 = .ok (.if_icmp .ge 37, 3) := by decide +kernel
theorem dX5_fillBest_41 : decode cX5_fillBest 41 = .ok (.iload 5, 2) := by decide +kernel
theorem dX5_fillBest_43 : decode cX5_fillBest 43 = .ok (.iload 4, 2) := by decide +kernel
theorem dX5_fillBest_45 : decode cX5_fillBest 45 = .ok (.ixor, 1) := by decide +kernel
theorem dX5_fillBest_46 : decode cX5_fillBest 46 = .ok (.iload_n 3, 1) := by decide +kernel
theorem dX5_fillBest_47 : decode cX5_fillBest 47 = .ok (.iand, 1) := by decide +kernel
theorem dX5_fillBest_48 : decode cX5_fillBest 48 = .ok (.ifCond .ne 27, 3) := by decide +kernel
theorem dX5_fillBest_51 : decode cX5_fillBest 51 = .ok (.aload_n 0, 1) := by decide +kernel
theorem dX5_fillBest_52 : decode cX5_fillBest 52 = .ok (.getfield 9, 3) := by decide +kernel
theorem dX5_fillBest_55 : decode cX5_fillBest 55 = .ok (.iload 6, 2) := by decide +kernel
theorem dX5_fillBest_57 : decode cX5_fillBest 57 = .ok (.aload_n 0, 1) := by decide +kernel
theorem dX5_fillBest_58 : decode cX5_fillBest 58 = .ok (.getfield 9, 3) := by decide +kernel
theorem dX5_fillBest_61 : decode cX5_fillBest 61 = .ok (.iload 6, 2) := by decide +kernel
theorem dX5_fillBest_63 : decode cX5_fillBest 63 = .ok (.iaload, 1) := by decide +kernel
theorem dX5_fillBest_64 : decode cX5_fillBest 64 = .ok (.aload_n 0, 1) := by decide +kernel
theorem dX5_fillBest_65 : decode cX5_fillBest 65 = .ok (.getfield 15, 3) := by decide +kernel
theorem dX5_fillBest_68 : decode cX5_fillBest 68 = .ok (.iload 5, 2) := by decide +kernel
theorem dX5_fillBest_70 : decode cX5_fillBest 70 = .ok (.iaload, 1) := by decide +kernel
theorem dX5_fillBest_71 : decode cX5_fillBest 71 = .ok (.invokestatic 34, 3) := by decide +kernel
theorem dX5_fillBest_74 : decode cX5_fillBest 74 = .ok (.iastore, 1) := by decide +kernel
theorem dX5_fillBest_75 : decode cX5_fillBest 75 = .ok (.iload 5, 2) := by decide +kernel
theorem dX5_fillBest_77 : decode cX5_fillBest 77 = .ok (.iconst 1, 1) := by decide +kernel
theorem dX5_fillBest_78 : decode cX5_fillBest 78 = .ok (.iadd, 1) := by decide +kernel
theorem dX5_fillBest_79 : decode cX5_fillBest 79 = .ok (.iload 4, 2) := by decide +kernel
theorem dX5_fillBest_81 : decode cX5_fillBest 81 = .ok (.ior, 1) := by decide +kernel
theorem dX5_fillBest_82 : decode cX5_fillBest 82 = .ok (.istore 5, 2) := by decide +kernel
theorem dX5_fillBest_84 : decode cX5_fillBest 84 = .ok (.goto (-67), 3) := by decide +kernel
theorem dX5_fillBest_87 : decode cX5_fillBest 87 = .ok (.return_, 1) := by decide +kernel
theorem dX6_init_0 : decode cX6_init 0 = .ok (.aload_n 0, 1) := by decide +kernel
theorem dX6_init_1 : decode cX6_init 1 = .ok (.invokespecial 1, 3) := by decide +kernel
theorem dX6_init_4 : decode cX6_init 4 = .ok (.aload_n 0, 1) := by decide +kernel
theorem dX6_init_5 : decode cX6_init 5 = .ok (.aload_n 1, 1) := by decide +kernel
theorem dX6_init_6 : decode cX6_init 6 = .ok (.putfield 7, 3) := by decide +kernel
theorem dX6_init_9 : decode cX6_init 9 = .ok (.aload_n 0, 1) := by decide +kernel
theorem dX6_init_10 : decode cX6_init 10 = .ok (.aload_n 2, 1) := by decide +kernel
theorem dX6_init_11 : decode cX6_init 11 = .ok (.putfield 13, 3) := by decide +kernel
theorem dX6_init_14 : decode cX6_init 14 = .ok (.aload_n 0, 1) := by decide +kernel
theorem dX6_init_15 : decode cX6_init 15 = .ok (.iload_n 3, 1) := by decide +kernel
theorem dX6_init_16 : decode cX6_init 16 = .ok (.putfield 16, 3) := by decide +kernel
theorem dX6_init_19 : decode cX6_init 19 = .ok (.return_, 1) := by decide +kernel
theorem dX7_init_0 : decode cX7_init 0 = .ok (.aload_n 0, 1) := by decide +kernel
theorem dX7_init_1 : decode cX7_init 1 = .ok (.invokespecial 3, 3) := by decide +kernel
theorem dX7_init_4 : decode cX7_init 4 = .ok (.aload_n 0, 1) := by decide +kernel
theorem dX7_init_5 : decode cX7_init 5 = .ok (.iconst (-1), 1) := by decide +kernel
theorem dX7_init_6 : decode cX7_init 6 = .ok (.putfield 9, 3) := by decide +kernel
theorem dX7_init_9 : decode cX7_init 9 = .ok (.aload_n 0, 1) := by decide +kernel
theorem dX7_init_10 : decode cX7_init 10 = .ok (.sipush 401, 3) := by decide +kernel
theorem dX7_init_13 : decode cX7_init 13 = .ok (.newarray .int, 2) := by decide +kernel
theorem dX7_init_15 : decode cX7_init 15 = .ok (.putfield 15, 3) := by decide +kernel
theorem dX7_init_18 : decode cX7_init 18 = .ok (.aload_n 0, 1) := by decide +kernel
theorem dX7_init_19 : decode cX7_init 19 = .ok (.sipush 401, 3) := by decide +kernel
theorem dX7_init_22 : decode cX7_init 22 = .ok (.newarray .int, 2) := by decide +kernel
theorem dX7_init_24 : decode cX7_init 24 = .ok (.putfield 19, 3) := by decide +kernel
theorem dX7_init_27 : decode cX7_init 27 = .ok (.aload_n 0, 1) := by decide +kernel
theorem dX7_init_28 : decode cX7_init 28 = .ok (.sipush 400, 3) := by decide +kernel
theorem dX7_init_31 : decode cX7_init 31 = .ok (.newarray .int, 2) := by decide +kernel
theorem dX7_init_33 : decode cX7_init 33 = .ok (.putfield 22, 3) := by decide +kernel
theorem dX7_init_36 : decode cX7_init 36 = .ok (.aload_n 0, 1) := by decide +kernel
theorem dX7_init_37 : decode cX7_init 37 = .ok (.bipush 25, 2) := by decide +kernel
theorem dX7_init_39 : decode cX7_init 39 = .ok (.newarray .int, 2) := by decide +kernel
theorem dX7_init_41 : decode cX7_init 41 = .ok (.putfield 25, 3) := by decide +kernel
theorem dX7_init_44 : decode cX7_init 44 = .ok (.aload_n 0, 1) := by decide +kernel
theorem dX7_init_45 : decode cX7_init 45 = .ok (.aload_n 1, 1) := by decide +kernel
theorem dX7_init_46 : decode cX7_init 46 = .ok (.putfield 28, 3) := by decide +kernel
theorem dX7_init_49 : decode cX7_init 49 = .ok (.return_, 1) := by decide +kernel
theorem dX7_understand_0 : decode cX7_understand 0 = .ok (.aload_n 0, 1) := by decide +kernel
theorem dX7_understand_1 : decode cX7_understand 1 = .ok (.invokevirtual 32, 3) := by decide +kernel
theorem dX7_understand_4 : decode cX7_understand 4 = .ok (.aload_n 0, 1) := by decide +kernel
theorem dX7_understand_5 : decode cX7_understand 5 = .ok (.iconst 0, 1) := by decide +kernel
theorem dX7_understand_6 : decode cX7_understand 6 = .ok (.putfield 35, 3) := by decide +kernel
theorem dX7_understand_9 : decode cX7_understand 9 = .ok (.aload_n 0, 1) := by decide +kernel
theorem dX7_understand_10 : decode cX7_understand 10 = .ok (.aload_n 0, 1) := by decide +kernel
theorem dX7_understand_11 : decode cX7_understand 11 = .ok (.getfield 15, 3) := by decide +kernel
theorem dX7_understand_14 : decode cX7_understand 14 = .ok (.iconst 0, 1) := by decide +kernel
theorem dX7_understand_15 : decode cX7_understand 15 = .ok (.iaload, 1) := by decide +kernel
theorem dX7_understand_16 : decode cX7_understand 16 = .ok (.putfield 38, 3) := by decide +kernel
theorem dX7_understand_19 : decode cX7_understand 19 = .ok (.aload_n 0, 1) := by decide +kernel
theorem dX7_understand_20 : decode cX7_understand 20 = .ok (.iconst 0, 1) := by decide +kernel
theorem dX7_understand_21 : decode cX7_understand 21 = .ok (.putfield 41, 3) := by decide +kernel
theorem dX7_understand_24 : decode cX7_understand 24 = .ok (.aload_n 0, 1) := by decide +kernel
theorem dX7_understand_25 : decode cX7_understand 25 = .ok (.iconst 0, 1) := by decide +kernel
theorem dX7_understand_26 : decode cX7_understand 26 = .ok (.putfield 44, 3) := by decide +kernel
theorem dX7_understand_29 : decode cX7_understand 29 = .ok (.aload_n 0, 1) := by decide +kernel
theorem dX7_understand_30 : decode cX7_understand 30 = .ok (.iconst 0, 1) := by decide +kernel
theorem dX7_understand_31 : decode cX7_understand 31 = .ok (.putfield 47, 3) := by decide +kernel
theorem dX7_understand_34 : decode cX7_understand 34 = .ok (.aload_n 0, 1) := by decide +kernel
theorem dX7_understand_35 : decode cX7_understand 35 = .ok (.iconst (-1), 1) := by decide +kernel
theorem dX7_understand_36 : decode cX7_understand 36 = .ok (.putfield 9, 3) := by decide +kernel
theorem dX7_understand_39 : decode cX7_understand 39 = .ok (.aload_n 0, 1) := by decide +kernel
theorem dX7_understand_40 : decode cX7_understand 40 = .ok (.invokevirtual 50, 3) := by decide +kernel
theorem dX7_understand_43 : decode cX7_understand 43 = .ok (.ifCond .ne 5, 3) := by decide +kernel
theorem dX7_understand_46 : decode cX7_understand 46 = .ok (.aconst_null, 1) := by decide +kernel
theorem dX7_understand_47 : decode cX7_understand 47 = .ok (.areturn, 1) := by decide +kernel
theorem dX7_understand_48 : decode cX7_understand 48 = .ok (.new 54, 3) := by decide +kernel
theorem dX7_understand_51 : decode cX7_understand 51 = .ok (.dup, 1) := by decide +kernel
theorem dX7_understand_52 : decode cX7_understand 52 = .ok (.aload_n 0, 1) := by decide +kernel
theorem dX7_understand_53 : decode cX7_understand 53 = .ok (.getfield 22, 3) := by decide +kernel
theorem dX7_understand_56 : decode cX7_understand 56 = .ok (.aload_n 0, 1) := by decide +kernel
theorem dX7_understand_57 : decode cX7_understand 57 = .ok (.getfield 41, 3) := by decide +kernel
theorem dX7_understand_60 : decode cX7_understand 60 = .ok (.invokestatic 56, 3) := by decide +kernel
theorem dX7_understand_63 : decode cX7_understand 63 = .ok (.aload_n 0, 1) := by decide +kernel
theorem dX7_understand_64 : decode cX7_understand 64 = .ok (.getfield 25, 3) := by decide +kernel
theorem dX7_understand_67 : decode cX7_understand 67 = .ok (.iconst 2, 1) := by decide +kernel
theorem dX7_understand_68 : decode cX7_understand 68 = .ok (.aload_n 0, 1) := by decide +kernel
theorem dX7_understand_69 : decode cX7_understand 69 = .ok (.getfield 47, 3) := by decide +kernel
theorem dX7_understand_72 : decode cX7_understand 72 = .ok (.imul, 1) := by decide +kernel
theorem dX7_understand_73 : decode cX7_understand 73 = .ok (.iconst 1, 1) := by decide +kernel
theorem dX7_understand_74 : decode cX7_understand 74 = .ok (.iadd, 1) := by decide +kernel
theorem dX7_understand_75 : decode cX7_understand 75 = .ok (.invokestatic 56, 3) := by decide +kernel
theorem dX7_understand_78 : decode cX7_understand 78 = .ok (.aload_n 0, 1) := by decide +kernel
theorem dX7_understand_79 : decode cX7_understand 79 = .ok (.getfield 47, 3) := by decide +kernel
theorem dX7_understand_82 : decode cX7_understand 82 = .ok (.invokespecial 62, 3) := by decide +kernel
theorem dX7_understand_85 : decode cX7_understand 85 = .ok (.areturn, 1) := by decide +kernel
theorem dX7_takeClauses_0 : decode cX7_takeClauses 0 = .ok (.iconst 0, 1) := by decide +kernel
theorem dX7_takeClauses_1 : decode cX7_takeClauses 1 = .ok (.istore_n 1, 1) := by decide +kernel
theorem dX7_takeClauses_2 : decode cX7_takeClauses 2 = .ok (.iload_n 1, 1) := by decide +kernel
theorem dX7_takeClauses_3 : decode cX7_takeClauses 3 = .ok (.bipush 12, 2) := by decide +kernel
theorem dX7_takeClauses_5 : decode cX7_takeClauses 5 = .ok (.if_icmp .ge 48, 3) := by decide +kernel
theorem dX7_takeClauses_8 : decode cX7_takeClauses 8 = .ok (.aload_n 0, 1) := by decide +kernel
theorem dX7_takeClauses_9 : decode cX7_takeClauses 9 = .ok (.invokevirtual 65, 3) := by decide +kernel
theorem dX7_takeClauses_12 : decode cX7_takeClauses 12 = .ok (.ifCond .ne 5, 3) := by decide +kernel
theorem dX7_takeClauses_15 : decode cX7_takeClauses 15 = .ok (.iconst 0, 1) := by decide +kernel
theorem dX7_takeClauses_16 : decode cX7_takeClauses 16 = .ok (.ireturn, 1) := by decide +kernel
theorem dX7_takeClauses_17 : decode cX7_takeClauses 17 = .ok (.aload_n 0, 1) := by decide +kernel
theorem dX7_takeClauses_18 : decode cX7_takeClauses 18 = .ok (.getfield 38, 3) := by decide +kernel
theorem dX7_takeClauses_21 : decode cX7_takeClauses 21 = .ok (.sipush 256, 3) := by decide +kernel
theorem dX7_takeClauses_24 : decode cX7_takeClauses 24 = .ok (.if_icmp .ne 5, 3) := by decide +kernel
theorem dX7_takeClauses_27 : decode cX7_takeClauses 27 = .ok (.iconst 1, 1) := by decide +kernel
theorem dX7_takeClauses_28 : decode cX7_takeClauses 28 = .ok (.ireturn, 1) := by decide +kernel
theorem dX7_takeClauses_29 : decode cX7_takeClauses 29 = .ok (.aload_n 0, 1) := by decide +kernel
theorem dX7_takeClauses_30 : decode cX7_takeClauses 30 = .ok (.getfield 38, 3) := by decide +kernel
theorem dX7_takeClauses_33 : decode cX7_takeClauses 33 = .ok (.bipush 59, 2) := by decide +kernel
theorem dX7_takeClauses_35 : decode cX7_takeClauses 35 = .ok (.if_icmp .eq 8, 3) := by decide +kernel
theorem dX7_takeClauses_38 : decode cX7_takeClauses 38 = .ok (.aload_n 0, 1) := by decide +kernel
theorem dX7_takeClauses_39 : decode cX7_takeClauses 39 = .ok (.invokevirtual 68, 3) := by decide +kernel
theorem dX7_takeClauses_42 : decode cX7_takeClauses 42 = .ok (.ireturn, 1) := by decide +kernel
theorem dX7_takeClauses_43 : decode cX7_takeClauses 43 = .ok (.aload_n 0, 1) := by decide +kernel
theorem dX7_takeClauses_44 : decode cX7_takeClauses 44 = .ok (.invokevirtual 71, 3) := by decide +kernel
theorem dX7_takeClauses_47 : decode cX7_takeClauses 47 = .ok (.iinc 1 1, 3) := by decide +kernel
theorem dX7_takeClauses_50 : decode cX7_takeClauses 50 = .ok (.goto (-48), 3) := by decide +kernel
theorem dX7_takeClauses_53 : decode cX7_takeClauses 53 = .ok (.aload_n 0, 1) := by decide +kernel
theorem dX7_takeClauses_54 : decode cX7_takeClauses 54 = .ok (.invokevirtual 68, 3) := by decide +kernel
theorem dX7_takeClauses_57 : decode cX7_takeClauses 57 = .ok (.ireturn, 1) := by decide +kernel
theorem dX7_takeClause_0 : decode cX7_takeClause 0 = .ok (.aload_n 0, 1) := by decide +kernel
theorem dX7_takeClause_1 : decode cX7_takeClause 1 = .ok (.getfield 38, 3) := by decide +kernel
theorem dX7_takeClause_4 : decode cX7_takeClause 4 = .ok (.sipush 258, 3) := by decide +kernel
theorem dX7_takeClause_7 : decode cX7_takeClause 7 = .ok (.if_icmp .ne 19, 3) := by decide +kernel
theorem dX7_takeClause_10 : decode cX7_takeClause 10 = .ok (.iconst 2, 1) := by decide +kernel
theorem dX7_takeClause_11 : decode cX7_takeClause 11 = .ok (.aload_n 0, 1) := by decide +kernel
theorem dX7_takeClause_12 : decode cX7_takeClause 12 = .ok (.getfield 47, 3) := by decide +kernel
theorem dX7_takeClause_15 : decode cX7_takeClause 15 = .ok (.imul, 1) := by decide +kernel
theorem dX7_takeClause_16 : decode cX7_takeClause 16 = .ok (.iconst 2, 1) := by decide +kernel
theorem dX7_takeClause_17 : decode cX7_takeClause 17 = .ok (.iadd, 1) := by decide +kernel
theorem dX7_takeClause_18 : decode cX7_takeClause 18 = .ok (.aload_n 0, 1) := by decide +kernel
theorem dX7_takeClause_19 : decode cX7_takeClause 19 = .ok (.getfield 25, 3) := by decide +kernel
theorem dX7_takeClause_22 : decode cX7_takeClause 22 = .ok (.arraylength, 1) := by decide +kernel
theorem dX7_takeClause_23 : decode cX7_takeClause 23 = .ok (.if_icmp .lt 8, 3) := by decide +kernel
theorem dX7_takeClause_26 : decode cX7_takeClause 26 = .ok (.aload_n 0, 1) := by decide +kernel
theorem dX7_takeClause_27 : decode cX7_takeClause 27 = .ok (.invokevirtual 68, 3) := by decide +kernel
theorem dX7_takeClause_30 : decode cX7_takeClause 30 = .ok (.ireturn, 1) := by decide +kernel
theorem dX7_takeClause_31 : decode cX7_takeClause 31 = .ok (.aload_n 0, 1) := by decide +kernel
theorem dX7_takeClause_32 : decode cX7_takeClause 32 = .ok (.invokevirtual 71, 3) := by decide +kernel
theorem dX7_takeClause_35 : decode cX7_takeClause 35 = .ok (.aload_n 0, 1) := by decide +kernel
theorem dX7_takeClause_36 : decode cX7_takeClause 36 = .ok (.getfield 25, 3) := by decide +kernel
theorem dX7_takeClause_39 : decode cX7_takeClause 39 = .ok (.iconst 2, 1) := by decide +kernel
theorem dX7_takeClause_40 : decode cX7_takeClause 40 = .ok (.aload_n 0, 1) := by decide +kernel
theorem dX7_takeClause_41 : decode cX7_takeClause 41 = .ok (.getfield 47, 3) := by decide +kernel
theorem dX7_takeClause_44 : decode cX7_takeClause 44 = .ok (.imul, 1) := by decide +kernel
theorem dX7_takeClause_45 : decode cX7_takeClause 45 = .ok (.aload_n 0, 1) := by decide +kernel
theorem dX7_takeClause_46 : decode cX7_takeClause 46 = .ok (.getfield 41, 3) := by decide +kernel
theorem dX7_takeClause_49 : decode cX7_takeClause 49 = .ok (.iastore, 1) := by decide +kernel
theorem dX7_takeClause_50 : decode cX7_takeClause 50 = .ok (.aload_n 0, 1) := by decide +kernel
theorem dX7_takeClause_51 : decode cX7_takeClause 51 = .ok (.iconst 0, 1) := by decide +kernel
theorem dX7_takeClause_52 : decode cX7_takeClause 52 = .ok (.invokevirtual 74, 3) := by decide +kernel
theorem dX7_takeClause_55 : decode cX7_takeClause 55 = .ok (.ifCond .ne 5, 3) := by decide +kernel
theorem dX7_takeClause_58 : decode cX7_takeClause 58 = .ok (.iconst 0, 1) := by decide +kernel
theorem dX7_takeClause_59 : decode cX7_takeClause 59 = .ok (.ireturn, 1) := by decide +kernel
theorem dX7_takeClause_60 : decode cX7_takeClause 60 = .ok (.aload_n 0, 1) := by decide +kernel
theorem dX7_takeClause_61 : decode cX7_takeClause 61 = .ok (.getfield 25, 3) := by decide +kernel
theorem dX7_takeClause_64 : decode cX7_takeClause 64 = .ok (.iconst 2, 1) := by decide +kernel
theorem dX7_takeClause_65 : decode cX7_takeClause 65 = .ok (.aload_n 0, 1) := by decide +kernel
theorem dX7_takeClause_66 : decode cX7_takeClause 66 = .ok (.getfield 47, 3) := by decide +kernel
theorem dX7_takeClause_69 : decode cX7_takeClause 69 = .ok (.imul, 1) := by decide +kernel
theorem dX7_takeClause_70 : decode cX7_takeClause 70 = .ok (.iconst 1, 1) := by decide +kernel
theorem dX7_takeClause_71 : decode cX7_takeClause 71 = .ok (.iadd, 1) := by decide +kernel
theorem dX7_takeClause_72 : decode cX7_takeClause 72 = .ok (.aload_n 0, 1) := by decide +kernel
theorem dX7_takeClause_73 : decode cX7_takeClause 73 = .ok (.getfield 41, 3) := by decide +kernel
theorem dX7_takeClause_76 : decode cX7_takeClause 76 = .ok (.iastore, 1) := by decide +kernel
theorem dX7_takeClause_77 : decode cX7_takeClause 77 = .ok (.aload_n 0, 1) := by decide +kernel
theorem dX7_takeClause_78 : decode cX7_takeClause 78 = .ok (.getfield 38, 3) := by decide +kernel
theorem dX7_takeClause_81 : decode cX7_takeClause 81 = .ok (.sipush 259, 3) := by decide +kernel
theorem dX7_takeClause_84 : decode cX7_takeClause 84 = .ok (.if_icmp .ne 17, 3) := by decide +kernel
theorem dX7_takeClause_87 : decode cX7_takeClause 87 = .ok (.aload_n 0, 1) := by decide +kernel
theorem dX7_takeClause_88 : decode cX7_takeClause 88 = .ok (.invokevirtual 71, 3) := by decide +kernel
theorem dX7_takeClause_91 : decode cX7_takeClause 91 = .ok (.aload_n 0, 1) := by decide +kernel
theorem dX7_takeClause_92 : decode cX7_takeClause 92 = .ok (.iconst 0, 1) := by decide +kernel
theorem dX7_takeClause_93 : decode cX7_takeClause 93 = .ok (.invokevirtual 78, 3) := by decide +kernel
theorem dX7_takeClause_96 : decode cX7_takeClause 96 = .ok (.ifCond .ne 5, 3) := by decide +kernel
theorem dX7_takeClause_99 : decode cX7_takeClause 99 = .ok (.iconst 0, 1) := by decide +kernel
theorem dX7_takeClause_100 : decode cX7_takeClause 100 = .ok (.ireturn, 1) := by decide +kernel
theorem dX7_takeClause_101 : decode cX7_takeClause 101 = .ok (.aload_n 0, 1) := by decide +kernel
theorem dX7_takeClause_102 : decode cX7_takeClause 102 = .ok (.dup, 1) := by decide +kernel
theorem dX7_takeClause_103 : decode cX7_takeClause 103 = .ok (.getfield 47, 3) := by decide +kernel
theorem dX7_takeClause_106 : decode cX7_takeClause 106 = .ok (.iconst 1, 1) := by decide +kernel
theorem dX7_takeClause_107 : decode cX7_takeClause 107 = .ok (.iadd, 1) := by decide +kernel
theorem dX7_takeClause_108 : decode cX7_takeClause 108 = .ok (.putfield 47, 3) := by decide +kernel
theorem dX7_takeClause_111 : decode cX7_takeClause 111 = .ok (.aload_n 0, 1) := by decide +kernel
theorem dX7_takeClause_112 : decode cX7_takeClause 112 = .ok (.getfield 25, 3) := by decide +kernel
theorem dX7_takeClause_115 : decode cX7_takeClause 115 = .ok (.iconst 2, 1) := by decide +kernel
theorem dX7_takeClause_116 : decode cX7_takeClause 116 = .ok (.aload_n 0, 1) := by decide +kernel
theorem dX7_takeClause_117 : decode cX7_takeClause 117 = .ok (.getfield 47, 3) := by decide +kernel
theorem dX7_takeClause_120 : decode cX7_takeClause 120 = .ok (.imul, 1) := by decide +kernel
theorem dX7_takeClause_121 : decode cX7_takeClause 121 = .ok (.aload_n 0, 1) := by decide +kernel
theorem dX7_takeClause_122 : decode cX7_takeClause 122 = .ok (.getfield 41, 3) := by decide +kernel
theorem dX7_takeClause_125 : decode cX7_takeClause 125 = .ok (.iastore, 1) := by decide +kernel
theorem dX7_takeClause_126 : decode cX7_takeClause 126 = .ok (.iconst 1, 1) := by decide +kernel
theorem dX7_takeClause_127 : decode cX7_takeClause 127 = .ok (.ireturn, 1) := by decide +kernel
theorem dX7_takeTest_0 : decode cX7_takeTest 0 = .ok (.aload_n 0, 1) := by decide +kernel
theorem dX7_takeTest_1 : decode cX7_takeTest 1 = .ok (.iload_n 1, 1) := by decide +kernel
theorem dX7_takeTest_2 : decode cX7_takeTest 2 = .ok (.invokevirtual 81, 3) := by decide +kernel
theorem dX7_takeTest_5 : decode cX7_takeTest 5 = .ok (.ifCond .ne 5, 3) := by decide +kernel
theorem dX7_takeTest_8 : decode cX7_takeTest 8 = .ok (.iconst 0, 1) := by decide +kernel
theorem dX7_takeTest_9 : decode cX7_takeTest 9 = .ok (.ireturn, 1) := by decide +kernel
theorem dX7_takeTest_10 : decode cX7_takeTest 10 = .ok (.iconst 0, 1) := by decide +kernel
theorem dX7_takeTest_11 : decode cX7_takeTest 11 = .ok (.istore_n 2, 1) := by decide +kernel
theorem dX7_takeTest_12 : decode cX7_takeTest 12 = .ok (.iload_n 2, 1) := by decide +kernel
theorem dX7_takeTest_13 : decode cX7_takeTest 13 = .ok (.sipush 400, 3) := by decide +kernel
theorem dX7_takeTest_16 : decode cX7_takeTest 16 = .ok (.if_icmp .ge 45, 3) := by decide +kernel
theorem dX7_takeTest_19 : decode cX7_takeTest 19 = .ok (.aload_n 0, 1) := by decide +kernel
theorem dX7_takeTest_20 : decode cX7_takeTest 20 = .ok (.getfield 38, 3) := by decide +kernel
theorem dX7_takeTest_23 : decode cX7_takeTest 23 = .ok (.sipush 260, 3) := by decide +kernel
theorem dX7_takeTest_26 : decode cX7_takeTest 26 = .ok (.if_icmp .ne 35, 3) := by decide +kernel
theorem dX7_takeTest_29 : decode cX7_takeTest 29 = .ok (.aload_n 0, 1) := by decide +kernel
theorem dX7_takeTest_30 : decode cX7_takeTest 30 = .ok (.invokevirtual 71, 3) := by decide +kernel
theorem dX7_takeTest_33 : decode cX7_takeTest 33 = .ok (.aload_n 0, 1) := by decide +kernel
theorem dX7_takeTest_34 : decode cX7_takeTest 34 = .ok (.bipush (-20), 2) := by decide +kernel
theorem dX7_takeTest_36 : decode cX7_takeTest 36 = .ok (.invokevirtual 84, 3) := by decide +kernel
theorem dX7_takeTest_39 : decode cX7_takeTest 39 = .ok (.istore_n 3, 1) := by decide +kernel
theorem dX7_takeTest_40 : decode cX7_takeTest 40 = .ok (.aload_n 0, 1) := by decide +kernel
theorem dX7_takeTest_41 : decode cX7_takeTest 41 = .ok (.iload_n 1, 1) := by decide +kernel
theorem dX7_takeTest_42 : decode cX7_takeTest 42 = .ok (.invokevirtual 81, 3) := by decide +kernel
theorem dX7_takeTest_45 : decode cX7_takeTest 45 = .ok (.ifCond .ne 5, 3) := by decide +kernel
theorem dX7_takeTest_48 : decode cX7_takeTest 48 = .ok (.iconst 0, 1) := by decide +kernel
theorem dX7_takeTest_49 : decode cX7_takeTest 49 = .ok (.ireturn, 1) := by decide +kernel
theorem dX7_takeTest_50 : decode cX7_takeTest 50 = .ok (.aload_n 0, 1) := by decide +kernel
theorem dX7_takeTest_51 : decode cX7_takeTest 51 = .ok (.iload_n 3, 1) := by decide +kernel
theorem dX7_takeTest_52 : decode cX7_takeTest 52 = .ok (.invokevirtual 88, 3) := by decide +kernel
theorem dX7_takeTest_55 : decode cX7_takeTest 55 = .ok (.iinc 2 1, 3) := by decide +kernel
theorem dX7_takeTest_58 : decode cX7_takeTest 58 = .ok (.goto (-46), 3) := by decide +kernel
theorem dX7_takeTest_61 : decode cX7_takeTest 61 = .ok (.iconst 1, 1) := by decide +kernel
theorem dX7_takeTest_62 : decode cX7_takeTest 62 = .ok (.ireturn, 1) := by decide +kernel
theorem dX7_takeBoth_0 : decode cX7_takeBoth 0 = .ok (.aload_n 0, 1) := by decide +kernel
theorem dX7_takeBoth_1 : decode cX7_takeBoth 1 = .ok (.iload_n 1, 1) := by decide +kernel
theorem dX7_takeBoth_2 : decode cX7_takeBoth 2 = .ok (.invokevirtual 92, 3) := by decide +kernel
theorem dX7_takeBoth_5 : decode cX7_takeBoth 5 = .ok (.ifCond .ne 5, 3) := by decide +kernel
theorem dX7_takeBoth_8 : decode cX7_takeBoth 8 = .ok (.iconst 0, 1) := by decide +kernel
theorem dX7_takeBoth_9 : decode cX7_takeBoth 9 = .ok (.ireturn, 1) := by decide +kernel
theorem dX7_takeBoth_10 : decode cX7_takeBoth 10 = .ok (.iconst 0, 1) := by decide +kernel
theorem dX7_takeBoth_11 : decode cX7_takeBoth 11 = .ok (.istore_n 2, 1) := by decide +kernel
theorem dX7_takeBoth_12 : decode cX7_takeBoth 12 = .ok (.iload_n 2, 1) := by decide +kernel
theorem dX7_takeBoth_13 : decode cX7_takeBoth 13 = .ok (.sipush 400, 3) := by decide +kernel
theorem dX7_takeBoth_16 : decode cX7_takeBoth 16 = .ok (.if_icmp .ge 45, 3) := by decide +kernel
theorem dX7_takeBoth_19 : decode cX7_takeBoth 19 = .ok (.aload_n 0, 1) := by decide +kernel
theorem dX7_takeBoth_20 : decode cX7_takeBoth 20 = .ok (.getfield 38, 3) := by decide +kernel
theorem dX7_takeBoth_23 : decode cX7_takeBoth 23 = .ok (.sipush 261, 3) := by decide +kernel
theorem dX7_takeBoth_26 : decode cX7_takeBoth 26 = .ok (.if_icmp .ne 35, 3) := by decide +kernel
theorem dX7_takeBoth_29 : decode cX7_takeBoth 29 = .ok (.aload_n 0, 1) := by decide +kernel
theorem dX7_takeBoth_30 : decode cX7_takeBoth 30 = .ok (.invokevirtual 71, 3) := by decide +kernel
theorem dX7_takeBoth_33 : decode cX7_takeBoth 33 = .ok (.aload_n 0, 1) := by decide +kernel
theorem dX7_takeBoth_34 : decode cX7_takeBoth 34 = .ok (.bipush (-21), 2) := by decide +kernel
theorem dX7_takeBoth_36 : decode cX7_takeBoth 36 = .ok (.invokevirtual 84, 3) := by decide +kernel
theorem dX7_takeBoth_39 : decode cX7_takeBoth 39 = .ok (.istore_n 3, 1) := by decide +kernel
theorem dX7_takeBoth_40 : decode cX7_takeBoth 40 = .ok (.aload_n 0, 1) := by decide +kernel
theorem dX7_takeBoth_41 : decode cX7_takeBoth 41 = .ok (.iload_n 1, 1) := by decide +kernel
theorem dX7_takeBoth_42 : decode cX7_takeBoth 42 = .ok (.invokevirtual 92, 3) := by decide +kernel
theorem dX7_takeBoth_45 : decode cX7_takeBoth 45 = .ok (.ifCond .ne 5, 3) := by decide +kernel
theorem dX7_takeBoth_48 : decode cX7_takeBoth 48 = .ok (.iconst 0, 1) := by decide +kernel
theorem dX7_takeBoth_49 : decode cX7_takeBoth 49 = .ok (.ireturn, 1) := by decide +kernel
theorem dX7_takeBoth_50 : decode cX7_takeBoth 50 = .ok (.aload_n 0, 1) := by decide +kernel
theorem dX7_takeBoth_51 : decode cX7_takeBoth 51 = .ok (.iload_n 3, 1) := by decide +kernel
theorem dX7_takeBoth_52 : decode cX7_takeBoth 52 = .ok (.invokevirtual 88, 3) := by decide +kernel
theorem dX7_takeBoth_55 : decode cX7_takeBoth 55 = .ok (.iinc 2 1, 3) := by decide +kernel
theorem dX7_takeBoth_58 : decode cX7_takeBoth 58 = .ok (.goto (-46), 3) := by decide +kernel
theorem dX7_takeBoth_61 : decode cX7_takeBoth 61 = .ok (.iconst 1, 1) := by decide +kernel
theorem dX7_takeBoth_62 : decode cX7_takeBoth 62 = .ok (.ireturn, 1) := by decide +kernel
theorem dX7_takePlain_0 : decode cX7_takePlain 0 = .ok (.iconst 0, 1) := by decide +kernel
theorem dX7_takePlain_1 : decode cX7_takePlain 1 = .ok (.istore_n 2, 1) := by decide +kernel
theorem dX7_takePlain_2 : decode cX7_takePlain 2 = .ok (.iconst 0, 1) := by decide +kernel
theorem dX7_takePlain_3 : decode cX7_takePlain 3 = .ok (.istore_n 3, 1) := by decide +kernel
theorem dX7_takePlain_4 : decode cX7_takePlain 4 = .ok (.iload_n 3, 1) := by decide +kernel
theorem dX7_takePlain_5 : decode cX7_takePlain 5 = .ok (.sipush 400, 3) := by decide +kernel
theorem dX7_takePlain_8 : decode cX7_takePlain 8 = .ok (.if_icmp .ge 33, 3) := by decide +kernel
theorem dX7_takePlain_11 : decode cX7_takePlain 11 = .ok (.aload_n 0, 1) := by decide +kernel
theorem dX7_takePlain_12 : decode cX7_takePlain 12 = .ok (.getfield 38, 3) := by decide +kernel
theorem dX7_takePlain_15 : decode cX7_takePlain 15 = .ok (.sipush 262, 3) := by decide +kernel
theorem dX7_takePlain_18 : decode cX7_takePlain 18 = .ok (.if_icmp .ne 23, 3) := by decide +kernel
theorem dX7_takePlain_21 : decode cX7_takePlain 21 = .ok (.aload_n 0, 1) := by decide +kernel
theorem dX7_takePlain_22 : decode cX7_takePlain 22 = .ok (.invokevirtual 71, 3) := by decide +kernel
theorem dX7_takePlain_25 : decode cX7_takePlain 25 = .ok (.iload_n 2, 1) := by decide +kernel
theorem dX7_takePlain_26 : decode cX7_takePlain 26 = .ok (.ifCond .ne 7, 3) := by decide +kernel
theorem dX7_takePlain_29 : decode cX7_takePlain 29 = .ok (.iconst 1, 1) := by decide +kernel
theorem dX7_takePlain_30 : decode cX7_takePlain 30 = .ok (.goto 4, 3) := by decide +kernel
theorem dX7_takePlain_33 : decode cX7_takePlain 33 = .ok (.iconst 0, 1) := by decide +kernel
theorem dX7_takePlain_34 : decode cX7_takePlain 34 = .ok (.istore_n 2, 1) := by decide +kernel
theorem dX7_takePlain_35 : decode cX7_takePlain 35 = .ok (.iinc 3 1, 3) := by decide +kernel
theorem dX7_takePlain_38 : decode cX7_takePlain 38 = .ok (.goto (-34), 3) := by decide +kernel
theorem dX7_takePlain_41 : decode cX7_takePlain 41 = .ok (.aload_n 0, 1) := by decide +kernel
theorem dX7_takePlain_42 : decode cX7_takePlain 42 = .ok (.getfield 38, 3) := by decide +kernel
theorem dX7_takePlain_45 : decode cX7_takePlain 45 = .ok (.bipush 40, 2) := by decide +kernel
theorem dX7_takePlain_47 : decode cX7_takePlain 47 = .ok (.if_icmp .ne 11, 3) := by decide +kernel
theorem dX7_takePlain_50 : decode cX7_takePlain 50 = .ok (.aload_n 0, 1) := by decide +kernel
theorem dX7_takePlain_51 : decode cX7_takePlain 51 = .ok (.iload_n 1, 1) := by decide +kernel
theorem dX7_takePlain_52 : decode cX7_takePlain 52 = .ok (.invokevirtual 95, 3) := by decide +kernel
theorem dX7_takePlain_55 : decode cX7_takePlain 55 = .ok (.goto 8, 3) := by decide +kernel
theorem dX7_takePlain_58 : decode cX7_takePlain 58 = .ok (.aload_n 0, 1) := by decide +kernel
theorem dX7_takePlain_59 : decode cX7_takePlain 59 = .ok (.iload_n 1, 1) := by decide +kernel
theorem dX7_takePlain_60 : decode cX7_takePlain 60 = .ok (.invokevirtual 98, 3) := by decide +kernel
theorem dX7_takePlain_63 : decode cX7_takePlain 63 = .ok (.istore_n 3, 1) := by decide +kernel
theorem dX7_takePlain_64 : decode cX7_takePlain 64 = .ok (.iload_n 3, 1) := by decide +kernel
theorem dX7_takePlain_65 : decode cX7_takePlain 65 = .ok (.ifCond .eq 13, 3) := by decide +kernel
theorem dX7_takePlain_68 : decode cX7_takePlain 68 = .ok (.iload_n 2, 1) := by decide +kernel
theorem dX7_takePlain_69 : decode cX7_takePlain 69 = .ok (.ifCond .eq 9, 3) := by decide +kernel
theorem dX7_takePlain_72 : decode cX7_takePlain 72 = .ok (.aload_n 0, 1) := by decide +kernel
theorem dX7_takePlain_73 : decode cX7_takePlain 73 = .ok (.bipush (-19), 2) := by decide +kernel
theorem dX7_takePlain_75 : decode cX7_takePlain 75 = .ok (.invokevirtual 101, 3) := by decide +kernel
theorem dX7_takePlain_78 : decode cX7_takePlain 78 = .ok (.iload_n 3, 1) := by decide +kernel
theorem dX7_takePlain_79 : decode cX7_takePlain 79 = .ok (.ireturn, 1) := by decide +kernel
theorem dX7_takeBracketed_0 : decode cX7_takeBracketed 0 = .ok (.iload_n 1, 1) := by decide +kernel
theorem dX7_takeBracketed_1 : decode cX7_takeBracketed 1 = .ok (.bipush 8, 2) := by decide +kernel
theorem dX7_takeBracketed_3 : decode cX7_takeBracketed 3 = .ok (.if_icmp .lt 8, 3) := by decide +kernel
theorem dX7_takeBracketed_6 : decode cX7_takeBracketed 6 = .ok (.aload_n 0, 1) := by decide +kernel
theorem dX7_takeBracketed_7 : decode cX7_takeBracketed 7 = .ok (.invokevirtual 68, 3) := by decide +kernel
theorem dX7_takeBracketed_10 : decode cX7_takeBracketed 10 = .ok (.ireturn, 1) := by decide +kernel
theorem dX7_takeBracketed_11 : decode cX7_takeBracketed 11 = .ok (.aload_n 0, 1) := by decide +kernel
theorem dX7_takeBracketed_12 : decode cX7_takeBracketed 12 = .ok (.invokevirtual 71, 3) := by decide +kernel
theorem dX7_takeBracketed_15 : decode cX7_takeBracketed 15 = .ok (.aload_n 0, 1) := by decide +kernel
theorem dX7_takeBracketed_16 : decode cX7_takeBracketed 16 = .ok (.iload_n 1, 1) := by decide +kernel
theorem dX7_takeBracketed_17 : decode cX7_takeBracketed 17 = .ok (.iconst 1, 1) := by decide +kernel
theorem dX7_takeBracketed_18 : decode cX7_takeBracketed 18 = .ok (.iadd, 1) := by decide +kernel
theorem dX7_takeBracketed_19 : decode cX7_takeBracketed 19 = .ok (.invokevirtual 78, 3) := by decide +kernel
theorem dX7_takeBracketed_22 : decode cX7_takeBracketed 22 = .ok (.ifCond .eq 16, 3) := by decide +kernel
