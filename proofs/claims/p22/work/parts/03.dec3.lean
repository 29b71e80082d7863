theorem dX11_failing0_68 : decode cX11_failing0 68 = .ok (.iconst (-1), 1) := by decide +kernel
theorem dX11_failing0_69 : decode cX11_failing0 69 = .ok (.goto 10, 3) := by decide +kernel
theorem dX11_failing0_72 : decode cX11_failing0 72 = .ok (.aload_n 0, 1) := by decide +kernel
theorem dX11_failing0_73 : decode cX11_failing0 73 = .ok (.getfield 55, 3) := by decide +kernel
theorem dX11_failing0_76 : decode cX11_failing0 76 = .ok (.iload 5, 2) := by decide +kernel
theorem dX11_failing0_78 : decode cX11_failing0 78 = .ok (.iaload, 1) := by decide +kernel
theorem dX11_failing0_79 : decode cX11_failing0 79 = .ok (.istore 6, 2) := by decide +kernel
theorem dX11_failing0_81 : decode cX11_failing0 81 = .ok (.iload 4, 2) := by decide +kernel
theorem dX11_failing0_83 : decode cX11_failing0 83 = .ok (.aload_n 0, 1) := by decide +kernel
theorem dX11_failing0_84 : decode cX11_failing0 84 = .ok (.iload_n 1, 1) := by decide +kernel
theorem dX11_failing0_85 : decode cX11_failing0 85 = .ok (.invokevirtual 126, 3) := by decide +kernel
theorem dX11_failing0_88 : decode cX11_failing0 88 = .ok (.if_icmp .eq 18, 3) := by decide +kernel
theorem dX11_failing0_91 : decode cX11_failing0 91 = .ok (.iload 6, 2) := by decide +kernel
theorem dX11_failing0_93 : decode cX11_failing0 93 = .ok (.iload_n 2, 1) := by decide +kernel
theorem dX11_failing0_94 : decode cX11_failing0 94 = .ok (.if_icmp .lt 6, 3) := by decide +kernel
theorem dX11_failing0_97 : decode cX11_failing0 97 = .ok (.goto 9, 3) := by decide +kernel
theorem dX11_failing0_100 : decode cX11_failing0 100 = .ok (.iload 6, 2) := by decide +kernel
theorem dX11_failing0_102 : decode cX11_failing0 102 = .ok (.istore_n 2, 1) := by decide +kernel
theorem dX11_failing0_103 : decode cX11_failing0 103 = .ok (.iload 4, 2) := by decide +kernel
theorem dX11_failing0_105 : decode cX11_failing0 105 = .ok (.istore_n 3, 1) := by decide +kernel
theorem dX11_failing0_106 : decode cX11_failing0 106 = .ok (.iinc 4 1, 3) := by decide +kernel
theorem dX11_failing0_109 : decode cX11_failing0 109 = .ok (.goto (-84), 3) := by decide +kernel
theorem dX11_failing0_112 : decode cX11_failing0 112 = .ok (.aload_n 0, 1) := by decide +kernel
theorem dX11_failing0_113 : decode cX11_failing0 113 = .ok (.getfield 68, 3) := by decide +kernel
theorem dX11_failing0_116 : decode cX11_failing0 116 = .ok (.aload_n 0, 1) := by decide +kernel
theorem dX11_failing0_117 : decode cX11_failing0 117 = .ok (.getfield 318, 3) := by decide +kernel
theorem dX11_failing0_120 : decode cX11_failing0 120 = .ok (.iload_n 3, 1) := by decide +kernel
theorem dX11_failing0_121 : decode cX11_failing0 121 = .ok (.iastore, 1) := by decide +kernel
theorem dX11_failing0_122 : decode cX11_failing0 122 = .ok (.aload_n 0, 1) := by decide +kernel
theorem dX11_failing0_123 : decode cX11_failing0 123 = .ok (.dup, 1) := by decide +kernel
theorem dX11_failing0_124 : decode cX11_failing0 124 = .ok (.getfield 318, 3) := by decide +kernel
theorem dX11_failing0_127 : decode cX11_failing0 127 = .ok (.iconst 1, 1) := by decide +kernel
theorem dX11_failing0_128 : decode cX11_failing0 128 = .ok (.iadd, 1) := by decide +kernel
theorem dX11_failing0_129 : decode cX11_failing0 129 = .ok (.putfield 318, 3) := by decide +kernel
theorem dX11_failing0_132 : decode cX11_failing0 132 = .ok (.aload_n 0, 1) := by decide +kernel
theorem dX11_failing0_133 : decode cX11_failing0 133 = .ok (.iload_n 1, 1) := by decide +kernel
theorem dX11_failing0_134 : decode cX11_failing0 134 = .ok (.iload_n 3, 1) := by decide +kernel
theorem dX11_failing0_135 : decode cX11_failing0 135 = .ok (.iconst 2, 1) := by decide +kernel
theorem dX11_failing0_136 : decode cX11_failing0 136 = .ok (.invokevirtual 311, 3) := by decide +kernel
theorem dX11_failing0_139 : decode cX11_failing0 139 = .ok (.istore_n 1, 1) := by decide +kernel
theorem dX11_failing0_140 : decode cX11_failing0 140 = .ok (.goto (-129), 3) := by decide +kernel
theorem dX11_failing0_143 : decode cX11_failing0 143 = .ok (.return_, 1) := by decide +kernel
theorem dX11_failing_0 : decode cX11_failing 0 = .ok (.aload_n 0, 1) := by decide +kernel
theorem dX11_failing_1 : decode cX11_failing 1 = .ok (.invokevirtual 321, 3) := by decide +kernel
theorem dX11_failing_4 : decode cX11_failing 4 = .ok (.iload_n 1, 1) := by decide +kernel
theorem dX11_failing_5 : decode cX11_failing 5 = .ok (.iconst (-1), 1) := by decide +kernel
theorem dX11_failing_6 : decode cX11_failing 6 = .ok (.if_icmp .ne 10, 3) := by decide +kernel
theorem dX11_failing_9 : decode cX11_failing 9 = .ok (.aload_n 0, 1) := by decide +kernel
theorem dX11_failing_10 : decode cX11_failing 10 = .ok (.getfield 318, 3) := by decide +kernel
theorem dX11_failing_13 : decode cX11_failing 13 = .ok (.goto 27, 3) := by decide +kernel
theorem dX11_failing_16 : decode cX11_failing 16 = .ok (.iload_n 1, 1) := by decide +kernel
theorem dX11_failing_17 : decode cX11_failing 17 = .ok (.iconst 0, 1) := by decide +kernel
theorem dX11_failing_18 : decode cX11_failing 18 = .ok (.aload_n 0, 1) := by decide +kernel
theorem dX11_failing_19 : decode cX11_failing 19 = .ok (.getfield 318, 3) := by decide +kernel
theorem dX11_failing_22 : decode cX11_failing 22 = .ok (.iconst 1, 1) := by decide +kernel
theorem dX11_failing_23 : decode cX11_failing 23 = .ok (.isub, 1) := by decide +kernel
theorem dX11_failing_24 : decode cX11_failing 24 = .ok (.invokestatic 101, 3) := by decide +kernel
theorem dX11_failing_27 : decode cX11_failing 27 = .ok (.ifCond .eq 12, 3) := by decide +kernel
theorem dX11_failing_30 : decode cX11_failing 30 = .ok (.aload_n 0, 1) := by decide +kernel
theorem dX11_failing_31 : decode cX11_failing 31 = .ok (.getfield 68, 3) := by decide +kernel
theorem dX11_failing_34 : decode cX11_failing 34 = .ok (.iload_n 1, 1) := by decide +kernel
theorem dX11_failing_35 : decode cX11_failing 35 = .ok (.iaload, 1) := by decide +kernel
theorem dX11_failing_36 : decode cX11_failing 36 = .ok (.goto 4, 3) := by decide +kernel
theorem dX11_failing_39 : decode cX11_failing 39 = .ok (.iconst (-1), 1) := by decide +kernel
theorem dX11_failing_40 : decode cX11_failing 40 = .ok (.ireturn, 1) := by decide +kernel
theorem dX11_hurts_0 : decode cX11_hurts 0 = .ok (.aload_n 0, 1) := by decide +kernel
theorem dX11_hurts_1 : decode cX11_hurts 1 = .ok (.iload_n 1, 1) := by decide +kernel
theorem dX11_hurts_2 : decode cX11_hurts 2 = .ok (.invokevirtual 116, 3) := by decide +kernel
theorem dX11_hurts_5 : decode cX11_hurts 5 = .ok (.ifCond .ne 5, 3) := by decide +kernel
theorem dX11_hurts_8 : decode cX11_hurts 8 = .ok (.iconst (-1), 1) := by decide +kernel
theorem dX11_hurts_9 : decode cX11_hurts 9 = .ok (.ireturn, 1) := by decide +kernel
theorem dX11_hurts_10 : decode cX11_hurts 10 = .ok (.aload_n 0, 1) := by decide +kernel
theorem dX11_hurts_11 : decode cX11_hurts 11 = .ok (.aload_n 0, 1) := by decide +kernel
theorem dX11_hurts_12 : decode cX11_hurts 12 = .ok (.getfield 20, 3) := by decide +kernel
theorem dX11_hurts_15 : decode cX11_hurts 15 = .ok (.sipush 306, 3) := by decide +kernel
theorem dX11_hurts_18 : decode cX11_hurts 18 = .ok (.iaload, 1) := by decide +kernel
theorem dX11_hurts_19 : decode cX11_hurts 19 = .ok (.iconst 1, 1) := by decide +kernel
theorem dX11_hurts_20 : decode cX11_hurts 20 = .ok (.iload_n 1, 1) := by decide +kernel
theorem dX11_hurts_21 : decode cX11_hurts 21 = .ok (.ishl, 1) := by decide +kernel
theorem dX11_hurts_22 : decode cX11_hurts 22 = .ok (.ior, 1) := by decide +kernel
theorem dX11_hurts_23 : decode cX11_hurts 23 = .ok (.invokevirtual 285, 3) := by decide +kernel
theorem dX11_hurts_26 : decode cX11_hurts 26 = .ok (.aload_n 0, 1) := by decide +kernel
theorem dX11_hurts_27 : decode cX11_hurts 27 = .ok (.getfield 55, 3) := by decide +kernel
theorem dX11_hurts_30 : decode cX11_hurts 30 = .ok (.iconst 0, 1) := by decide +kernel
theorem dX11_hurts_31 : decode cX11_hurts 31 = .ok (.iaload, 1) := by decide +kernel
theorem dX11_hurts_32 : decode cX11_hurts 32 = .ok (.istore_n 2, 1) := by decide +kernel
theorem dX11_hurts_33 : decode cX11_hurts 33 = .ok (.aload_n 0, 1) := by decide +kernel
theorem dX11_hurts_34 : decode cX11_hurts 34 = .ok (.iconst (-1), 1) := by decide +kernel
theorem dX11_hurts_35 : decode cX11_hurts 35 = .ok (.putfield 62, 3) := by decide +kernel
theorem dX11_hurts_38 : decode cX11_hurts 38 = .ok (.iload_n 2, 1) := by decide +kernel
theorem dX11_hurts_39 : decode cX11_hurts 39 = .ok (.ireturn, 1) := by decide +kernel
theorem dX11_areCodes_0 : decode cX11_areCodes 0 = .ok (.iload_n 0, 1) := by decide +kernel
theorem dX11_areCodes_1 : decode cX11_areCodes 1 = .ok (.iconst 1, 1) := by decide +kernel
theorem dX11_areCodes_2 : decode cX11_areCodes 2 = .ok (.iconst 3, 1) := by decide +kernel
theorem dX11_areCodes_3 : decode cX11_areCodes 3 = .ok (.invokestatic 101, 3) := by decide +kernel
theorem dX11_areCodes_6 : decode cX11_areCodes 6 = .ok (.ifCond .eq 26, 3) := by decide +kernel
theorem dX11_areCodes_9 : decode cX11_areCodes 9 = .ok (.iload_n 1, 1) := by decide +kernel
theorem dX11_areCodes_10 : decode cX11_areCodes 10 = .ok (.iconst 2, 1) := by decide +kernel
theorem dX11_areCodes_11 : decode cX11_areCodes 11 = .ok (.iconst 4, 1) := by decide +kernel
theorem dX11_areCodes_12 : decode cX11_areCodes 12 = .ok (.invokestatic 101, 3) := by decide +kernel
theorem dX11_areCodes_15 : decode cX11_areCodes 15 = .ok (.ifCond .eq 17, 3) := by decide +kernel
theorem dX11_areCodes_18 : decode cX11_areCodes 18 = .ok (.iload_n 2, 1) := by decide +kernel
theorem dX11_areCodes_19 : decode cX11_areCodes 19 = .ok (.iconst 0, 1) := by decide +kernel
theorem dX11_areCodes_20 : decode cX11_areCodes 20 = .ok (.bipush 8, 2) := by decide +kernel
theorem dX11_areCodes_22 : decode cX11_areCodes 22 = .ok (.invokestatic 101, 3) := by decide +kernel
theorem dX11_areCodes_25 : decode cX11_areCodes 25 = .ok (.ifCond .eq 7, 3) := by decide +kernel
theorem dX11_areCodes_28 : decode cX11_areCodes 28 = .ok (.iconst 1, 1) := by decide +kernel
theorem dX11_areCodes_29 : decode cX11_areCodes 29 = .ok (.goto 4, 3) := by decide +kernel
theorem dX11_areCodes_32 : decode cX11_areCodes 32 = .ok (.iconst 0, 1) := by decide +kernel
theorem dX11_areCodes_33 : decode cX11_areCodes 33 = .ok (.ireturn, 1) := by decide +kernel
theorem dX11_codes0_0 : decode cX11_codes0 0 = .ok (.iconst 0, 1) := by decide +kernel
theorem dX11_codes0_1 : decode cX11_codes0 1 = .ok (.istore 4, 2) := by decide +kernel
theorem dX11_codes0_3 : decode cX11_codes0 3 = .ok (.iload 4, 2) := by decide +kernel
theorem dX11_codes0_5 : decode cX11_codes0 5 = .ok (.sipush 256, 3) := by decide +kernel
theorem dX11_codes0_8 : decode cX11_codes0 8 = .ok (.if_icmp .ge 22, 3) := by decide +kernel
theorem dX11_codes0_11 : decode cX11_codes0 11 = .ok (.aload_n 0, 1) := by decide +kernel
theorem dX11_codes0_12 : decode cX11_codes0 12 = .ok (.getfield 71, 3) := by decide +kernel
theorem dX11_codes0_15 : decode cX11_codes0 15 = .ok (.iload 4, 2) := by decide +kernel
theorem dX11_codes0_17 : decode cX11_codes0 17 = .ok (.aload_n 0, 1) := by decide +kernel
theorem dX11_codes0_18 : decode cX11_codes0 18 = .ok (.iload 4, 2) := by decide +kernel
theorem dX11_codes0_20 : decode cX11_codes0 20 = .ok (.invokevirtual 126, 3) := by decide +kernel
theorem dX11_codes0_23 : decode cX11_codes0 23 = .ok (.iastore, 1) := by decide +kernel
theorem dX11_codes0_24 : decode cX11_codes0 24 = .ok (.iinc 4 1, 3) := by decide +kernel
theorem dX11_codes0_27 : decode cX11_codes0 27 = .ok (.goto (-24), 3) := by decide +kernel
theorem dX11_codes0_30 : decode cX11_codes0 30 = .ok (.aload_n 0, 1) := by decide +kernel
theorem dX11_codes0_31 : decode cX11_codes0 31 = .ok (.getfield 20, 3) := by decide +kernel
theorem dX11_codes0_34 : decode cX11_codes0 34 = .ok (.sipush 304, 3) := by decide +kernel
theorem dX11_codes0_37 : decode cX11_codes0 37 = .ok (.iaload, 1) := by decide +kernel
theorem dX11_codes0_38 : decode cX11_codes0 38 = .ok (.istore 4, 2) := by decide +kernel
theorem dX11_codes0_40 : decode cX11_codes0 40 = .ok (.aload_n 0, 1) := by decide +kernel
theorem dX11_codes0_41 : decode cX11_codes0 41 = .ok (.getfield 20, 3) := by decide +kernel
theorem dX11_codes0_44 : decode cX11_codes0 44 = .ok (.sipush 305, 3) := by decide +kernel
theorem dX11_codes0_47 : decode cX11_codes0 47 = .ok (.iaload, 1) := by decide +kernel
theorem dX11_codes0_48 : decode cX11_codes0 48 = .ok (.istore 5, 2) := by decide +kernel
theorem dX11_codes0_50 : decode cX11_codes0 50 = .ok (.aload_n 0, 1) := by decide +kernel
theorem dX11_codes0_51 : decode cX11_codes0 51 = .ok (.getfield 20, 3) := by decide +kernel
theorem dX11_codes0_54 : decode cX11_codes0 54 = .ok (.sipush 304, 3) := by decide +kernel
theorem dX11_codes0_57 : decode cX11_codes0 57 = .ok (.iload_n 1, 1) := by decide +kernel
theorem dX11_codes0_58 : decode cX11_codes0 58 = .ok (.iastore, 1) := by decide +kernel
theorem dX11_codes0_59 : decode cX11_codes0 59 = .ok (.aload_n 0, 1) := by decide +kernel
theorem dX11_codes0_60 : decode cX11_codes0 60 = .ok (.getfield 20, 3) := by decide +kernel
theorem dX11_codes0_63 : decode cX11_codes0 63 = .ok (.sipush 305, 3) := by decide +kernel
theorem dX11_codes0_66 : decode cX11_codes0 66 = .ok (.iload_n 2, 1) := by decide +kernel
theorem dX11_codes0_67 : decode cX11_codes0 67 = .ok (.iastore, 1) := by decide +kernel
theorem dX11_codes0_68 : decode cX11_codes0 68 = .ok (.iconst 1, 1) := by decide +kernel
theorem dX11_codes0_69 : decode cX11_codes0 69 = .ok (.istore 6, 2) := by decide +kernel
theorem dX11_codes0_71 : decode cX11_codes0 71 = .ok (.iconst 0, 1) := by decide +kernel
theorem dX11_codes0_72 : decode cX11_codes0 72 = .ok (.istore 7, 2) := by decide +kernel
theorem dX11_codes0_74 : decode cX11_codes0 74 = .ok (.iload 7, 2) := by decide +kernel
theorem dX11_codes0_76 : decode cX11_codes0 76 = .ok (.aload_n 0, 1) := by decide +kernel
theorem dX11_codes0_77 : decode cX11_codes0 77 = .ok (.invokevirtual 112, 3) := by decide +kernel
theorem dX11_codes0_80 : decode cX11_codes0 80 = .ok (.if_icmp .ge 15, 3) := by decide +kernel
theorem dX11_codes0_83 : decode cX11_codes0 83 = .ok (.iload 6, 2) := by decide +kernel
theorem dX11_codes0_85 : decode cX11_codes0 85 = .ok (.iload_n 2, 1) := by decide +kernel
theorem dX11_codes0_86 : decode cX11_codes0 86 = .ok (.imul, 1) := by decide +kernel
theorem dX11_codes0_87 : decode cX11_codes0 87 = .ok (.istore 6, 2) := by decide +kernel
theorem dX11_codes0_89 : decode cX11_codes0 89 = .ok (.iinc 7 1, 3) := by decide +kernel
theorem dX11_codes0_92 : decode cX11_codes0 92 = .ok (.goto (-18), 3) := by decide +kernel
theorem dX11_codes0_95 : decode cX11_codes0 95 = .ok (.aload_n 0, 1) := by decide +kernel
theorem dX11_codes0_96 : decode cX11_codes0 96 = .ok (.iconst 0, 1) := by decide +kernel
theorem dX11_codes0_97 : decode cX11_codes0 97 = .ok (.putfield 324, 3) := by decide +kernel
theorem dX11_codes0_100 : decode cX11_codes0 100 = .ok (.iconst 0, 1) := by decide +kernel
theorem dX11_codes0_101 : decode cX11_codes0 101 = .ok (.istore 7, 2) := by decide +kernel
theorem dX11_codes0_103 : decode cX11_codes0 103 = .ok (.iload 7, 2) := by decide +kernel
theorem dX11_codes0_105 : decode cX11_codes0 105 = .ok (.iload 6, 2) := by decide +kernel
theorem dX11_codes0_107 : decode cX11_codes0 107 = .ok (.if_icmp .ge 117, 3) := by decide +kernel
theorem dX11_codes0_110 : decode cX11_codes0 110 = .ok (.iload 7, 2) := by decide +kernel
theorem dX11_codes0_112 : decode cX11_codes0 112 = .ok (.istore 8, 2) := by decide +kernel
theorem dX11_codes0_114 : decode cX11_codes0 114 = .ok (.aload_n 0, 1) := by decide +kernel
theorem dX11_codes0_115 : decode cX11_codes0 115 = .ok (.invokevirtual 112, 3) := by decide +kernel
theorem dX11_codes0_118 : decode cX11_codes0 118 = .ok (.iconst 1, 1) := by decide +kernel
theorem dX11_codes0_119 : decode cX11_codes0 119 = .ok (.isub, 1) := by decide +kernel
theorem dX11_codes0_120 : decode cX11_codes0 120 = .ok (.istore 9, 2) := by decide +kernel
theorem dX11_codes0_122 : decode cX11_codes0 122 = .ok (.iload 9, 2) := by decide +kernel
theorem dX11_codes0_124 : decode cX11_codes0 124 = .ok (.ifCond .lt 28, 3) := by decide +kernel
theorem dX11_codes0_127 : decode cX11_codes0 127 = .ok (.aload_n 0, 1) := by decide +kernel
theorem dX11_codes0_128 : decode cX11_codes0 128 = .ok (.getfield 20, 3) := by decide +kernel
theorem dX11_codes0_131 : decode cX11_codes0 131 = .ok (.iconst 0, 1) := by decide +kernel
theorem dX11_codes0_132 : decode cX11_codes0 132 = .ok (.iload 9, 2) := by decide +kernel
theorem dX11_codes0_134 : decode cX11_codes0 134 = .ok (.iadd, 1) := by decide +kernel
theorem dX11_codes0_135 : decode cX11_codes0 135 = .ok (.iload 8, 2) := by decide +kernel
theorem dX11_codes0_137 : decode cX11_codes0 137 = .ok (.iload_n 2, 1) := by decide +kernel
theorem dX11_codes0_138 : decode cX11_codes0 138 = .ok (.irem, 1) := by decide +kernel
theorem dX11_codes0_139 : decode cX11_codes0 139 = .ok (.iastore, 1) := by decide +kernel
theorem dX11_codes0_140 : decode cX11_codes0 140 = .ok (.iload 8, 2) := by decide +kernel
theorem dX11_codes0_142 : decode cX11_codes0 142 = .ok (.iload_n 2, 1) := by decide +kernel
theorem dX11_codes0_143 : decode cX11_codes0 143 = .ok (.idiv, 1) := by decide +kernel
theorem dX11_codes0_144 : decode cX11_codes0 144 = .ok (.istore 8, 2) := by decide +kernel
theorem dX11_codes0_146 : decode cX11_codes0 146 = .ok (.iinc 9 (-1), 3) := by decide +kernel
theorem dX11_codes0_149 : decode cX11_codes0 149 = .ok (.goto (-27), 3) := by decide +kernel
theorem dX11_codes0_152 : decode cX11_codes0 152 = .ok (.aload_n 0, 1) := by decide +kernel
theorem dX11_codes0_153 : decode cX11_codes0 153 = .ok (.iconst 0, 1) := by decide +kernel
theorem dX11_codes0_154 : decode cX11_codes0 154 = .ok (.invokevirtual 285, 3) := by decide +kernel
theorem dX11_codes0_157 : decode cX11_codes0 157 = .ok (.aload_n 0, 1) := by decide +kernel
theorem dX11_codes0_158 : decode cX11_codes0 158 = .ok (.getfield 55, 3) := by decide +kernel
theorem dX11_codes0_161 : decode cX11_codes0 161 = .ok (.iconst 0, 1) := by decide +kernel
theorem dX11_codes0_162 : decode cX11_codes0 162 = .ok (.iaload, 1) := by decide +kernel
theorem dX11_codes0_163 : decode cX11_codes0 163 = .ok (.iload_n 3, 1) := by decide +kernel
theorem dX11_codes0_164 : decode cX11_codes0 164 = .ok (.if_icmp .ge 6, 3) := by decide +kernel
theorem dX11_codes0_167 : decode cX11_codes0 167 = .ok (.goto 51, 3) := by decide +kernel
theorem dX11_codes0_170 : decode cX11_codes0 170 = .ok (.aload_n 0, 1) := by decide +kernel
theorem dX11_codes0_171 : decode cX11_codes0 171 = .ok (.getfield 324, 3) := by decide +kernel
theorem dX11_codes0_174 : decode cX11_codes0 174 = .ok (.ifCond .ne 34, 3) := by decide +kernel
theorem dX11_codes0_177 : decode cX11_codes0 177 = .ok (.iconst 0, 1) := by decide +kernel
theorem dX11_codes0_178 : decode cX11_codes0 178 = .ok (.istore 9, 2) := by decide +kernel
theorem dX11_codes0_180 : decode cX11_codes0 180 = .ok (.iload 9, 2) := by decide +kernel
theorem dX11_codes0_182 : decode cX11_codes0 182 = .ok (.aload_n 0, 1) := by decide +kernel
theorem dX11_codes0_183 : decode cX11_codes0 183 = .ok (.invokevirtual 112, 3) := by decide +kernel
theorem dX11_codes0_186 : decode cX11_codes0 186 = .ok (.if_icmp .ge 22, 3) := by decide +kernel
theorem dX11_codes0_189 : decode cX11_codes0 189 = .ok (.aload_n 0, 1) := by decide +kernel
theorem dX11_codes0_190 : decode cX11_codes0 190 = .ok (.getfield 74, 3) := by decide +kernel
theorem dX11_codes0_193 : decode cX11_codes0 193 = .ok (.iload 9, 2) := by decide +kernel
theorem dX11_codes0_195 : decode cX11_codes0 195 = .ok (.aload_n 0, 1) := by decide +kernel
theorem dX11_codes0_196 : decode cX11_codes0 196 = .ok (.iload 9, 2) := by decide +kernel
theorem dX11_codes0_198 : decode cX11_codes0 198 = .ok (.invokevirtual 126, 3) := by decide +kernel
theorem dX11_codes0_201 : decode cX11_codes0 201 = .ok (.iastore, 1) := by decide +kernel
theorem dX11_codes0_202 : decode cX11_codes0 202 = .ok (.iinc 9 1, 3) := by decide +kernel
theorem dX11_codes0_205 : decode cX11_codes0 205 = .ok (.goto (-25), 3) := by decide +kernel
theorem dX11_codes0_208 : decode cX11_codes0 208 = .ok (.aload_n 0, 1) := by decide +kernel
theorem dX11_codes0_209 : decode cX11_codes0 209 = .ok (.dup, 1) := by decide +kernel
theorem dX11_codes0_210 : decode cX11_codes0 210 = .ok (.getfield 324, 3) := by decide +kernel
theorem dX11_codes0_213 : decode cX11_codes0 213 = .ok (.iconst 1, 1) := by decide +kernel
theorem dX11_codes0_214 : decode cX11_codes0 214 = .ok (.iadd, 1) := by decide +kernel
theorem dX11_codes0_215 : decode cX11_codes0 215 = .ok (.putfield 324, 3) := by decide +kernel
theorem dX11_codes0_218 : decode cX11_codes0 218 = .ok (.iinc 7 1, 3) := by decide +kernel
theorem dX11_codes0_221 : decode cX11_codes0 221 = .ok (.goto (-118), 3) := by decide +kernel
theorem dX11_codes0_224 : decode cX11_codes0 224 = .ok (.aload_n 0, 1) := by decide +kernel
theorem dX11_codes0_225 : decode cX11_codes0 225 = .ok (.getfield 20, 3) := by decide +kernel
theorem dX11_codes0_228 : decode cX11_codes0 228 = .ok (.sipush 304, 3) := by decide +kernel
theorem dX11_codes0_231 : decode cX11_codes0 231 = .ok (.iload 4, 2) := by decide +kernel
theorem dX11_codes0_233 : decode cX11_codes0 233 = .ok (.iastore, 1) := by decide +kernel
theorem dX11_codes0_234 : decode cX11_codes0 234 = .ok (.aload_n 0, 1) := by decide +kernel
theorem dX11_codes0_235 : decode cX11_codes0 235 = .ok (.getfield 20, 3) := by decide +kernel
theorem dX11_codes0_238 : decode cX11_codes0 238 = .ok (.sipush 305, 3) := by decide +kernel
theorem dX11_codes0_241 : decode cX11_codes0 241 = .ok (.iload 5, 2) := by decide +kernel
theorem dX11_codes0_243 : decode cX11_codes0 243 = .ok (.iastore, 1) := by decide +kernel
theorem dX11_codes0_244 : decode cX11_codes0 244 = .ok (.iconst 0, 1) := by decide +kernel
theorem dX11_codes0_245 : decode cX11_codes0 245 = .ok (.istore 7, 2) := by decide +kernel
theorem dX11_codes0_247 : decode cX11_codes0 247 = .ok (.iload 7, 2) := by decide +kernel
theorem dX11_codes0_249 : decode cX11_codes0 249 = .ok (.sipush 256, 3) := by decide +kernel
theorem dX11_codes0_252 : decode cX11_codes0 252 = .ok (.if_icmp .ge 25, 3) := by decide +kernel
theorem dX11_codes0_255 : decode cX11_codes0 255 = .ok (.aload_n 0, 1) := by decide +kernel
theorem dX11_codes0_256 : decode cX11_codes0 256 = .ok (.getfield 20, 3) := by decide +kernel
theorem dX11_codes0_259 : decode cX11_codes0 259 = .ok (.iconst 0, 1) := by decide +kernel
theorem dX11_codes0_260 : decode cX11_codes0 260 = .ok (.iload 7, 2) := by decide +kernel
theorem dX11_codes0_262 : decode cX11_codes0 262 = .ok (.iadd, 1) := by decide +kernel
theorem dX11_codes0_263 : decode cX11_codes0 263 = .ok (.aload_n 0, 1) := by decide +kernel
theorem dX11_codes0_264 : decode cX11_codes0 264 = .ok (.getfield 71, 3) := by decide +kernel
theorem dX11_codes0_267 : decode cX11_codes0 267 = .ok (.iload 7, 2) := by decide +kernel
theorem dX11_codes0_269 : decode cX11_codes0 269 = .ok (.iaload, 1) := by decide +kernel
theorem dX11_codes0_270 : decode cX11_codes0 270 = .ok (.iastore, 1) := by decide +kernel
theorem dX11_codes0_271 : decode cX11_codes0 271 = .ok (.iinc 7 1, 3) := by decide +kernel
theorem dX11_codes0_274 : decode cX11_codes0 274 = .ok (.goto (-27), 3) := by decide +kernel
theorem dX11_codes0_277 : decode cX11_codes0 277 = .ok (.aload_n 0, 1) := by decide +kernel
theorem dX11_codes0_278 : decode cX11_codes0 278 = .ok (.iconst (-1), 1) := by decide +kernel
theorem dX11_codes0_279 : decode cX11_codes0 279 = .ok (.putfield 62, 3) := by decide +kernel
theorem dX11_codes0_282 : decode cX11_codes0 282 = .ok (.return_, 1) := by decide +kernel
theorem dX11_codes_0 : decode cX11_codes 0 = .ok (.iload_n 1, 1) := by decide +kernel
theorem dX11_codes_1 : decode cX11_codes 1 = .ok (.iload_n 2, 1) := by decide +kernel
theorem dX11_codes_2 : decode cX11_codes 2 = .ok (.iload_n 3, 1) := by decide +kernel
theorem dX11_codes_3 : decode cX11_codes 3 = .ok (.invokestatic 327, 3) := by decide +kernel
theorem dX11_codes_6 : decode cX11_codes 6 = .ok (.ifCond .ne 5, 3) := by decide +kernel
theorem dX11_codes_9 : decode cX11_codes 9 = .ok (.iconst (-1), 1) := by decide +kernel
theorem dX11_codes_10 : decode cX11_codes 10 = .ok (.ireturn, 1) := by decide +kernel
theorem dX11_codes_11 : decode cX11_codes 11 = .ok (.aload_n 0, 1) := by decide +kernel
theorem dX11_codes_12 : decode cX11_codes 12 = .ok (.iload_n 1, 1) := by decide +kernel
theorem dX11_codes_13 : decode cX11_codes 13 = .ok (.iload_n 2, 1) := by decide +kernel
theorem dX11_codes_14 : decode cX11_codes 14 = .ok (.iload_n 3, 1) := by decide +kernel
theorem dX11_codes_15 : decode cX11_codes 15 = .ok (.invokevirtual 330, 3) := by decide +kernel
theorem dX11_codes_18 : decode cX11_codes 18 = .ok (.aload_n 0, 1) := by decide +kernel
theorem dX11_codes_19 : decode cX11_codes 19 = .ok (.getfield 324, 3) := by decide +kernel
theorem dX11_codes_22 : decode cX11_codes 22 = .ok (.ireturn, 1) := by decide +kernel
theorem dX11_make_0 : decode cX11_make 0 = .ok (.iload_n 1, 1) := by decide +kernel
theorem dX11_make_1 : decode cX11_make 1 = .ok (.iload_n 2, 1) := by decide +kernel
theorem dX11_make_2 : decode cX11_make 2 = .ok (.iload_n 3, 1) := by decide +kernel
theorem dX11_make_3 : decode cX11_make 3 = .ok (.invokestatic 327, 3) := by decide +kernel
theorem dX11_make_6 : decode cX11_make 6 = .ok (.ifCond .ne 9, 3) := by decide +kernel
theorem dX11_make_9 : decode cX11_make 9 = .ok (.aload_n 0, 1) := by decide +kernel
theorem dX11_make_10 : decode cX11_make 10 = .ok (.iconst (-1), 1) := by decide +kernel
theorem dX11_make_11 : decode cX11_make 11 = .ok (.invokevirtual 105, 3) := by decide +kernel
theorem dX11_make_14 : decode cX11_make 14 = .ok (.ireturn, 1) := by decide +kernel
theorem dX11_make_15 : decode cX11_make 15 = .ok (.iload_n 1, 1) := by decide +kernel
theorem dX11_make_16 : decode cX11_make 16 = .ok (.aload_n 0, 1) := by decide +kernel
theorem dX11_make_17 : decode cX11_make 17 = .ok (.getfield 20, 3) := by decide +kernel
theorem dX11_make_20 : decode cX11_make 20 = .ok (.sipush 304, 3) := by decide +kernel
theorem dX11_make_23 : decode cX11_make 23 = .ok (.iaload, 1) := by decide +kernel
theorem dX11_make_24 : decode cX11_make 24 = .ok (.if_icmp .ne 15, 3) := by decide +kernel
theorem dX11_make_27 : decode cX11_make 27 = .ok (.iload_n 2, 1) := by decide +kernel
theorem dX11_make_28 : decode cX11_make 28 = .ok (.aload_n 0, 1) := by decide +kernel
theorem dX11_make_29 : decode cX11_make 29 = .ok (.getfield 20, 3) := by decide +kernel
theorem dX11_make_32 : decode cX11_make 32 = .ok (.sipush 305, 3) := by decide +kernel
theorem dX11_make_35 : decode cX11_make 35 = .ok (.iaload, 1) := by decide +kernel
theorem dX11_make_36 : decode cX11_make 36 = .ok (.if_icmp .eq 10, 3) := by decide +kernel
theorem dX11_make_39 : decode cX11_make 39 = .ok (.aload_n 0, 1) := by decide +kernel
theorem dX11_make_40 : decode cX11_make 40 = .ok (.bipush (-3), 2) := by decide +kernel
theorem dX11_make_42 : decode cX11_make 42 = .ok (.invokevirtual 105, 3) := by decide +kernel
theorem dX11_make_45 : decode cX11_make 45 = .ok (.ireturn, 1) := by decide +kernel
theorem dX11_make_46 : decode cX11_make 46 = .ok (.aload_n 0, 1) := by decide +kernel
theorem dX11_make_47 : decode cX11_make 47 = .ok (.iload_n 1, 1) := by decide +kernel
theorem dX11_make_48 : decode cX11_make 48 = .ok (.iload_n 2, 1) := by decide +kernel
theorem dX11_make_49 : decode cX11_make 49 = .ok (.iload_n 3, 1) := by decide +kernel
theorem dX11_make_50 : decode cX11_make 50 = .ok (.invokevirtual 330, 3) := by decide +kernel
theorem dX11_make_53 : decode cX11_make 53 = .ok (.aload_n 0, 1) := by decide +kernel
theorem dX11_make_54 : decode cX11_make 54 = .ok (.getfield 324, 3) := by decide +kernel
theorem dX11_make_57 : decode cX11_make 57 = .ok (.ifCond .ne 10, 3) := by decide +kernel
theorem dX11_make_60 : decode cX11_make 60 = .ok (.aload_n 0, 1) := by decide +kernel
theorem dX11_make_61 : decode cX11_make 61 = .ok (.bipush (-3), 2) := by decide +kernel
theorem dX11_make_63 : decode cX11_make 63 = .ok (.invokevirtual 105, 3) := by decide +kernel
theorem dX11_make_66 : decode cX11_make 66 = .ok (.ireturn, 1) := by decide +kernel
theorem dX11_make_67 : decode cX11_make 67 = .ok (.iconst 0, 1) := by decide +kernel
theorem dX11_make_68 : decode cX11_make 68 = .ok (.istore 4, 2) := by decide +kernel
theorem dX11_make_70 : decode cX11_make 70 = .ok (.iload 4, 2) := by decide +kernel
theorem dX11_make_72 : decode cX11_make 72 = .ok (.aload_n 0, 1) := by decide +kernel
theorem dX11_make_73 : decode cX11_make 73 = .ok (.invokevirtual 112, 3) := by decide +kernel
theorem dX11_make_76 : decode cX11_make 76 = .ok (.if_icmp .ge 25, 3) := by decide +kernel
theorem dX11_make_79 : decode cX11_make 79 = .ok (.aload_n 0, 1) := by decide +kernel
theorem dX11_make_80 : decode cX11_make 80 = .ok (.getfield 20, 3) := by decide +kernel
theorem dX11_make_83 : decode cX11_make 83 = .ok (.iconst 0, 1) := by decide +kernel
theorem dX11_make_84 : decode cX11_make 84 = .ok (.iload 4, 2) := by decide +kernel
theorem dX11_make_86 : decode cX11_make 86 = .ok (.iadd, 1) := by decide +kernel
theorem dX11_make_87 : decode cX11_make 87 = .ok (.aload_n 0, 1) := by decide +kernel
theorem dX11_make_88 : decode cX11_make 88 = .ok (.getfield 74, 3) := by decide +kernel
theorem dX11_make_91 : decode cX11_make 91 = .ok (.iload 4, 2) := by decide +kernel
theorem dX11_make_93 : decode cX11_make 93 = .ok (.iaload, 1) := by decide +kernel
theorem dX11_make_94 : decode cX11_make 94 = .ok (.iastore, 1) := by decide +kernel
theorem dX11_make_95 : decode cX11_make 95 = .ok (.iinc 4 1, 3) := by decide +kernel
theorem dX11_make_98 : decode cX11_make 98 = .ok (.goto (-28), 3) := by decide +kernel
theorem dX11_make_101 : decode cX11_make 101 = .ok (.aload_n 0, 1) := by decide +kernel
theorem dX11_make_102 : decode cX11_make 102 = .ok (.iconst 0, 1) := by decide +kernel
theorem dX11_make_103 : decode cX11_make 103 = .ok (.invokevirtual 109, 3) := by decide +kernel
theorem dX11_make_106 : decode cX11_make 106 = .ok (.ireturn, 1) := by decide +kernel
theorem dX11_send_0 : decode cX11_send 0 = .ok (.aload_n 0, 1) := by decide +kernel
theorem dX11_send_1 : decode cX11_send 1 = .ok (.iload_n 1, 1) := by decide +kernel
theorem dX11_send_2 : decode cX11_send 2 = .ok (.invokevirtual 123, 3) := by decide +kernel
theorem dX11_send_5 : decode cX11_send 5 = .ok (.ifCond .eq 10, 3) := by decide +kernel
theorem dX11_send_8 : decode cX11_send 8 = .ok (.iload_n 2, 1) := by decide +kernel
theorem dX11_send_9 : decode cX11_send 9 = .ok (.invokestatic 308, 3) := by decide +kernel
theorem dX11_send_12 : decode cX11_send 12 = .ok (.ifCond .ne 9, 3) := by decide +kernel
theorem dX11_send_15 : decode cX11_send 15 = .ok (.aload_n 0, 1) := by decide +kernel
theorem dX11_send_16 : decode cX11_send 16 = .ok (.iconst (-1), 1) := by decide +kernel
theorem dX11_send_17 : decode cX11_send 17 = .ok (.invokevirtual 105, 3) := by decide +kernel
theorem dX11_send_20 : decode cX11_send 20 = .ok (.ireturn, 1) := by decide +kernel
theorem dX11_send_21 : decode cX11_send 21 = .ok (.aload_n 0, 1) := by decide +kernel
theorem dX11_send_22 : decode cX11_send 22 = .ok (.invokevirtual 294, 3) := by decide +kernel
theorem dX11_send_25 : decode cX11_send 25 = .ok (.aload_n 0, 1) := by decide +kernel
theorem dX11_send_26 : decode cX11_send 26 = .ok (.aload_n 0, 1) := by decide +kernel
theorem dX11_send_27 : decode cX11_send 27 = .ok (.getfield 20, 3) := by decide +kernel
theorem dX11_send_30 : decode cX11_send 30 = .ok (.sipush 307, 3) := by decide +kernel
theorem dX11_send_33 : decode cX11_send 33 = .ok (.iaload, 1) := by decide +kernel
theorem dX11_send_34 : decode cX11_send 34 = .ok (.iload_n 1, 1) := by decide +kernel
theorem dX11_send_35 : decode cX11_send 35 = .ok (.iload_n 2, 1) := by decide +kernel
theorem dX11_send_36 : decode cX11_send 36 = .ok (.invokevirtual 311, 3) := by decide +kernel
theorem dX11_send_39 : decode cX11_send 39 = .ok (.istore_n 3, 1) := by decide +kernel
theorem dX11_send_40 : decode cX11_send 40 = .ok (.iload_n 3, 1) := by decide +kernel
theorem dX11_send_41 : decode cX11_send 41 = .ok (.iconst (-1), 1) := by decide +kernel
theorem dX11_send_42 : decode cX11_send 42 = .ok (.if_icmp .ne 10, 3) := by decide +kernel
theorem dX11_send_45 : decode cX11_send 45 = .ok (.aload_n 0, 1) := by decide +kernel
theorem dX11_send_46 : decode cX11_send 46 = .ok (.bipush (-3), 2) := by decide +kernel
theorem dX11_send_48 : decode cX11_send 48 = .ok (.invokevirtual 105, 3) := by decide +kernel
theorem dX11_send_51 : decode cX11_send 51 = .ok (.ireturn, 1) := by decide +kernel
theorem dX11_send_52 : decode cX11_send 52 = .ok (.aload_n 0, 1) := by decide +kernel
theorem dX11_send_53 : decode cX11_send 53 = .ok (.getfield 20, 3) := by decide +kernel
theorem dX11_send_56 : decode cX11_send 56 = .ok (.sipush 308, 3) := by decide +kernel
theorem dX11_send_59 : decode cX11_send 59 = .ok (.iaload, 1) := by decide +kernel
theorem dX11_send_60 : decode cX11_send 60 = .ok (.bipush 24, 2) := by decide +kernel
theorem dX11_send_62 : decode cX11_send 62 = .ok (.if_icmp .ne 10, 3) := by decide +kernel
theorem dX11_send_65 : decode cX11_send 65 = .ok (.aload_n 0, 1) := by decide +kernel
theorem dX11_send_66 : decode cX11_send 66 = .ok (.bipush (-5), 2) := by decide +kernel
theorem dX11_send_68 : decode cX11_send 68 = .ok (.invokevirtual 105, 3) := by decide +kernel
theorem dX11_send_71 : decode cX11_send 71 = .ok (.ireturn, 1) := by decide +kernel
theorem dX11_send_72 : decode cX11_send 72 = .ok (.iload_n 3, 1) := by decide +kernel
theorem dX11_send_73 : decode cX11_send 73 = .ok (.invokestatic 259, 3) := by decide +kernel
theorem dX11_send_76 : decode cX11_send 76 = .ok (.aload_n 0, 1) := by decide +kernel
theorem dX11_send_77 : decode cX11_send 77 = .ok (.getfield 20, 3) := by decide +kernel
theorem dX11_send_80 : decode cX11_send 80 = .ok (.sipush 307, 3) := by decide +kernel
theorem dX11_send_83 : decode cX11_send 83 = .ok (.iaload, 1) := by decide +kernel
theorem dX11_send_84 : decode cX11_send 84 = .ok (.invokestatic 259, 3) := by decide +kernel
theorem dX11_send_87 : decode cX11_send 87 = .ok (.isub, 1) := by decide +kernel
theorem dX11_send_88 : decode cX11_send 88 = .ok (.istore 4, 2) := by decide +kernel
theorem dX11_send_90 : decode cX11_send 90 = .ok (.aload_n 0, 1) := by decide +kernel
theorem dX11_send_91 : decode cX11_send 91 = .ok (.getfield 20, 3) := by decide +kernel
theorem dX11_send_94 : decode cX11_send 94 = .ok (.sipush 307, 3) := by decide +kernel
theorem dX11_send_97 : decode cX11_send 97 = .ok (.iload_n 3, 1) := by decide +kernel
theorem dX11_send_98 : decode cX11_send 98 = .ok (.iastore, 1) := by decide +kernel
theorem dX11_send_99 : decode cX11_send 99 = .ok (.aload_n 0, 1) := by decide +kernel
theorem dX11_send_100 : decode cX11_send 100 = .ok (.getfield 20, 3) := by decide +kernel
theorem dX11_send_103 : decode cX11_send 103 = .ok (.sipush 264, 3) := by decide +kernel
theorem dX11_send_106 : decode cX11_send 106 = .ok (.aload_n 0, 1) := by decide +kernel
theorem dX11_send_107 : decode cX11_send 107 = .ok (.getfield 20, 3) := by decide +kernel
theorem dX11_send_110 : decode cX11_send 110 = .ok (.sipush 308, 3) := by decide +kernel
theorem dX11_send_113 : decode cX11_send 113 = .ok (.iaload, 1) := by decide +kernel
theorem dX11_send_114 : decode cX11_send 114 = .ok (.iadd, 1) := by decide +kernel
theorem dX11_send_115 : decode cX11_send 115 = .ok (.iload_n 3, 1) := by decide +kernel
theorem dX11_send_116 : decode cX11_send 116 = .ok (.iastore, 1) := by decide +kernel
theorem dX11_send_117 : decode cX11_send 117 = .ok (.aload_n 0, 1) := by decide +kernel
theorem dX11_send_118 : decode cX11_send 118 = .ok (.getfield 20, 3) := by decide +kernel
theorem dX11_send_121 : decode cX11_send 121 = .ok (.sipush 308, 3) := by decide +kernel
theorem dX11_send_124 : decode cX11_send 124 = .ok (.dup2, 1) := by decide +kernel
theorem dX11_send_125 : decode cX11_send 125 = .ok (.iaload, 1) := by decide +kernel
theorem dX11_send_126 : decode cX11_send 126 = .ok (.iconst 1, 1) := by decide +kernel
theorem dX11_send_127 : decode cX11_send 127 = .ok (.iadd, 1) := by decide +kernel
theorem dX11_send_128 : decode cX11_send 128 = .ok (.iastore, 1) := by decide +kernel
theorem dX11_send_129 : decode cX11_send 129 = .ok (.aload_n 0, 1) := by decide +kernel
theorem dX11_send_130 : decode cX11_send 130 = .ok (.iload 4, 2) := by decide +kernel
theorem dX11_send_132 : decode cX11_send 132 = .ok (.invokevirtual 109, 3) := by decide +kernel
theorem dX11_send_135 : decode cX11_send 135 = .ok (.ireturn, 1) := by decide +kernel
theorem dX11_dawn_0 : decode cX11_dawn 0 = .ok (.aload_n 0, 1) := by decide +kernel
theorem dX11_dawn_1 : decode cX11_dawn 1 = .ok (.getfield 20, 3) := by decide +kernel
theorem dX11_dawn_4 : decode cX11_dawn 4 = .ok (.sipush 307, 3) := by decide +kernel
theorem dX11_dawn_7 : decode cX11_dawn 7 = .ok (.iaload, 1) := by decide +kernel
theorem dX11_dawn_8 : decode cX11_dawn 8 = .ok (.invokestatic 259, 3) := by decide +kernel
theorem dX11_dawn_11 : decode cX11_dawn 11 = .ok (.istore_n 1, 1) := by decide +kernel
theorem dX11_dawn_12 : decode cX11_dawn 12 = .ok (.aload_n 0, 1) := by decide +kernel
theorem dX11_dawn_13 : decode cX11_dawn 13 = .ok (.getfield 20, 3) := by decide +kernel
theorem dX11_dawn_16 : decode cX11_dawn 16 = .ok (.sipush 307, 3) := by decide +kernel
theorem dX11_dawn_19 : decode cX11_dawn 19 = .ok (.iconst 0, 1) := by decide +kernel
theorem dX11_dawn_20 : decode cX11_dawn 20 = .ok (.iastore, 1) := by decide +kernel
theorem dX11_dawn_21 : decode cX11_dawn 21 = .ok (.aload_n 0, 1) := by decide +kernel
theorem dX11_dawn_22 : decode cX11_dawn 22 = .ok (.getfield 20, 3) := by decide +kernel
theorem dX11_dawn_25 : decode cX11_dawn 25 = .ok (.sipush 308, 3) := by decide +kernel
theorem dX11_dawn_28 : decode cX11_dawn 28 = .ok (.iconst 0, 1) := by decide +kernel
theorem dX11_dawn_29 : decode cX11_dawn 29 = .ok (.iastore, 1) := by decide +kernel
theorem dX11_dawn_30 : decode cX11_dawn 30 = .ok (.aload_n 0, 1) := by decide +kernel
theorem dX11_dawn_31 : decode cX11_dawn 31 = .ok (.dup, 1) := by decide +kernel
theorem dX11_dawn_32 : decode cX11_dawn 32 = .ok (.getfield 11, 3) := by decide +kernel
theorem dX11_dawn_35 : decode cX11_dawn 35 = .ok (.iconst 1, 1) := by decide +kernel
theorem dX11_dawn_36 : decode cX11_dawn 36 = .ok (.iadd, 1) := by decide +kernel
theorem dX11_dawn_37 : decode cX11_dawn 37 = .ok (.putfield 11, 3) := by decide +kernel
theorem dX11_dawn_40 : decode cX11_dawn 40 = .ok (.iload_n 1, 1) := by decide +kernel
theorem dX11_dawn_41 : decode cX11_dawn 41 = .ok (.ireturn, 1) := by decide +kernel
theorem dX11_log_0 : decode cX11_log 0 = .ok (.iload_n 1, 1) := by decide +kernel
theorem dX11_log_1 : decode cX11_log 1 = .ok (.iconst (-1), 1) := by decide +kernel
theorem dX11_log_2 : decode cX11_log 2 = .ok (.if_icmp .ne 14, 3) := by decide +kernel
theorem dX11_log_5 : decode cX11_log 5 = .ok (.aload_n 0, 1) := by decide +kernel
theorem dX11_log_6 : decode cX11_log 6 = .ok (.getfield 20, 3) := by decide +kernel
theorem dX11_log_9 : decode cX11_log 9 = .ok (.sipush 307, 3) := by decide +kernel
theorem dX11_log_12 : decode cX11_log 12 = .ok (.iaload, 1) := by decide +kernel
theorem dX11_log_13 : decode cX11_log 13 = .ok (.goto 35, 3) := by decide +kernel
theorem dX11_log_16 : decode cX11_log 16 = .ok (.iload_n 1, 1) := by decide +kernel
theorem dX11_log_17 : decode cX11_log 17 = .ok (.iconst 0, 1) := by decide +kernel
theorem dX11_log_18 : decode cX11_log 18 = .ok (.aload_n 0, 1) := by decide +kernel
theorem dX11_log_19 : decode cX11_log 19 = .ok (.getfield 20, 3) := by decide +kernel
theorem dX11_log_22 : decode cX11_log 22 = .ok (.sipush 308, 3) := by decide +kernel
theorem dX11_log_25 : decode cX11_log 25 = .ok (.iaload, 1) := by decide +kernel
theorem dX11_log_26 : decode cX11_log 26 = .ok (.iconst 1, 1) := by decide +kernel
theorem dX11_log_27 : decode cX11_log 27 = .ok (.isub, 1) := by decide +kernel
theorem dX11_log_28 : decode cX11_log 28 = .ok (.invokestatic 101, 3) := by decide +kernel
theorem dX11_log_31 : decode cX11_log 31 = .ok (.ifCond .eq 16, 3) := by decide +kernel
theorem dX11_log_34 : decode cX11_log 34 = .ok (.aload_n 0, 1) := by decide +kernel
theorem dX11_log_35 : decode cX11_log 35 = .ok (.getfield 20, 3) := by decide +kernel
theorem dX11_log_38 : decode cX11_log 38 = .ok (.sipush 264, 3) := by decide +kernel
theorem dX11_log_41 : decode cX11_log 41 = .ok (.iload_n 1, 1) := by decide +kernel
theorem dX11_log_42 : decode cX11_log 42 = .ok (.iadd, 1) := by decide +kernel
theorem dX11_log_43 : decode cX11_log 43 = .ok (.iaload, 1) := by decide +kernel
theorem dX11_log_44 : decode cX11_log 44 = .ok (.goto 4, 3) := by decide +kernel
theorem dX11_log_47 : decode cX11_log 47 = .ok (.iconst (-1), 1) := by decide +kernel
theorem dX11_log_48 : decode cX11_log 48 = .ok (.ireturn, 1) := by decide +kernel
theorem dX11_burnt_0 : decode cX11_burnt 0 = .ok (.aload_n 0, 1) := by decide +kernel
theorem dX11_burnt_1 : decode cX11_burnt 1 = .ok (.aload_n 0, 1) := by decide +kernel
theorem dX11_burnt_2 : decode cX11_burnt 2 = .ok (.getfield 20, 3) := by decide +kernel
theorem dX11_burnt_5 : decode cX11_burnt 5 = .ok (.sipush 307, 3) := by decide +kernel
theorem dX11_burnt_8 : decode cX11_burnt 8 = .ok (.iaload, 1) := by decide +kernel
theorem dX11_burnt_9 : decode cX11_burnt 9 = .ok (.invokevirtual 301, 3) := by decide +kernel
theorem dX11_burnt_12 : decode cX11_burnt 12 = .ok (.ireturn, 1) := by decide +kernel
theorem dX11_trail_0 : decode cX11_trail 0 = .ok (.aload_n 0, 1) := by decide +kernel
theorem dX11_trail_1 : decode cX11_trail 1 = .ok (.getfield 129, 3) := by decide +kernel
theorem dX11_trail_4 : decode cX11_trail 4 = .ok (.istore_n 1, 1) := by decide +kernel
theorem dX11_trail_5 : decode cX11_trail 5 = .ok (.aload_n 0, 1) := by decide +kernel
theorem dX11_trail_6 : decode cX11_trail 6 = .ok (.iconst 0, 1) := by decide +kernel
theorem dX11_trail_7 : decode cX11_trail 7 = .ok (.putfield 129, 3) := by decide +kernel
theorem dX11_trail_10 : decode cX11_trail 10 = .ok (.iload_n 1, 1) := by decide +kernel
theorem dX11_trail_11 : decode cX11_trail 11 = .ok (.ifCond .ne 10, 3) := by decide +kernel
theorem dX11_trail_14 : decode cX11_trail 14 = .ok (.aload_n 0, 1) := by decide +kernel
theorem dX11_trail_15 : decode cX11_trail 15 = .ok (.bipush (-6), 2) := by decide +kernel
theorem dX11_trail_17 : decode cX11_trail 17 = .ok (.invokevirtual 105, 3) := by decide +kernel
theorem dX11_trail_20 : decode cX11_trail 20 = .ok (.ireturn, 1) := by decide +kernel
theorem dX11_trail_21 : decode cX11_trail 21 = .ok (.aload_n 0, 1) := by decide +kernel
theorem dX11_trail_22 : decode cX11_trail 22 = .ok (.iload_n 1, 1) := by decide +kernel
theorem dX11_trail_23 : decode cX11_trail 23 = .ok (.bipush 30, 2) := by decide +kernel
theorem dX11_trail_25 : decode cX11_trail 25 = .ok (.if_icmp .ge 7, 3) := by decide +kernel
theorem dX11_trail_28 : decode cX11_trail 28 = .ok (.iload_n 1, 1) := by decide +kernel
theorem dX11_trail_29 : decode cX11_trail 29 = .ok (.goto 5, 3) := by decide +kernel
theorem dX11_trail_32 : decode cX11_trail 32 = .ok (.bipush 30, 2) := by decide +kernel
theorem dX11_trail_34 : decode cX11_trail 34 = .ok (.putfield 334, 3) := by decide +kernel
theorem dX11_trail_37 : decode cX11_trail 37 = .ok (.iconst 0, 1) := by decide +kernel
theorem dX11_trail_38 : decode cX11_trail 38 = .ok (.istore_n 2, 1) := by decide +kernel
theorem dX11_trail_39 : decode cX11_trail 39 = .ok (.iload_n 2, 1) := by decide +kernel
theorem dX11_trail_40 : decode cX11_trail 40 = .ok (.aload_n 0, 1) := by decide +kernel
theorem dX11_trail_41 : decode cX11_trail 41 = .ok (.getfield 334, 3) := by decide +kernel
theorem dX11_trail_44 : decode cX11_trail 44 = .ok (.if_icmp .ge 25, 3) := by decide +kernel
theorem dX11_trail_47 : decode cX11_trail 47 = .ok (.aload_n 0, 1) := by decide +kernel
theorem dX11_trail_48 : decode cX11_trail 48 = .ok (.getfield 77, 3) := by decide +kernel
theorem dX11_trail_51 : decode cX11_trail 51 = .ok (.iload_n 2, 1) := by decide +kernel
theorem dX11_trail_52 : decode cX11_trail 52 = .ok (.aload_n 0, 1) := by decide +kernel
theorem dX11_trail_53 : decode cX11_trail 53 = .ok (.getfield 34, 3) := by decide +kernel
theorem dX11_trail_56 : decode cX11_trail 56 = .ok (.iload_n 2, 1) := by decide +kernel
theorem dX11_trail_57 : decode cX11_trail 57 = .ok (.baload, 1) := by decide +kernel
theorem dX11_trail_58 : decode cX11_trail 58 = .ok (.sipush 255, 3) := by decide +kernel
theorem dX11_trail_61 : decode cX11_trail 61 = .ok (.iand, 1) := by decide +kernel
theorem dX11_trail_62 : decode cX11_trail 62 = .ok (.iastore, 1) := by decide +kernel
theorem dX11_trail_63 : decode cX11_trail 63 = .ok (.iinc 2 1, 3) := by decide +kernel
theorem dX11_trail_66 : decode cX11_trail 66 = .ok (.goto (-27), 3) := by decide +kernel
theorem dX11_trail_69 : decode cX11_trail 69 = .ok (.aload_n 0, 1) := by decide +kernel
theorem dX11_trail_70 : decode cX11_trail 70 = .ok (.aload_n 0, 1) := by decide +kernel
theorem dX11_trail_71 : decode cX11_trail 71 = .ok (.getfield 334, 3) := by decide +kernel
theorem dX11_trail_74 : decode cX11_trail 74 = .ok (.invokevirtual 109, 3) := by decide +kernel
theorem dX11_trail_77 : decode cX11_trail 77 = .ok (.ireturn, 1) := by decide +kernel
theorem dX11_judge_0 : decode cX11_judge 0 = .ok (.iload_n 1, 1) := by decide +kernel
theorem dX11_judge_1 : decode cX11_judge 1 = .ok (.invokestatic 308, 3) := by decide +kernel
theorem dX11_judge_4 : decode cX11_judge 4 = .ok (.ifCond .ne 5, 3) := by decide +kernel
theorem dX11_judge_7 : decode cX11_judge 7 = .ok (.iconst (-1), 1) := by decide +kernel
theorem dX11_judge_8 : decode cX11_judge 8 = .ok (.ireturn, 1) := by decide +kernel
theorem dX11_judge_9 : decode cX11_judge 9 = .ok (.aload_n 0, 1) := by decide +kernel
theorem dX11_judge_10 : decode cX11_judge 10 = .ok (.invokevirtual 294, 3) := by decide +kernel
theorem dX11_judge_13 : decode cX11_judge 13 = .ok (.iconst 0, 1) := by decide +kernel
theorem dX11_judge_14 : decode cX11_judge 14 = .ok (.istore_n 2, 1) := by decide +kernel
theorem dX11_judge_15 : decode cX11_judge 15 = .ok (.iconst 0, 1) := by decide +kernel
theorem dX11_judge_16 : decode cX11_judge 16 = .ok (.istore_n 3, 1) := by decide +kernel
theorem dX11_judge_17 : decode cX11_judge 17 = .ok (.iload_n 3, 1) := by decide +kernel
theorem dX11_judge_18 : decode cX11_judge 18 = .ok (.aload_n 0, 1) := by decide +kernel
theorem dX11_judge_19 : decode cX11_judge 19 = .ok (.getfield 334, 3) := by decide +kernel
theorem dX11_judge_22 : decode cX11_judge 22 = .ok (.if_icmp .ge 76, 3) := by decide +kernel
theorem dX11_judge_25 : decode cX11_judge 25 = .ok (.aload_n 0, 1) := by decide +kernel
theorem dX11_judge_26 : decode cX11_judge 26 = .ok (.getfield 77, 3) := by decide +kernel
theorem dX11_judge_29 : decode cX11_judge 29 = .ok (.iload_n 3, 1) := by decide +kernel
theorem dX11_judge_30 : decode cX11_judge 30 = .ok (.iaload, 1) := by decide +kernel
theorem dX11_judge_31 : decode cX11_judge 31 = .ok (.istore 4, 2) := by decide +kernel
theorem dX11_judge_33 : decode cX11_judge 33 = .ok (.aload_n 0, 1) := by decide +kernel
theorem dX11_judge_34 : decode cX11_judge 34 = .ok (.iload 4, 2) := by decide +kernel
theorem dX11_judge_36 : decode cX11_judge 36 = .ok (.invokevirtual 120, 3) := by decide +kernel
theorem dX11_judge_39 : decode cX11_judge 39 = .ok (.ifCond .eq 48, 3) := by decide +kernel
theorem dX11_judge_42 : decode cX11_judge 42 = .ok (.aload_n 0, 1) := by decide +kernel
theorem dX11_judge_43 : decode cX11_judge 43 = .ok (.iload_n 2, 1) := by decide +kernel
theorem dX11_judge_44 : decode cX11_judge 44 = .ok (.iload 4, 2) := by decide +kernel
theorem dX11_judge_46 : decode cX11_judge 46 = .ok (.aload_n 0, 1) := by decide +kernel
theorem dX11_judge_47 : decode cX11_judge 47 = .ok (.getfield 20, 3) := by decide +kernel
theorem dX11_judge_50 : decode cX11_judge 50 = .ok (.sipush 306, 3) := by decide +kernel
theorem dX11_judge_53 : decode cX11_judge 53 = .ok (.iaload, 1) := by decide +kernel
theorem dX11_judge_54 : decode cX11_judge 54 = .ok (.invokevirtual 271, 3) := by decide +kernel
theorem dX11_judge_57 : decode cX11_judge 57 = .ok (.ifCond .eq 30, 3) := by decide +kernel
theorem dX11_judge_60 : decode cX11_judge 60 = .ok (.aload_n 0, 1) := by decide +kernel
theorem dX11_judge_61 : decode cX11_judge 61 = .ok (.iload 4, 2) := by decide +kernel
theorem dX11_judge_63 : decode cX11_judge 63 = .ok (.invokevirtual 126, 3) := by decide +kernel
theorem dX11_judge_66 : decode cX11_judge 66 = .ok (.iconst (-1), 1) := by decide +kernel
theorem dX11_judge_67 : decode cX11_judge 67 = .ok (.if_icmp .eq 20, 3) := by decide +kernel
theorem dX11_judge_70 : decode cX11_judge 70 = .ok (.aload_n 0, 1) := by decide +kernel
theorem dX11_judge_71 : decode cX11_judge 71 = .ok (.iload_n 2, 1) := by decide +kernel
theorem dX11_judge_72 : decode cX11_judge 72 = .ok (.aload_n 0, 1) := by decide +kernel
theorem dX11_judge_73 : decode cX11_judge 73 = .ok (.iload 4, 2) := by decide +kernel
theorem dX11_judge_75 : decode cX11_judge 75 = .ok (.invokevirtual 126, 3) := by decide +kernel
theorem dX11_judge_78 : decode cX11_judge 78 = .ok (.iload_n 1, 1) := by decide +kernel
theorem dX11_judge_79 : decode cX11_judge 79 = .ok (.invokevirtual 311, 3) := by decide +kernel
theorem dX11_judge_82 : decode cX11_judge 82 = .ok (.iload 4, 2) := by decide +kernel
theorem dX11_judge_84 : decode cX11_judge 84 = .ok (.if_icmp .eq 5, 3) := by decide +kernel
theorem dX11_judge_87 : decode cX11_judge 87 = .ok (.iload_n 3, 1) := by decide +kernel
theorem dX11_judge_88 : decode cX11_judge 88 = .ok (.ireturn, 1) := by decide +kernel
theorem dX11_judge_89 : decode cX11_judge 89 = .ok (.iload 4, 2) := by decide +kernel
theorem dX11_judge_91 : decode cX11_judge 91 = .ok (.istore_n 2, 1) := by decide +kernel
theorem dX11_judge_92 : decode cX11_judge 92 = .ok (.iinc 3 1, 3) := by decide +kernel
theorem dX11_judge_95 : decode cX11_judge 95 = .ok (.goto (-78), 3) := by decide +kernel
theorem dX11_judge_98 : decode cX11_judge 98 = .ok (.iconst (-1), 1) := by decide +kernel
theorem dX11_judge_99 : decode cX11_judge 99 = .ok (.ireturn, 1) := by decide +kernel
theorem dX11_rowsOf_0 : decode cX11_rowsOf 0 = .ok (.aload_n 0, 1) := by decide +kernel
theorem dX11_rowsOf_1 : decode cX11_rowsOf 1 = .ok (.invokevirtual 294, 3) := by decide +kernel
theorem dX11_rowsOf_4 : decode cX11_rowsOf 4 = .ok (.iconst 0, 1) := by decide +kernel
theorem dX11_rowsOf_5 : decode cX11_rowsOf 5 = .ok (.istore 6, 2) := by decide +kernel
theorem dX11_rowsOf_7 : decode cX11_rowsOf 7 = .ok (.iload 6, 2) := by decide +kernel
theorem dX11_rowsOf_9 : decode cX11_rowsOf 9 = .ok (.aload_n 0, 1) := by decide +kernel
theorem dX11_rowsOf_10 : decode cX11_rowsOf 10 = .ok (.invokevirtual 112, 3) := by decide +kernel
theorem dX11_rowsOf_13 : decode cX11_rowsOf 13 = .ok (.if_icmp .ge 26, 3) := by decide +kernel
theorem dX11_rowsOf_16 : decode cX11_rowsOf 16 = .ok (.aload_n 0, 1) := by decide +kernel
theorem dX11_rowsOf_17 : decode cX11_rowsOf 17 = .ok (.getfield 80, 3) := by decide +kernel
theorem dX11_rowsOf_20 : decode cX11_rowsOf 20 = .ok (.iload 6, 2) := by decide +kernel
theorem dX11_rowsOf_22 : decode cX11_rowsOf 22 = .ok (.iload 6, 2) := by decide +kernel
theorem dX11_rowsOf_24 : decode cX11_rowsOf 24 = .ok (.ifCond .ne 7, 3) := by decide +kernel
theorem dX11_rowsOf_27 : decode cX11_rowsOf 27 = .ok (.lconst 1, 1) := by decide +kernel
theorem dX11_rowsOf_28 : decode cX11_rowsOf 28 = .ok (.goto 4, 3) := by decide +kernel
theorem dX11_rowsOf_31 : decode cX11_rowsOf 31 = .ok (.lconst 0, 1) := by decide +kernel
theorem dX11_rowsOf_32 : decode cX11_rowsOf 32 = .ok (.lastore, 1) := by decide +kernel
theorem dX11_rowsOf_33 : decode cX11_rowsOf 33 = .ok (.iinc 6 1, 3) := by decide +kernel
theorem dX11_rowsOf_36 : decode cX11_rowsOf 36 = .ok (.goto (-29), 3) := by decide +kernel
theorem dX11_rowsOf_39 : decode cX11_rowsOf 39 = .ok (.iconst 0, 1) := by decide +kernel
theorem dX11_rowsOf_40 : decode cX11_rowsOf 40 = .ok (.istore 6, 2) := by decide +kernel
theorem dX11_rowsOf_42 : decode cX11_rowsOf 42 = .ok (.iload 6, 2) := by decide +kernel
theorem dX11_rowsOf_44 : decode cX11_rowsOf 44 = .ok (.iload_n 1, 1) := by decide +kernel
theorem dX11_rowsOf_45 : decode cX11_rowsOf 45 = .ok (.if_icmp .ge 181, 3) := by decide +kernel
theorem dX11_rowsOf_48 : decode cX11_rowsOf 48 = .ok (.iconst 0, 1) := by decide +kernel
theorem dX11_rowsOf_49 : decode cX11_rowsOf 49 = .ok (.istore 7, 2) := by decide +kernel
theorem dX11_rowsOf_51 : decode cX11_rowsOf 51 = .ok (.iload 7, 2) := by decide +kernel
theorem dX11_rowsOf_53 : decode cX11_rowsOf 53 = .ok (.aload_n 0, 1) := by decide +kernel
theorem dX11_rowsOf_54 : decode cX11_rowsOf 54 = .ok (.invokevirtual 112, 3) := by decide +kernel
theorem dX11_rowsOf_57 : decode cX11_rowsOf 57 = .ok (.if_icmp .ge 17, 3) := by decide +kernel
theorem dX11_rowsOf_60 : decode cX11_rowsOf 60 = .ok (.aload_n 0, 1) := by decide +kernel
theorem dX11_rowsOf_61 : decode cX11_rowsOf 61 = .ok (.getfield 83, 3) := by decide +kernel
theorem dX11_rowsOf_64 : decode cX11_rowsOf 64 = .ok (.iload 7, 2) := by decide +kernel
theorem dX11_rowsOf_66 : decode cX11_rowsOf 66 = .ok (.lconst 0, 1) := by decide +kernel
theorem dX11_rowsOf_67 : decode cX11_rowsOf 67 = .ok (.lastore, 1) := by decide +kernel
theorem dX11_rowsOf_68 : decode cX11_rowsOf 68 = .ok (.iinc 7 1, 3) := by decide +kernel
theorem dX11_rowsOf_71 : decode cX11_rowsOf 71 = .ok (.goto (-20), 3) := by decide +kernel
theorem dX11_rowsOf_74 : decode cX11_rowsOf 74 = .ok (.iconst 0, 1) := by decide +kernel
theorem dX11_rowsOf_75 : decode cX11_rowsOf 75 = .ok (.istore 7, 2) := by decide +kernel
theorem dX11_rowsOf_77 : decode cX11_rowsOf 77 = .ok (.iload 7, 2) := by decide +kernel
theorem dX11_rowsOf_79 : decode cX11_rowsOf 79 = .ok (.aload_n 0, 1) := by decide +kernel
theorem dX11_rowsOf_80 : decode cX11_rowsOf 80 = .ok (.invokevirtual 112, 3) := by decide +kernel
theorem dX11_rowsOf_83 : decode cX11_rowsOf 83 = .ok (.if_icmp .ge 105, 3) := by decide +kernel
theorem dX11_rowsOf_86 : decode cX11_rowsOf 86 = .ok (.iconst 0, 1) := by decide +kernel
theorem dX11_rowsOf_87 : decode cX11_rowsOf 87 = .ok (.istore 8, 2) := by decide +kernel
theorem dX11_rowsOf_89 : decode cX11_rowsOf 89 = .ok (.iload 8, 2) := by decide +kernel
theorem dX11_rowsOf_91 : decode cX11_rowsOf 91 = .ok (.aload_n 0, 1) := by decide +kernel
theorem dX11_rowsOf_92 : decode cX11_rowsOf 92 = .ok (.getfield 20, 3) := by decide +kernel
theorem dX11_rowsOf_95 : decode cX11_rowsOf 95 = .ok (.sipush 305, 3) := by decide +kernel
theorem dX11_rowsOf_98 : decode cX11_rowsOf 98 = .ok (.iaload, 1) := by decide +kernel
theorem dX11_rowsOf_99 : decode cX11_rowsOf 99 = .ok (.if_icmp .ge 83, 3) := by decide +kernel
theorem dX11_rowsOf_102 : decode cX11_rowsOf 102 = .ok (.aload_n 0, 1) := by decide +kernel
theorem dX11_rowsOf_103 : decode cX11_rowsOf 103 = .ok (.getfield 80, 3) := by decide +kernel
theorem dX11_rowsOf_106 : decode cX11_rowsOf 106 = .ok (.iload 7, 2) := by decide +kernel
theorem dX11_rowsOf_108 : decode cX11_rowsOf 108 = .ok (.laload, 1) := by decide +kernel
theorem dX11_rowsOf_109 : decode cX11_rowsOf 109 = .ok (.lconst 0, 1) := by decide +kernel
theorem dX11_rowsOf_110 : decode cX11_rowsOf 110 = .ok (.lcmp, 1) := by decide +kernel
theorem dX11_rowsOf_111 : decode cX11_rowsOf 111 = .ok (.ifCond .le 71, 3) := by decide +kernel
theorem dX11_rowsOf_114 : decode cX11_rowsOf 114 = .ok (.iload 8, 2) := by decide +kernel
theorem dX11_rowsOf_116 : decode cX11_rowsOf 116 = .ok (.aload_n 0, 1) := by decide +kernel
theorem dX11_rowsOf_117 : decode cX11_rowsOf 117 = .ok (.iload 7, 2) := by decide +kernel
theorem dX11_rowsOf_119 : decode cX11_rowsOf 119 = .ok (.invokevirtual 126, 3) := by decide +kernel
theorem dX11_rowsOf_122 : decode cX11_rowsOf 122 = .ok (.if_icmp .eq 54, 3) := by decide +kernel
theorem dX11_rowsOf_125 : decode cX11_rowsOf 125 = .ok (.iload 6, 2) := by decide +kernel
theorem dX11_rowsOf_127 : decode cX11_rowsOf 127 = .ok (.iload 4, 2) := by decide +kernel
theorem dX11_rowsOf_129 : decode cX11_rowsOf 129 = .ok (.if_icmp .ne 13, 3) := by decide +kernel
theorem dX11_rowsOf_132 : decode cX11_rowsOf 132 = .ok (.iload 8, 2) := by decide +kernel
theorem dX11_rowsOf_134 : decode cX11_rowsOf 134 = .ok (.iload 5, 2) := by decide +kernel
theorem dX11_rowsOf_136 : decode cX11_rowsOf 136 = .ok (.if_icmp .eq 6, 3) := by decide +kernel
theorem dX11_rowsOf_139 : decode cX11_rowsOf 139 = .ok (.goto 37, 3) := by decide +kernel
theorem dX11_rowsOf_142 : decode cX11_rowsOf 142 = .ok (.aload_n 0, 1) := by decide +kernel
theorem dX11_rowsOf_143 : decode cX11_rowsOf 143 = .ok (.iload 7, 2) := by decide +kernel
theorem dX11_rowsOf_145 : decode cX11_rowsOf 145 = .ok (.iload 8, 2) := by decide +kernel
theorem dX11_rowsOf_147 : decode cX11_rowsOf 147 = .ok (.iload_n 3, 1) := by decide +kernel
theorem dX11_rowsOf_148 : decode cX11_rowsOf 148 = .ok (.invokevirtual 311, 3) := by decide +kernel
theorem dX11_rowsOf_151 : decode cX11_rowsOf 151 = .ok (.istore 9, 2) := by decide +kernel
theorem dX11_rowsOf_153 : decode cX11_rowsOf 153 = .ok (.iload 9, 2) := by decide +kernel
theorem dX11_rowsOf_155 : decode cX11_rowsOf 155 = .ok (.iconst (-1), 1) := by decide +kernel
theorem dX11_rowsOf_156 : decode cX11_rowsOf 156 = .ok (.if_icmp .eq 20, 3) := by decide +kernel
theorem dX11_rowsOf_159 : decode cX11_rowsOf 159 = .ok (.aload_n 0, 1) := by decide +kernel
theorem dX11_rowsOf_160 : decode cX11_rowsOf 160 = .ok (.getfield 83, 3) := by decide +kernel
theorem dX11_rowsOf_163 : decode cX11_rowsOf 163 = .ok (.iload 9, 2) := by decide +kernel
theorem dX11_rowsOf_165 : decode cX11_rowsOf 165 = .ok (.dup2, 1) := by decide +kernel
theorem dX11_rowsOf_166 : decode cX11_rowsOf 166 = .ok (.laload, 1) := by decide +kernel
theorem dX11_rowsOf_167 : decode cX11_rowsOf 167 = .ok (.aload_n 0, 1) := by decide +kernel
theorem dX11_rowsOf_168 : decode cX11_rowsOf 168 = .ok (.getfield 80, 3) := by decide +kernel
theorem dX11_rowsOf_171 : decode cX11_rowsOf 171 = .ok (.iload 7, 2) := by decide +kernel
theorem dX11_rowsOf_173 : decode cX11_rowsOf 173 = .ok (.laload, 1) := by decide +kernel
theorem dX11_rowsOf_174 : decode cX11_rowsOf 174 = .ok (.ladd, 1) := by decide +kernel
theorem dX11_rowsOf_175 : decode cX11_rowsOf 175 = .ok (.lastore, 1) := by decide +kernel
theorem dX11_rowsOf_176 : decode cX11_rowsOf 176 = .ok (.iinc 8 1, 3) := by decide +kernel
theorem dX11_rowsOf_179 : decode cX11_rowsOf 179 = .ok (.goto (-90), 3) := by decide +kernel
theorem dX11_rowsOf_182 : decode cX11_rowsOf 182 = .ok (.iinc 7 1, 3) := by decide +kernel
theorem dX11_rowsOf_185 : decode cX11_rowsOf 185 = .ok (.goto (-108), 3) := by decide +kernel
theorem dX11_rowsOf_188 : decode cX11_rowsOf 188 = .ok (.iconst 0, 1) := by decide +kernel
theorem dX11_rowsOf_189 : decode cX11_rowsOf 189 = .ok (.istore 7, 2) := by decide +kernel
theorem dX11_rowsOf_191 : decode cX11_rowsOf 191 = .ok (.iload 7, 2) := by decide +kernel
theorem dX11_rowsOf_193 : decode cX11_rowsOf 193 = .ok (.aload_n 0, 1) := by decide +kernel
theorem dX11_rowsOf_194 : decode cX11_rowsOf 194 = .ok (.invokevirtual 112, 3) := by decide +kernel
theorem dX11_rowsOf_197 : decode cX11_rowsOf 197 = .ok (.if_icmp .ge 23, 3) := by decide +kernel
theorem dX11_rowsOf_200 : decode cX11_rowsOf 200 = .ok (.aload_n 0, 1) := by decide +kernel
theorem dX11_rowsOf_201 : decode cX11_rowsOf 201 = .ok (.getfield 80, 3) := by decide +kernel
theorem dX11_rowsOf_204 : decode cX11_rowsOf 204 = .ok (.iload 7, 2) := by decide +kernel
theorem dX11_rowsOf_206 : decode cX11_rowsOf 206 = .ok (.aload_n 0, 1) := by decide +kernel
theorem dX11_rowsOf_207 : decode cX11_rowsOf 207 = .ok (.getfield 83, 3) := by decide +kernel
theorem dX11_rowsOf_210 : decode cX11_rowsOf 210 = .ok (.iload 7, 2) := by decide +kernel
theorem dX11_rowsOf_212 : decode cX11_rowsOf 212 = .ok (.laload, 1) := by decide +kernel
theorem dX11_rowsOf_213 : decode cX11_rowsOf 213 = .ok (.lastore, 1) := by decide +kernel
theorem dX11_rowsOf_214 : decode cX11_rowsOf 214 = .ok (.iinc 7 1, 3) := by decide +kernel
theorem dX11_rowsOf_217 : decode cX11_rowsOf 217 = .ok (.goto (-26), 3) := by decide +kernel
theorem dX11_rowsOf_220 : decode cX11_rowsOf 220 = .ok (.iinc 6 1, 3) := by decide +kernel
theorem dX11_rowsOf_223 : decode cX11_rowsOf 223 = .ok (.goto (-181), 3) := by decide +kernel
theorem dX11_rowsOf_226 : decode cX11_rowsOf 226 = .ok (.aload_n 0, 1) := by decide +kernel
theorem dX11_rowsOf_227 : decode cX11_rowsOf 227 = .ok (.getfield 80, 3) := by decide +kernel
theorem dX11_rowsOf_230 : decode cX11_rowsOf 230 = .ok (.iload_n 2, 1) := by decide +kernel
theorem dX11_rowsOf_231 : decode cX11_rowsOf 231 = .ok (.laload, 1) := by decide +kernel
theorem dX11_rowsOf_232 : decode cX11_rowsOf 232 = .ok (.lreturn, 1) := by decide +kernel
theorem dX11_rows_0 : decode cX11_rows 0 = .ok (.iload_n 1, 1) := by decide +kernel
theorem dX11_rows_1 : decode cX11_rows 1 = .ok (.iconst 0, 1) := by decide +kernel
theorem dX11_rows_2 : decode cX11_rows 2 = .ok (.bipush 8, 2) := by decide +kernel
theorem dX11_rows_4 : decode cX11_rows 4 = .ok (.invokestatic 101, 3) := by decide +kernel
theorem dX11_rows_7 : decode cX11_rows 7 = .ok (.ifCond .eq 30, 3) := by decide +kernel
theorem dX11_rows_10 : decode cX11_rows 10 = .ok (.aload_n 0, 1) := by decide +kernel
theorem dX11_rows_11 : decode cX11_rows 11 = .ok (.iload_n 2, 1) := by decide +kernel
theorem dX11_rows_12 : decode cX11_rows 12 = .ok (.invokevirtual 120, 3) := by decide +kernel
theorem dX11_rows_15 : decode cX11_rows 15 = .ok (.ifCond .eq 22, 3) := by decide +kernel
theorem dX11_rows_18 : decode cX11_rows 18 = .ok (.iload_n 3, 1) := by decide +kernel
theorem dX11_rows_19 : decode cX11_rows 19 = .ok (.invokestatic 308, 3) := by decide +kernel
theorem dX11_rows_22 : decode cX11_rows 22 = .ok (.ifCond .eq 15, 3) := by decide +kernel
theorem dX11_rows_25 : decode cX11_rows 25 = .ok (.aload_n 0, 1) := by decide +kernel
theorem dX11_rows_26 : decode cX11_rows 26 = .ok (.iload_n 1, 1) := by decide +kernel
theorem dX11_rows_27 : decode cX11_rows 27 = .ok (.iload_n 2, 1) := by decide +kernel
theorem dX11_rows_28 : decode cX11_rows 28 = .ok (.iload_n 3, 1) := by decide +kernel
theorem dX11_rows_29 : decode cX11_rows 29 = .ok (.iconst (-1), 1) := by decide +kernel
theorem dX11_rows_30 : decode cX11_rows 30 = .ok (.iconst 0, 1) := by decide +kernel
theorem dX11_rows_31 : decode cX11_rows 31 = .ok (.invokevirtual 337, 3) := by decide +kernel
theorem dX11_rows_34 : decode cX11_rows 34 = .ok (.goto 6, 3) := by decide +kernel
theorem dX11_rows_37 : decode cX11_rows 37 = .ok (.ldc2_w 262, 3) := by decide +kernel
theorem dX11_rows_40 : decode cX11_rows 40 = .ok (.lreturn, 1) := by decide +kernel
theorem dX11_could_0 : decode cX11_could 0 = .ok (.iload_n 1, 1) := by decide +kernel
theorem dX11_could_1 : decode cX11_could 1 = .ok (.iconst 0, 1) := by decide +kernel
theorem dX11_could_2 : decode cX11_could 2 = .ok (.bipush 8, 2) := by decide +kernel
theorem dX11_could_4 : decode cX11_could 4 = .ok (.invokestatic 101, 3) := by decide +kernel
theorem dX11_could_7 : decode cX11_could 7 = .ok (.ifCond .eq 53, 3) := by decide +kernel
theorem dX11_could_10 : decode cX11_could 10 = .ok (.aload_n 0, 1) := by decide +kernel
theorem dX11_could_11 : decode cX11_could 11 = .ok (.iload_n 2, 1) := by decide +kernel
theorem dX11_could_12 : decode cX11_could 12 = .ok (.invokevirtual 120, 3) := by decide +kernel
theorem dX11_could_15 : decode cX11_could 15 = .ok (.ifCond .eq 45, 3) := by decide +kernel
theorem dX11_could_18 : decode cX11_could 18 = .ok (.iload_n 3, 1) := by decide +kernel
theorem dX11_could_19 : decode cX11_could 19 = .ok (.invokestatic 308, 3) := by decide +kernel
theorem dX11_could_22 : decode cX11_could 22 = .ok (.ifCond .eq 38, 3) := by decide +kernel
theorem dX11_could_25 : decode cX11_could 25 = .ok (.iload 4, 2) := by decide +kernel
theorem dX11_could_27 : decode cX11_could 27 = .ok (.iconst 0, 1) := by decide +kernel
theorem dX11_could_28 : decode cX11_could 28 = .ok (.iload_n 1, 1) := by decide +kernel
theorem dX11_could_29 : decode cX11_could 29 = .ok (.iconst 1, 1) := by decide +kernel
theorem dX11_could_30 : decode cX11_could 30 = .ok (.isub, 1) := by decide +kernel
theorem dX11_could_31 : decode cX11_could 31 = .ok (.invokestatic 101, 3) := by decide +kernel
theorem dX11_could_34 : decode cX11_could 34 = .ok (.ifCond .eq 26, 3) := by decide +kernel
theorem dX11_could_37 : decode cX11_could 37 = .ok (.aload_n 0, 1) := by decide +kernel
theorem dX11_could_38 : decode cX11_could 38 = .ok (.iload 5, 2) := by decide +kernel
theorem dX11_could_40 : decode cX11_could 40 = .ok (.invokevirtual 123, 3) := by decide +kernel
theorem dX11_could_43 : decode cX11_could 43 = .ok (.ifCond .eq 17, 3) := by decide +kernel
theorem dX11_could_46 : decode cX11_could 46 = .ok (.aload_n 0, 1) := by decide +kernel
theorem dX11_could_47 : decode cX11_could 47 = .ok (.iload_n 1, 1) := by decide +kernel
theorem dX11_could_48 : decode cX11_could 48 = .ok (.iload_n 2, 1) := by decide +kernel
theorem dX11_could_49 : decode cX11_could 49 = .ok (.iload_n 3, 1) := by decide +kernel
theorem dX11_could_50 : decode cX11_could 50 = .ok (.iload 4, 2) := by decide +kernel
theorem dX11_could_52 : decode cX11_could 52 = .ok (.iload 5, 2) := by decide +kernel
theorem dX11_could_54 : decode cX11_could 54 = .ok (.invokevirtual 337, 3) := by decide +kernel
theorem dX11_could_57 : decode cX11_could 57 = .ok (.goto 6, 3) := by decide +kernel
theorem dX11_could_60 : decode cX11_could 60 = .ok (.ldc2_w 262, 3) := by decide +kernel
theorem dX11_could_63 : decode cX11_could 63 = .ok (.lreturn, 1) := by decide +kernel
theorem dX11_maybe_0 : decode cX11_maybe 0 = .ok (.aload_n 0, 1) := by decide +kernel
theorem dX11_maybe_1 : decode cX11_maybe 1 = .ok (.iload_n 1, 1) := by decide +kernel
theorem dX11_maybe_2 : decode cX11_maybe 2 = .ok (.invokevirtual 120, 3) := by decide +kernel
theorem dX11_maybe_5 : decode cX11_maybe 5 = .ok (.ifCond .eq 13, 3) := by decide +kernel
theorem dX11_maybe_8 : decode cX11_maybe 8 = .ok (.iload_n 2, 1) := by decide +kernel
theorem dX11_maybe_9 : decode cX11_maybe 9 = .ok (.iconst 0, 1) := by decide +kernel
theorem dX11_maybe_10 : decode cX11_maybe 10 = .ok (.bipush 8, 2) := by decide +kernel
theorem dX11_maybe_12 : decode cX11_maybe 12 = .ok (.invokestatic 101, 3) := by decide +kernel
theorem dX11_maybe_15 : decode cX11_maybe 15 = .ok (.ifCond .ne 5, 3) := by decide +kernel
theorem dX11_maybe_18 : decode cX11_maybe 18 = .ok (.iconst (-1), 1) := by decide +kernel
theorem dX11_maybe_19 : decode cX11_maybe 19 = .ok (.ireturn, 1) := by decide +kernel
theorem dX11_maybe_20 : decode cX11_maybe 20 = .ok (.aload_n 0, 1) := by decide +kernel
theorem dX11_maybe_21 : decode cX11_maybe 21 = .ok (.invokevirtual 315, 3) := by decide +kernel
theorem dX11_maybe_24 : decode cX11_maybe 24 = .ok (.iconst 0, 1) := by decide +kernel
theorem dX11_maybe_25 : decode cX11_maybe 25 = .ok (.istore_n 3, 1) := by decide +kernel
theorem dX11_maybe_26 : decode cX11_maybe 26 = .ok (.iload_n 1, 1) := by decide +kernel
theorem dX11_maybe_27 : decode cX11_maybe 27 = .ok (.istore 4, 2) := by decide +kernel
theorem dX11_maybe_29 : decode cX11_maybe 29 = .ok (.iload 4, 2) := by decide +kernel
theorem dX11_maybe_31 : decode cX11_maybe 31 = .ok (.aload_n 0, 1) := by decide +kernel
theorem dX11_maybe_32 : decode cX11_maybe 32 = .ok (.invokevirtual 112, 3) := by decide +kernel
theorem dX11_maybe_35 : decode cX11_maybe 35 = .ok (.if_icmp .ge 62, 3) := by decide +kernel
theorem dX11_maybe_38 : decode cX11_maybe 38 = .ok (.aload_n 0, 1) := by decide +kernel
theorem dX11_maybe_39 : decode cX11_maybe 39 = .ok (.getfield 65, 3) := by decide +kernel
theorem dX11_maybe_42 : decode cX11_maybe 42 = .ok (.iload 4, 2) := by decide +kernel
theorem dX11_maybe_44 : decode cX11_maybe 44 = .ok (.baload, 1) := by decide +kernel
theorem dX11_maybe_45 : decode cX11_maybe 45 = .ok (.ifCond .eq 46, 3) := by decide +kernel
theorem dX11_maybe_48 : decode cX11_maybe 48 = .ok (.aload_n 0, 1) := by decide +kernel
theorem dX11_maybe_49 : decode cX11_maybe 49 = .ok (.iload 4, 2) := by decide +kernel
theorem dX11_maybe_51 : decode cX11_maybe 51 = .ok (.invokevirtual 126, 3) := by decide +kernel
theorem dX11_maybe_54 : decode cX11_maybe 54 = .ok (.iconst (-1), 1) := by decide +kernel
theorem dX11_maybe_55 : decode cX11_maybe 55 = .ok (.if_icmp .eq 36, 3) := by decide +kernel
theorem dX11_maybe_58 : decode cX11_maybe 58 = .ok (.iload_n 1, 1) := by decide +kernel
theorem dX11_maybe_59 : decode cX11_maybe 59 = .ok (.iload 4, 2) := by decide +kernel
theorem dX11_maybe_61 : decode cX11_maybe 61 = .ok (.iconst (-1), 1) := by decide +kernel
theorem dX11_maybe_62 : decode cX11_maybe 62 = .ok (.ixor, 1) := by decide +kernel
theorem dX11_maybe_63 : decode cX11_maybe 63 = .ok (.iand, 1) := by decide +kernel
theorem dX11_maybe_64 : decode cX11_maybe 64 = .ok (.ifCond .ne 27, 3) := by decide +kernel
theorem dX11_maybe_67 : decode cX11_maybe 67 = .ok (.iload 4, 2) := by decide +kernel
theorem dX11_maybe_69 : decode cX11_maybe 69 = .ok (.iload_n 1, 1) := by decide +kernel
theorem dX11_maybe_70 : decode cX11_maybe 70 = .ok (.iconst (-1), 1) := by decide +kernel
theorem dX11_maybe_71 : decode cX11_maybe 71 = .ok (.ixor, 1) := by decide +kernel
theorem dX11_maybe_72 : decode cX11_maybe 72 = .ok (.iand, 1) := by decide +kernel
theorem dX11_maybe_73 : decode cX11_maybe 73 = .ok (.invokestatic 259, 3) := by decide +kernel
theorem dX11_maybe_76 : decode cX11_maybe 76 = .ok (.iload_n 2, 1) := by decide +kernel
theorem dX11_maybe_77 : decode cX11_maybe 77 = .ok (.if_icmp .gt 14, 3) := by decide +kernel
theorem dX11_maybe_80 : decode cX11_maybe 80 = .ok (.iload_n 3, 1) := by decide +kernel
theorem dX11_maybe_81 : decode cX11_maybe 81 = .ok (.iconst 1, 1) := by decide +kernel
theorem dX11_maybe_82 : decode cX11_maybe 82 = .ok (.aload_n 0, 1) := by decide +kernel
theorem dX11_maybe_83 : decode cX11_maybe 83 = .ok (.iload 4, 2) := by decide +kernel
theorem dX11_maybe_85 : decode cX11_maybe 85 = .ok (.invokevirtual 126, 3) := by decide +kernel
theorem dX11_maybe_88 : decode cX11_maybe 88 = .ok (.ishl, 1) := by decide +kernel
theorem dX11_maybe_89 : decode cX11_maybe 89 = .ok (.ior, 1) := by decide +kernel
theorem dX11_maybe_90 : decode cX11_maybe 90 = .ok (.istore_n 3, 1) := by decide +kernel
theorem dX11_maybe_91 : decode cX11_maybe 91 = .ok (.iinc 4 1, 3) := by decide +kernel
theorem dX11_maybe_94 : decode cX11_maybe 94 = .ok (.goto (-65), 3) := by decide +kernel
theorem dX11_maybe_97 : decode cX11_maybe 97 = .ok (.iload_n 3, 1) := by decide +kernel
theorem dX11_maybe_98 : decode cX11_maybe 98 = .ok (.ireturn, 1) := by decide +kernel
theorem dX11_safe_0 : decode cX11_safe 0 = .ok (.aload_n 0, 1) := by decide +kernel
theorem dX11_safe_1 : decode cX11_safe 1 = .ok (.invokevirtual 315, 3) := by decide +kernel
theorem dX11_safe_4 : decode cX11_safe 4 = .ok (.bipush 9, 2) := by decide +kernel
theorem dX11_safe_6 : decode cX11_safe 6 = .ok (.istore_n 1, 1) := by decide +kernel
theorem dX11_safe_7 : decode cX11_safe 7 = .ok (.iconst 0, 1) := by decide +kernel
theorem dX11_safe_8 : decode cX11_safe 8 = .ok (.istore_n 2, 1) := by decide +kernel
theorem dX11_safe_9 : decode cX11_safe 9 = .ok (.iload_n 2, 1) := by decide +kernel
theorem dX11_safe_10 : decode cX11_safe 10 = .ok (.aload_n 0, 1) := by decide +kernel
theorem dX11_safe_11 : decode cX11_safe 11 = .ok (.invokevirtual 112, 3) := by decide +kernel
theorem dX11_safe_14 : decode cX11_safe 14 = .ok (.if_icmp .ge 108, 3) := by decide +kernel
theorem dX11_safe_17 : decode cX11_safe 17 = .ok (.iconst 0, 1) := by decide +kernel
theorem dX11_safe_18 : decode cX11_safe 18 = .ok (.istore_n 3, 1) := by decide +kernel
theorem dX11_safe_19 : decode cX11_safe 19 = .ok (.iload_n 3, 1) := by decide +kernel
theorem dX11_safe_20 : decode cX11_safe 20 = .ok (.iload_n 2, 1) := by decide +kernel
theorem dX11_safe_21 : decode cX11_safe 21 = .ok (.if_icmp .ge 95, 3) := by decide +kernel
theorem dX11_safe_24 : decode cX11_safe 24 = .ok (.aload_n 0, 1) := by decide +kernel
theorem dX11_safe_25 : decode cX11_safe 25 = .ok (.getfield 65, 3) := by decide +kernel
theorem dX11_safe_28 : decode cX11_safe 28 = .ok (.iload_n 2, 1) := by decide +kernel
theorem dX11_safe_29 : decode cX11_safe 29 = .ok (.baload, 1) := by decide +kernel
theorem dX11_safe_30 : decode cX11_safe 30 = .ok (.ifCond .eq 80, 3) := by decide +kernel
theorem dX11_safe_33 : decode cX11_safe 33 = .ok (.aload_n 0, 1) := by decide +kernel
theorem dX11_safe_34 : decode cX11_safe 34 = .ok (.getfield 65, 3) := by decide +kernel
theorem dX11_safe_37 : decode cX11_safe 37 = .ok (.iload_n 3, 1) := by decide +kernel
theorem dX11_safe_38 : decode cX11_safe 38 = .ok (.baload, 1) := by decide +kernel
theorem dX11_safe_39 : decode cX11_safe 39 = .ok (.ifCond .eq 71, 3) := by decide +kernel
theorem dX11_safe_42 : decode cX11_safe 42 = .ok (.aload_n 0, 1) := by decide +kernel
theorem dX11_safe_43 : decode cX11_safe 43 = .ok (.iload_n 2, 1) := by decide +kernel
theorem dX11_safe_44 : decode cX11_safe 44 = .ok (.invokevirtual 126, 3) := by decide +kernel
theorem dX11_safe_47 : decode cX11_safe 47 = .ok (.iconst (-1), 1) := by decide +kernel
theorem dX11_safe_48 : decode cX11_safe 48 = .ok (.if_icmp .eq 62, 3) := by decide +kernel
theorem dX11_safe_51 : decode cX11_safe 51 = .ok (.aload_n 0, 1) := by decide +kernel
theorem dX11_safe_52 : decode cX11_safe 52 = .ok (.iload_n 3, 1) := by decide +kernel
theorem dX11_safe_53 : decode cX11_safe 53 = .ok (.invokevirtual 126, 3) := by decide +kernel
theorem dX11_safe_56 : decode cX11_safe 56 = .ok (.iconst (-1), 1) := by decide +kernel
theorem dX11_safe_57 : decode cX11_safe 57 = .ok (.if_icmp .eq 53, 3) := by decide +kernel
theorem dX11_safe_60 : decode cX11_safe 60 = .ok (.aload_n 0, 1) := by decide +kernel
theorem dX11_safe_61 : decode cX11_safe 61 = .ok (.iload_n 2, 1) := by decide +kernel
theorem dX11_safe_62 : decode cX11_safe 62 = .ok (.invokevirtual 126, 3) := by decide +kernel
theorem dX11_safe_65 : decode cX11_safe 65 = .ok (.aload_n 0, 1) := by decide +kernel
theorem dX11_safe_66 : decode cX11_safe 66 = .ok (.iload_n 3, 1) := by decide +kernel
theorem dX11_safe_67 : decode cX11_safe 67 = .ok (.invokevirtual 126, 3) := by decide +kernel
theorem dX11_safe_70 : decode cX11_safe 70 = .ok (.if_icmp .ne 6, 3) := by decide +kernel
theorem dX11_safe_73 : decode cX11_safe 73 = .ok (.goto 37, 3) := by decide +kernel
theorem dX11_safe_76 : decode cX11_safe 76 = .ok (.iload_n 2, 1) := by decide +kernel
theorem dX11_safe_77 : decode cX11_safe 77 = .ok (.iload_n 3, 1) := by decide +kernel
theorem dX11_safe_78 : decode cX11_safe 78 = .ok (.iconst (-1), 1) := by decide +kernel
theorem dX11_safe_79 : decode cX11_safe 79 = .ok (.ixor, 1) := by decide +kernel
theorem dX11_safe_80 : decode cX11_safe 80 = .ok (.iand, 1) := by decide +kernel
theorem dX11_safe_81 : decode cX11_safe 81 = .ok (.invokestatic 259, 3) := by decide +kernel
theorem dX11_safe_84 : decode cX11_safe 84 = .ok (.iload_n 3, 1) := by decide +kernel
theorem dX11_safe_85 : decode cX11_safe 85 = .ok (.iload_n 2, 1) := by decide +kernel
theorem dX11_safe_86 : decode cX11_safe 86 = .ok (.iconst (-1), 1) := by decide +kernel
theorem dX11_safe_87 : decode cX11_safe 87 = .ok (.ixor, 1) := by decide +kernel
theorem dX11_safe_88 : decode cX11_safe 88 = .ok (.iand, 1) := by decide +kernel
theorem dX11_safe_89 : decode cX11_safe 89 = .ok (.invokestatic 259, 3) := by decide +kernel
theorem dX11_safe_92 : decode cX11_safe 92 = .ok (.invokestatic 132, 3) := by decide +kernel
theorem dX11_safe_95 : decode cX11_safe 95 = .ok (.istore 4, 2) := by decide +kernel
theorem dX11_safe_97 : decode cX11_safe 97 = .ok (.iload 4, 2) := by decide +kernel
theorem dX11_safe_99 : decode cX11_safe 99 = .ok (.iload_n 1, 1) := by decide +kernel
theorem dX11_safe_100 : decode cX11_safe 100 = .ok (.if_icmp .ge 8, 3) := by decide +kernel
theorem dX11_safe_103 : decode cX11_safe 103 = .ok (.iload 4, 2) := by decide +kernel
theorem dX11_safe_105 : decode cX11_safe 105 = .ok (.goto 4, 3) := by decide +kernel
theorem dX11_safe_108 : decode cX11_safe 108 = .ok (.iload_n 1, 1) := by decide +kernel
theorem dX11_safe_109 : decode cX11_safe 109 = .ok (.istore_n 1, 1) := by decide +kernel
theorem dX11_safe_110 : decode cX11_safe 110 = .ok (.iinc 3 1, 3) := by decide +kernel
theorem dX11_safe_113 : decode cX11_safe 113 = .ok (.goto (-94), 3) := by decide +kernel
theorem dX11_safe_116 : decode cX11_safe 116 = .ok (.iinc 2 1, 3) := by decide +kernel
theorem dX11_safe_119 : decode cX11_safe 119 = .ok (.goto (-110), 3) := by decide +kernel
theorem dX11_safe_122 : decode cX11_safe 122 = .ok (.iload_n 1, 1) := by decide +kernel
theorem dX11_safe_123 : decode cX11_safe 123 = .ok (.iconst 1, 1) := by decide +kernel
theorem dX11_safe_124 : decode cX11_safe 124 = .ok (.isub, 1) := by decide +kernel
theorem dX11_safe_125 : decode cX11_safe 125 = .ok (.ireturn, 1) := by decide +kernel
theorem dX11_spy_0 : decode cX11_spy 0 = .ok (.iload_n 1, 1) := by decide +kernel
theorem dX11_spy_1 : decode cX11_spy 1 = .ok (.iconst 0, 1) := by decide +kernel
theorem dX11_spy_2 : decode cX11_spy 2 = .ok (.bipush 8, 2) := by decide +kernel
theorem dX11_spy_4 : decode cX11_spy 4 = .ok (.invokestatic 101, 3) := by decide +kernel
theorem dX11_spy_7 : decode cX11_spy 7 = .ok (.ifCond .ne 5, 3) := by decide +kernel
theorem dX11_spy_10 : decode cX11_spy 10 = .ok (.iconst (-1), 1) := by decide +kernel
theorem dX11_spy_11 : decode cX11_spy 11 = .ok (.ireturn, 1) := by decide +kernel
theorem dX11_spy_12 : decode cX11_spy 12 = .ok (.aload_n 0, 1) := by decide +kernel
theorem dX11_spy_13 : decode cX11_spy 13 = .ok (.invokevirtual 315, 3) := by decide +kernel
theorem dX11_spy_16 : decode cX11_spy 16 = .ok (.iconst 0, 1) := by decide +kernel
theorem dX11_spy_17 : decode cX11_spy 17 = .ok (.istore_n 2, 1) := by decide +kernel
theorem dX11_spy_18 : decode cX11_spy 18 = .ok (.iconst 0, 1) := by decide +kernel
theorem dX11_spy_19 : decode cX11_spy 19 = .ok (.istore_n 3, 1) := by decide +kernel
theorem dX11_spy_20 : decode cX11_spy 20 = .ok (.iload_n 3, 1) := by decide +kernel
theorem dX11_spy_21 : decode cX11_spy 21 = .ok (.aload_n 0, 1) := by decide +kernel
theorem dX11_spy_22 : decode cX11_spy 22 = .ok (.invokevirtual 112, 3) := by decide +kernel
theorem dX11_spy_25 : decode cX11_spy 25 = .ok (.if_icmp .ge 45, 3) := by decide +kernel
theorem dX11_spy_28 : decode cX11_spy 28 = .ok (.aload_n 0, 1) := by decide +kernel
theorem dX11_spy_29 : decode cX11_spy 29 = .ok (.getfield 65, 3) := by decide +kernel
theorem dX11_spy_32 : decode cX11_spy 32 = .ok (.iload_n 3, 1) := by decide +kernel
theorem dX11_spy_33 : decode cX11_spy 33 = .ok (.baload, 1) := by decide +kernel
theorem dX11_spy_34 : decode cX11_spy 34 = .ok (.ifCond .eq 30, 3) := by decide +kernel
theorem dX11_spy_37 : decode cX11_spy 37 = .ok (.aload_n 0, 1) := by decide +kernel
theorem dX11_spy_38 : decode cX11_spy 38 = .ok (.iload_n 3, 1) := by decide +kernel
theorem dX11_spy_39 : decode cX11_spy 39 = .ok (.invokevirtual 126, 3) := by decide +kernel
theorem dX11_spy_42 : decode cX11_spy 42 = .ok (.iconst (-1), 1) := by decide +kernel
theorem dX11_spy_43 : decode cX11_spy 43 = .ok (.if_icmp .eq 21, 3) := by decide +kernel
theorem dX11_spy_46 : decode cX11_spy 46 = .ok (.iload_n 3, 1) := by decide +kernel
theorem dX11_spy_47 : decode cX11_spy 47 = .ok (.invokestatic 259, 3) := by decide +kernel
theorem dX11_spy_50 : decode cX11_spy 50 = .ok (.iload_n 1, 1) := by decide +kernel
theorem dX11_spy_51 : decode cX11_spy 51 = .ok (.if_icmp .ne 13, 3) := by decide +kernel
theorem dX11_spy_54 : decode cX11_spy 54 = .ok (.iload_n 2, 1) := by decide +kernel
theorem dX11_spy_55 : decode cX11_spy 55 = .ok (.iconst 1, 1) := by decide +kernel
theorem dX11_spy_56 : decode cX11_spy 56 = .ok (.aload_n 0, 1) := by decide +kernel
theorem dX11_spy_57 : decode cX11_spy 57 = .ok (.iload_n 3, 1) := by decide +kernel
theorem dX11_spy_58 : decode cX11_spy 58 = .ok (.invokevirtual 126, 3) := by decide +kernel
theorem dX11_spy_61 : decode cX11_spy 61 = .ok (.ishl, 1) := by decide +kernel
theorem dX11_spy_62 : decode cX11_spy 62 = .ok (.ior, 1) := by decide +kernel
theorem dX11_spy_63 : decode cX11_spy 63 = .ok (.istore_n 2, 1) := by decide +kernel
theorem dX11_spy_64 : decode cX11_spy 64 = .ok (.iinc 3 1, 3) := by decide +kernel
theorem dX11_spy_67 : decode cX11_spy 67 = .ok (.goto (-47), 3) := by decide +kernel
theorem dX11_spy_70 : decode cX11_spy 70 = .ok (.iload_n 2, 1) := by decide +kernel
theorem dX11_spy_71 : decode cX11_spy 71 = .ok (.ireturn, 1) := by decide +kernel
theorem dX11_want_0 : decode cX11_want 0 = .ok (.aload_n 0, 1) := by decide +kernel
theorem dX11_want_1 : decode cX11_want 1 = .ok (.iload_n 1, 1) := by decide +kernel
theorem dX11_want_2 : decode cX11_want 2 = .ok (.invokevirtual 123, 3) := by decide +kernel
theorem dX11_want_5 : decode cX11_want 5 = .ok (.ifCond .ne 9, 3) := by decide +kernel
theorem dX11_want_8 : decode cX11_want 8 = .ok (.aload_n 0, 1) := by decide +kernel
theorem dX11_want_9 : decode cX11_want 9 = .ok (.iconst (-1), 1) := by decide +kernel
theorem dX11_want_10 : decode cX11_want 10 = .ok (.invokevirtual 105, 3) := by decide +kernel
theorem dX11_want_13 : decode cX11_want 13 = .ok (.ireturn, 1) := by decide +kernel
theorem dX11_want_14 : decode cX11_want 14 = .ok (.aload_n 0, 1) := by decide +kernel
theorem dX11_want_15 : decode cX11_want 15 = .ok (.getfield 20, 3) := by decide +kernel
theorem dX11_want_18 : decode cX11_want 18 = .ok (.sipush 309, 3) := by decide +kernel
theorem dX11_want_21 : decode cX11_want 21 = .ok (.iaload, 1) := by decide +kernel
theorem dX11_want_22 : decode cX11_want 22 = .ok (.bipush 16, 2) := by decide +kernel
theorem dX11_want_24 : decode cX11_want 24 = .ok (.if_icmp .ne 10, 3) := by decide +kernel
theorem dX11_want_27 : decode cX11_want 27 = .ok (.aload_n 0, 1) := by decide +kernel
theorem dX11_want_28 : decode cX11_want 28 = .ok (.bipush (-5), 2) := by decide +kernel
theorem dX11_want_30 : decode cX11_want 30 = .ok (.invokevirtual 105, 3) := by decide +kernel
theorem dX11_want_33 : decode cX11_want 33 = .ok (.ireturn, 1) := by decide +kernel
theorem dX11_want_34 : decode cX11_want 34 = .ok (.aload_n 0, 1) := by decide +kernel
theorem dX11_want_35 : decode cX11_want 35 = .ok (.getfield 20, 3) := by decide +kernel
theorem dX11_want_38 : decode cX11_want 38 = .ok (.sipush 288, 3) := by decide +kernel
theorem dX11_want_41 : decode cX11_want 41 = .ok (.aload_n 0, 1) := by decide +kernel
theorem dX11_want_42 : decode cX11_want 42 = .ok (.getfield 20, 3) := by decide +kernel
theorem dX11_want_45 : decode cX11_want 45 = .ok (.sipush 309, 3) := by decide +kernel
theorem dX11_want_48 : decode cX11_want 48 = .ok (.iaload, 1) := by decide +kernel
theorem dX11_want_49 : decode cX11_want 49 = .ok (.iadd, 1) := by decide +kernel
theorem dX11_want_50 : decode cX11_want 50 = .ok (.iload_n 1, 1) := by decide +kernel
theorem dX11_want_51 : decode cX11_want 51 = .ok (.iastore, 1) := by decide +kernel
theorem dX11_want_52 : decode cX11_want 52 = .ok (.aload_n 0, 1) := by decide +kernel
theorem dX11_want_53 : decode cX11_want 53 = .ok (.getfield 20, 3) := by decide +kernel
theorem dX11_want_56 : decode cX11_want 56 = .ok (.sipush 309, 3) := by decide +kernel
theorem dX11_want_59 : decode cX11_want 59 = .ok (.dup2, 1) := by decide +kernel
theorem dX11_want_60 : decode cX11_want 60 = .ok (.iaload, 1) := by decide +kernel
theorem dX11_want_61 : decode cX11_want 61 = .ok (.iconst 1, 1) := by decide +kernel
theorem dX11_want_62 : decode cX11_want 62 = .ok (.iadd, 1) := by decide +kernel
theorem dX11_want_63 : decode cX11_want 63 = .ok (.iastore, 1) := by decide +kernel
theorem dX11_want_64 : decode cX11_want 64 = .ok (.aload_n 0, 1) := by decide +kernel
theorem dX11_want_65 : decode cX11_want 65 = .ok (.aload_n 0, 1) := by decide +kernel
theorem dX11_want_66 : decode cX11_want 66 = .ok (.getfield 20, 3) := by decide +kernel
theorem dX11_want_69 : decode cX11_want 69 = .ok (.sipush 309, 3) := by decide +kernel
theorem dX11_want_72 : decode cX11_want 72 = .ok (.iaload, 1) := by decide +kernel
theorem dX11_want_73 : decode cX11_want 73 = .ok (.invokevirtual 109, 3) := by decide +kernel
theorem dX11_want_76 : decode cX11_want 76 = .ok (.ireturn, 1) := by decide +kernel
theorem dX11_unwant_0 : decode cX11_unwant 0 = .ok (.aload_n 0, 1) := by decide +kernel
theorem dX11_unwant_1 : decode cX11_unwant 1 = .ok (.getfield 20, 3) := by decide +kernel
theorem dX11_unwant_4 : decode cX11_unwant 4 = .ok (.sipush 309, 3) := by decide +kernel
theorem dX11_unwant_7 : decode cX11_unwant 7 = .ok (.iaload, 1) := by decide +kernel
theorem dX11_unwant_8 : decode cX11_unwant 8 = .ok (.istore_n 1, 1) := by decide +kernel
theorem dX11_unwant_9 : decode cX11_unwant 9 = .ok (.aload_n 0, 1) := by decide +kernel
theorem dX11_unwant_10 : decode cX11_unwant 10 = .ok (.getfield 20, 3) := by decide +kernel
theorem dX11_unwant_13 : decode cX11_unwant 13 = .ok (.sipush 309, 3) := by decide +kernel
theorem dX11_unwant_16 : decode cX11_unwant 16 = .ok (.iconst 0, 1) := by decide +kernel
theorem dX11_unwant_17 : decode cX11_unwant 17 = .ok (.iastore, 1) := by decide +kernel
theorem dX11_unwant_18 : decode cX11_unwant 18 = .ok (.aload_n 0, 1) := by decide +kernel
theorem dX11_unwant_19 : decode cX11_unwant 19 = .ok (.dup, 1) := by decide +kernel
theorem dX11_unwant_20 : decode cX11_unwant 20 = .ok (.getfield 11, 3) := by decide +kernel
theorem dX11_unwant_23 : decode cX11_unwant 23 = .ok (.iconst 1, 1) := by decide +kernel
theorem dX11_unwant_24 : decode cX11_unwant 24 = .ok (.iadd, 1) := by decide +kernel
theorem dX11_unwant_25 : decode cX11_unwant 25 = .ok (.putfield 11, 3) := by decide +kernel
theorem dX11_unwant_28 : decode cX11_unwant 28 = .ok (.iload_n 1, 1) := by decide +kernel
theorem dX11_unwant_29 : decode cX11_unwant 29 = .ok (.ireturn, 1) := by decide +kernel
theorem dX11_plans_0 : decode cX11_plans 0 = .ok (.aload_n 0, 1) := by decide +kernel
theorem dX11_plans_1 : decode cX11_plans 1 = .ok (.getfield 20, 3) := by decide +kernel
theorem dX11_plans_4 : decode cX11_plans 4 = .ok (.sipush 309, 3) := by decide +kernel
theorem dX11_plans_7 : decode cX11_plans 7 = .ok (.iaload, 1) := by decide +kernel
theorem dX11_plans_8 : decode cX11_plans 8 = .ok (.istore_n 1, 1) := by decide +kernel
theorem dX11_plans_9 : decode cX11_plans 9 = .ok (.iconst 0, 1) := by decide +kernel
theorem dX11_plans_10 : decode cX11_plans 10 = .ok (.istore_n 2, 1) := by decide +kernel
theorem dX11_plans_11 : decode cX11_plans 11 = .ok (.iload_n 2, 1) := by decide +kernel
theorem dX11_plans_12 : decode cX11_plans 12 = .ok (.aload_n 0, 1) := by decide +kernel
theorem dX11_plans_13 : decode cX11_plans 13 = .ok (.invokevirtual 112, 3) := by decide +kernel
theorem dX11_plans_16 : decode cX11_plans 16 = .ok (.if_icmp .ge 35, 3) := by decide +kernel
theorem dX11_plans_19 : decode cX11_plans 19 = .ok (.aload_n 0, 1) := by decide +kernel
theorem dX11_plans_20 : decode cX11_plans 20 = .ok (.getfield 86, 3) := by decide +kernel
theorem dX11_plans_23 : decode cX11_plans 23 = .ok (.sipush 256, 3) := by decide +kernel
theorem dX11_plans_26 : decode cX11_plans 26 = .ok (.iload_n 1, 1) := by decide +kernel
theorem dX11_plans_27 : decode cX11_plans 27 = .ok (.imul, 1) := by decide +kernel
theorem dX11_plans_28 : decode cX11_plans 28 = .ok (.iload_n 2, 1) := by decide +kernel
theorem dX11_plans_29 : decode cX11_plans 29 = .ok (.iadd, 1) := by decide +kernel
theorem dX11_plans_30 : decode cX11_plans 30 = .ok (.iconst 0, 1) := by decide +kernel
theorem dX11_plans_31 : decode cX11_plans 31 = .ok (.iastore, 1) := by decide +kernel
theorem dX11_plans_32 : decode cX11_plans 32 = .ok (.aload_n 0, 1) := by decide +kernel
theorem dX11_plans_33 : decode cX11_plans 33 = .ok (.getfield 89, 3) := by decide +kernel
theorem dX11_plans_36 : decode cX11_plans 36 = .ok (.sipush 256, 3) := by decide +kernel
theorem dX11_plans_39 : decode cX11_plans 39 = .ok (.iload_n 1, 1) := by decide +kernel
theorem dX11_plans_40 : decode cX11_plans 40 = .ok (.imul, 1) := by decide +kernel
theorem dX11_plans_41 : decode cX11_plans 41 = .ok (.iload_n 2, 1) := by decide +kernel
theorem dX11_plans_42 : decode cX11_plans 42 = .ok (.iadd, 1) := by decide +kernel
theorem dX11_plans_43 : decode cX11_plans 43 = .ok (.iconst 1, 1) := by decide +kernel
theorem dX11_plans_44 : decode cX11_plans 44 = .ok (.iastore, 1) := by decide +kernel
theorem dX11_plans_45 : decode cX11_plans 45 = .ok (.iinc 2 1, 3) := by decide +kernel
theorem dX11_plans_48 : decode cX11_plans 48 = .ok (.goto (-37), 3) := by decide +kernel
theorem dX11_plans_51 : decode cX11_plans 51 = .ok (.iload_n 1, 1) := by decide +kernel
theorem dX11_plans_52 : decode cX11_plans 52 = .ok (.iconst 1, 1) := by decide +kernel
theorem dX11_plans_53 : decode cX11_plans 53 = .ok (.isub, 1) := by decide +kernel
theorem dX11_plans_54 : decode cX11_plans 54 = .ok (.istore_n 2, 1) := by decide +kernel
theorem dX11_plans_55 : decode cX11_plans 55 = .ok (.iload_n 2, 1) := by decide +kernel
theorem dX11_plans_56 : decode cX11_plans 56 = .ok (.ifCond .lt 232, 3) := by decide +kernel
theorem dX11_plans_59 : decode cX11_plans 59 = .ok (.iconst 0, 1) := by decide +kernel
theorem dX11_plans_60 : decode cX11_plans 60 = .ok (.istore_n 3, 1) := by decide +kernel
theorem dX11_plans_61 : decode cX11_plans 61 = .ok (.iload_n 3, 1) := by decide +kernel
theorem dX11_plans_62 : decode cX11_plans 62 = .ok (.aload_n 0, 1) := by decide +kernel
theorem dX11_plans_63 : decode cX11_plans 63 = .ok (.invokevirtual 112, 3) := by decide +kernel
theorem dX11_plans_66 : decode cX11_plans 66 = .ok (.if_icmp .ge 216, 3) := by decide +kernel
theorem dX11_plans_69 : decode cX11_plans 69 = .ok (.ldc_w 270, 3) := by decide +kernel
theorem dX11_plans_72 : decode cX11_plans 72 = .ok (.istore 4, 2) := by decide +kernel
theorem dX11_plans_74 : decode cX11_plans 74 = .ok (.iconst 0, 1) := by decide +kernel
theorem dX11_plans_75 : decode cX11_plans 75 = .ok (.istore 5, 2) := by decide +kernel
theorem dX11_plans_77 : decode cX11_plans 77 = .ok (.iload_n 3, 1) := by decide +kernel
theorem dX11_plans_78 : decode cX11_plans 78 = .ok (.istore 6, 2) := by decide +kernel
theorem dX11_plans_80 : decode cX11_plans 80 = .ok (.iload 6, 2) := by decide +kernel
theorem dX11_plans_82 : decode cX11_plans 82 = .ok (.aload_n 0, 1) := by decide +kernel
theorem dX11_plans_83 : decode cX11_plans 83 = .ok (.invokevirtual 112, 3) := by decide +kernel
theorem dX11_plans_86 : decode cX11_plans 86 = .ok (.if_icmp .ge 162, 3) := by decide +kernel
theorem dX11_plans_89 : decode cX11_plans 89 = .ok (.sipush 256, 3) := by decide +kernel
theorem dX11_plans_92 : decode cX11_plans 92 = .ok (.iload_n 2, 1) := by decide +kernel
theorem dX11_plans_93 : decode cX11_plans 93 = .ok (.iconst 1, 1) := by decide +kernel
theorem dX11_plans_94 : decode cX11_plans 94 = .ok (.iadd, 1) := by decide +kernel
theorem dX11_plans_95 : decode cX11_plans 95 = .ok (.imul, 1) := by decide +kernel
theorem dX11_plans_96 : decode cX11_plans 96 = .ok (.iload 6, 2) := by decide +kernel
theorem dX11_plans_98 : decode cX11_plans 98 = .ok (.iadd, 1) := by decide +kernel
theorem dX11_plans_99 : decode cX11_plans 99 = .ok (.istore 7, 2) := by decide +kernel
theorem dX11_plans_101 : decode cX11_plans 101 = .ok (.aload_n 0, 1) := by decide +kernel
theorem dX11_plans_102 : decode cX11_plans 102 = .ok (.iload 6, 2) := by decide +kernel
theorem dX11_plans_104 : decode cX11_plans 104 = .ok (.invokevirtual 126, 3) := by decide +kernel
theorem dX11_plans_107 : decode cX11_plans 107 = .ok (.aload_n 0, 1) := by decide +kernel
theorem dX11_plans_108 : decode cX11_plans 108 = .ok (.getfield 20, 3) := by decide +kernel
theorem dX11_plans_111 : decode cX11_plans 111 = .ok (.sipush 288, 3) := by decide +kernel
theorem dX11_plans_114 : decode cX11_plans 114 = .ok (.iload_n 2, 1) := by decide +kernel
theorem dX11_plans_115 : decode cX11_plans 115 = .ok (.iadd, 1) := by decide +kernel
theorem dX11_plans_116 : decode cX11_plans 116 = .ok (.iaload, 1) := by decide +kernel
theorem dX11_plans_117 : decode cX11_plans 117 = .ok (.if_icmp .ne 125, 3) := by decide +kernel
theorem dX11_plans_120 : decode cX11_plans 120 = .ok (.aload_n 0, 1) := by decide +kernel
theorem dX11_plans_121 : decode cX11_plans 121 = .ok (.iload_n 3, 1) := by decide +kernel
theorem dX11_plans_122 : decode cX11_plans 122 = .ok (.iload 6, 2) := by decide +kernel
theorem dX11_plans_124 : decode cX11_plans 124 = .ok (.aload_n 0, 1) := by decide +kernel
theorem dX11_plans_125 : decode cX11_plans 125 = .ok (.getfield 20, 3) := by decide +kernel
theorem dX11_plans_128 : decode cX11_plans 128 = .ok (.sipush 306, 3) := by decide +kernel
theorem dX11_plans_131 : decode cX11_plans 131 = .ok (.iaload, 1) := by decide +kernel
theorem dX11_plans_132 : decode cX11_plans 132 = .ok (.invokevirtual 271, 3) := by decide +kernel
theorem dX11_plans_135 : decode cX11_plans 135 = .ok (.ifCond .eq 107, 3) := by decide +kernel
theorem dX11_plans_138 : decode cX11_plans 138 = .ok (.aload_n 0, 1) := by decide +kernel
theorem dX11_plans_139 : decode cX11_plans 139 = .ok (.getfield 86, 3) := by decide +kernel
theorem dX11_plans_142 : decode cX11_plans 142 = .ok (.iload 7, 2) := by decide +kernel
theorem dX11_plans_144 : decode cX11_plans 144 = .ok (.iaload, 1) := by decide +kernel
theorem dX11_plans_145 : decode cX11_plans 145 = .ok (.ldc_w 270, 3) := by decide +kernel
theorem dX11_plans_148 : decode cX11_plans 148 = .ok (.if_icmp .ne 6, 3) := by decide +kernel
theorem dX11_plans_151 : decode cX11_plans 151 = .ok (.goto 91, 3) := by decide +kernel
theorem dX11_plans_154 : decode cX11_plans 154 = .ok (.aload_n 0, 1) := by decide +kernel
theorem dX11_plans_155 : decode cX11_plans 155 = .ok (.iload 6, 2) := by decide +kernel
theorem dX11_plans_157 : decode cX11_plans 157 = .ok (.iload_n 3, 1) := by decide +kernel
theorem dX11_plans_158 : decode cX11_plans 158 = .ok (.iconst (-1), 1) := by decide +kernel
theorem dX11_plans_159 : decode cX11_plans 159 = .ok (.ixor, 1) := by decide +kernel
theorem dX11_plans_160 : decode cX11_plans 160 = .ok (.iand, 1) := by decide +kernel
theorem dX11_plans_161 : decode cX11_plans 161 = .ok (.invokevirtual 301, 3) := by decide +kernel
theorem dX11_plans_164 : decode cX11_plans 164 = .ok (.aload_n 0, 1) := by decide +kernel
theorem dX11_plans_165 : decode cX11_plans 165 = .ok (.getfield 86, 3) := by decide +kernel
theorem dX11_plans_168 : decode cX11_plans 168 = .ok (.iload 7, 2) := by decide +kernel
theorem dX11_plans_170 : decode cX11_plans 170 = .ok (.iaload, 1) := by decide +kernel
theorem dX11_plans_171 : decode cX11_plans 171 = .ok (.iadd, 1) := by decide +kernel
theorem dX11_plans_172 : decode cX11_plans 172 = .ok (.istore 8, 2) := by decide +kernel
theorem dX11_plans_174 : decode cX11_plans 174 = .ok (.iload 8, 2) := by decide +kernel
theorem dX11_plans_176 : decode cX11_plans 176 = .ok (.iload 4, 2) := by decide +kernel
theorem dX11_plans_178 : decode cX11_plans 178 = .ok (.if_icmp .le 6, 3) := by decide +kernel
theorem dX11_plans_181 : decode cX11_plans 181 = .ok (.goto 61, 3) := by decide +kernel
theorem dX11_plans_184 : decode cX11_plans 184 = .ok (.iload 8, 2) := by decide +kernel
theorem dX11_plans_186 : decode cX11_plans 186 = .ok (.iload 4, 2) := by decide +kernel
theorem dX11_plans_188 : decode cX11_plans 188 = .ok (.if_icmp .ge 13, 3) := by decide +kernel
theorem dX11_plans_191 : decode cX11_plans 191 = .ok (.aload_n 0, 1) := by decide +kernel
theorem dX11_plans_192 : decode cX11_plans 192 = .ok (.getfield 89, 3) := by decide +kernel
theorem dX11_plans_195 : decode cX11_plans 195 = .ok (.iload 7, 2) := by decide +kernel
theorem dX11_plans_197 : decode cX11_plans 197 = .ok (.iaload, 1) := by decide +kernel
theorem dX11_plans_198 : decode cX11_plans 198 = .ok (.goto 38, 3) := by decide +kernel
theorem dX11_plans_201 : decode cX11_plans 201 = .ok (.iload 5, 2) := by decide +kernel
theorem dX11_plans_203 : decode cX11_plans 203 = .ok (.i2l, 1) := by decide +kernel
theorem dX11_plans_204 : decode cX11_plans 204 = .ok (.aload_n 0, 1) := by decide +kernel
theorem dX11_plans_205 : decode cX11_plans 205 = .ok (.getfield 89, 3) := by decide +kernel
theorem dX11_plans_208 : decode cX11_plans 208 = .ok (.iload 7, 2) := by decide +kernel
theorem dX11_plans_210 : decode cX11_plans 210 = .ok (.iaload, 1) := by decide +kernel
theorem dX11_plans_211 : decode cX11_plans 211 = .ok (.i2l, 1) := by decide +kernel
theorem dX11_plans_212 : decode cX11_plans 212 = .ok (.ladd, 1) := by decide +kernel
theorem dX11_plans_213 : decode cX11_plans 213 = .ok (.ldc2_w 221, 3) := by decide +kernel
theorem dX11_plans_216 : decode cX11_plans 216 = .ok (.lcmp, 1) := by decide +kernel
theorem dX11_plans_217 : decode cX11_plans 217 = .ok (.ifCond .le 9, 3) := by decide +kernel
theorem dX11_plans_220 : decode cX11_plans 220 = .ok (.ldc_w 270, 3) := by decide +kernel
theorem dX11_plans_223 : decode cX11_plans 223 = .ok (.goto 13, 3) := by decide +kernel
theorem dX11_plans_226 : decode cX11_plans 226 = .ok (.iload 5, 2) := by decide +kernel
theorem dX11_plans_228 : decode cX11_plans 228 = .ok (.aload_n 0, 1) := by decide +kernel
theorem dX11_plans_229 : decode cX11_plans 229 = .ok (.getfield 89, 3) := by decide +kernel
theorem dX11_plans_232 : decode cX11_plans 232 = .ok (.iload 7, 2) := by decide +kernel
theorem dX11_plans_234 : decode cX11_plans 234 = .ok (.iaload, 1) := by decide +kernel
theorem dX11_plans_235 : decode cX11_plans 235 = .ok (.iadd, 1) := by decide +kernel
theorem dX11_plans_236 : decode cX11_plans 236 = .ok (.istore 5, 2) := by decide +kernel
theorem dX11_plans_238 : decode cX11_plans 238 = .ok (.iload 8, 2) := by decide +kernel
theorem dX11_plans_240 : decode cX11_plans 240 = .ok (.istore 4, 2) := by decide +kernel
theorem dX11_plans_242 : decode cX11_plans 242 = .ok (.iinc 6 1, 3) := by decide +kernel
theorem dX11_plans_245 : decode cX11_plans 245 = .ok (.goto (-165), 3) := by decide +kernel
theorem dX11_plans_248 : decode cX11_plans 248 = .ok (.aload_n 0, 1) := by decide +kernel
theorem dX11_plans_249 : decode cX11_plans 249 = .ok (.getfield 86, 3) := by decide +kernel
theorem dX11_plans_252 : decode cX11_plans 252 = .ok (.sipush 256, 3) := by decide +kernel
theorem dX11_plans_255 : decode cX11_plans 255 = .ok (.iload_n 2, 1) := by decide +kernel
theorem dX11_plans_256 : decode cX11_plans 256 = .ok (.imul, 1) := by decide +kernel
theorem dX11_plans_257 : decode cX11_plans 257 = .ok (.iload_n 3, 1) := by decide +kernel
theorem dX11_plans_258 : decode cX11_plans 258 = .ok (.iadd, 1) := by decide +kernel
theorem dX11_plans_259 : decode cX11_plans 259 = .ok (.iload 4, 2) := by decide +kernel
theorem dX11_plans_261 : decode cX11_plans 261 = .ok (.iastore, 1) := by decide +kernel
theorem dX11_plans_262 : decode cX11_plans 262 = .ok (.aload_n 0, 1) := by decide +kernel
theorem dX11_plans_263 : decode cX11_plans 263 = .ok (.getfield 89, 3) := by decide +kernel
theorem dX11_plans_266 : decode cX11_plans 266 = .ok (.sipush 256, 3) := by decide +kernel
theorem dX11_plans_269 : decode cX11_plans 269 = .ok (.iload_n 2, 1) := by decide +kernel
theorem dX11_plans_270 : decode cX11_plans 270 = .ok (.imul, 1) := by decide +kernel
theorem dX11_plans_271 : decode cX11_plans 271 = .ok (.iload_n 3, 1) := by decide +kernel
theorem dX11_plans_272 : decode cX11_plans 272 = .ok (.iadd, 1) := by decide +kernel
theorem dX11_plans_273 : decode cX11_plans 273 = .ok (.iload 5, 2) := by decide +kernel
theorem dX11_plans_275 : decode cX11_plans 275 = .ok (.iastore, 1) := by decide +kernel
theorem dX11_plans_276 : decode cX11_plans 276 = .ok (.iinc 3 1, 3) := by decide +kernel
theorem dX11_plans_279 : decode cX11_plans 279 = .ok (.goto (-218), 3) := by decide +kernel
theorem dX11_plans_282 : decode cX11_plans 282 = .ok (.iinc 2 (-1), 3) := by decide +kernel
theorem dX11_plans_285 : decode cX11_plans 285 = .ok (.goto (-230), 3) := by decide +kernel
theorem dX11_plans_288 : decode cX11_plans 288 = .ok (.return_, 1) := by decide +kernel
theorem dX11_cheap_0 : decode cX11_cheap 0 = .ok (.iload_n 1, 1) := by decide +kernel
theorem dX11_cheap_1 : decode cX11_cheap 1 = .ok (.iconst 0, 1) := by decide +kernel
theorem dX11_cheap_2 : decode cX11_cheap 2 = .ok (.iconst 1, 1) := by decide +kernel
theorem dX11_cheap_3 : decode cX11_cheap 3 = .ok (.invokestatic 101, 3) := by decide +kernel
theorem dX11_cheap_6 : decode cX11_cheap 6 = .ok (.ifCond .ne 5, 3) := by decide +kernel
theorem dX11_cheap_9 : decode cX11_cheap 9 = .ok (.iconst (-1), 1) := by decide +kernel
theorem dX11_cheap_10 : decode cX11_cheap 10 = .ok (.ireturn, 1) := by decide +kernel
theorem dX11_cheap_11 : decode cX11_cheap 11 = .ok (.aload_n 0, 1) := by decide +kernel
theorem dX11_cheap_12 : decode cX11_cheap 12 = .ok (.invokevirtual 341, 3) := by decide +kernel
theorem dX11_cheap_15 : decode cX11_cheap 15 = .ok (.iload_n 1, 1) := by decide +kernel
theorem dX11_cheap_16 : decode cX11_cheap 16 = .ok (.iconst 1, 1) := by decide +kernel
theorem dX11_cheap_17 : decode cX11_cheap 17 = .ok (.if_icmp .ne 12, 3) := by decide +kernel
theorem dX11_cheap_20 : decode cX11_cheap 20 = .ok (.aload_n 0, 1) := by decide +kernel
theorem dX11_cheap_21 : decode cX11_cheap 21 = .ok (.getfield 89, 3) := by decide +kernel
theorem dX11_cheap_24 : decode cX11_cheap 24 = .ok (.iconst 0, 1) := by decide +kernel
theorem dX11_cheap_25 : decode cX11_cheap 25 = .ok (.iaload, 1) := by decide +kernel
theorem dX11_cheap_26 : decode cX11_cheap 26 = .ok (.goto 25, 3) := by decide +kernel
theorem dX11_cheap_29 : decode cX11_cheap 29 = .ok (.aload_n 0, 1) := by decide +kernel
theorem dX11_cheap_30 : decode cX11_cheap 30 = .ok (.getfield 86, 3) := by decide +kernel
theorem dX11_cheap_33 : decode cX11_cheap 33 = .ok (.iconst 0, 1) := by decide +kernel
theorem dX11_cheap_34 : decode cX11_cheap 34 = .ok (.iaload, 1) := by decide +kernel
theorem dX11_cheap_35 : decode cX11_cheap 35 = .ok (.ldc_w 270, 3) := by decide +kernel
theorem dX11_cheap_38 : decode cX11_cheap 38 = .ok (.if_icmp .ne 7, 3) := by decide +kernel
theorem dX11_cheap_41 : decode cX11_cheap 41 = .ok (.iconst (-1), 1) := by decide +kernel
theorem dX11_cheap_42 : decode cX11_cheap 42 = .ok (.goto 9, 3) := by decide +kernel
theorem dX11_cheap_45 : decode cX11_cheap 45 = .ok (.aload_n 0, 1) := by decide +kernel
theorem dX11_cheap_46 : decode cX11_cheap 46 = .ok (.getfield 86, 3) := by decide +kernel
theorem dX11_cheap_49 : decode cX11_cheap 49 = .ok (.iconst 0, 1) := by decide +kernel
theorem dX11_cheap_50 : decode cX11_cheap 50 = .ok (.iaload, 1) := by decide +kernel
theorem dX11_cheap_51 : decode cX11_cheap 51 = .ok (.ireturn, 1) := by decide +kernel
theorem dX11_plan_0 : decode cX11_plan 0 = .ok (.iload_n 1, 1) := by decide +kernel
theorem dX11_plan_1 : decode cX11_plan 1 = .ok (.iconst 0, 1) := by decide +kernel
theorem dX11_plan_2 : decode cX11_plan 2 = .ok (.aload_n 0, 1) := by decide +kernel
theorem dX11_plan_3 : decode cX11_plan 3 = .ok (.getfield 20, 3) := by decide +kernel
theorem dX11_plan_6 : decode cX11_plan 6 = .ok (.sipush 309, 3) := by decide +kernel
theorem dX11_plan_9 : decode cX11_plan 9 = .ok (.iaload, 1) := by decide +kernel
theorem dX11_plan_10 : decode cX11_plan 10 = .ok (.iconst 1, 1) := by decide +kernel
theorem dX11_plan_11 : decode cX11_plan 11 = .ok (.isub, 1) := by decide +kernel
theorem dX11_plan_12 : decode cX11_plan 12 = .ok (.invokestatic 101, 3) := by decide +kernel
theorem dX11_plan_15 : decode cX11_plan 15 = .ok (.ifCond .ne 5, 3) := by decide +kernel
theorem dX11_plan_18 : decode cX11_plan 18 = .ok (.iconst (-1), 1) := by decide +kernel
theorem dX11_plan_19 : decode cX11_plan 19 = .ok (.ireturn, 1) := by decide +kernel
theorem dX11_plan_20 : decode cX11_plan 20 = .ok (.aload_n 0, 1) := by decide +kernel
theorem dX11_plan_21 : decode cX11_plan 21 = .ok (.invokevirtual 341, 3) := by decide +kernel
theorem dX11_plan_24 : decode cX11_plan 24 = .ok (.aload_n 0, 1) := by decide +kernel
theorem dX11_plan_25 : decode cX11_plan 25 = .ok (.getfield 86, 3) := by decide +kernel
theorem dX11_plan_28 : decode cX11_plan 28 = .ok (.iconst 0, 1) := by decide +kernel
theorem dX11_plan_29 : decode cX11_plan 29 = .ok (.iaload, 1) := by decide +kernel
theorem dX11_plan_30 : decode cX11_plan 30 = .ok (.ldc_w 270, 3) := by decide +kernel
theorem dX11_plan_33 : decode cX11_plan 33 = .ok (.if_icmp .ne 5, 3) := by decide +kernel
theorem dX11_plan_36 : decode cX11_plan 36 = .ok (.iconst (-1), 1) := by decide +kernel
theorem dX11_plan_37 : decode cX11_plan 37 = .ok (.ireturn, 1) := by decide +kernel
theorem dX11_plan_38 : decode cX11_plan 38 = .ok (.iconst 0, 1) := by decide +kernel
theorem dX11_plan_39 : decode cX11_plan 39 = .ok (.istore_n 2, 1) := by decide +kernel
theorem dX11_plan_40 : decode cX11_plan 40 = .ok (.iconst 0, 1) := by decide +kernel
theorem dX11_plan_41 : decode cX11_plan 41 = .ok (.istore_n 3, 1) := by decide +kernel
theorem dX11_plan_42 : decode cX11_plan 42 = .ok (.iload_n 3, 1) := by decide +kernel
theorem dX11_plan_43 : decode cX11_plan 43 = .ok (.iload_n 1, 1) := by decide +kernel
theorem dX11_plan_44 : decode cX11_plan 44 = .ok (.if_icmp .gt 120, 3) := by decide +kernel
theorem dX11_plan_47 : decode cX11_plan 47 = .ok (.iload_n 2, 1) := by decide +kernel
theorem dX11_plan_48 : decode cX11_plan 48 = .ok (.istore 4, 2) := by decide +kernel
theorem dX11_plan_50 : decode cX11_plan 50 = .ok (.aload_n 0, 1) := by decide +kernel
theorem dX11_plan_51 : decode cX11_plan 51 = .ok (.iload 4, 2) := by decide +kernel
theorem dX11_plan_53 : decode cX11_plan 53 = .ok (.invokevirtual 126, 3) := by decide +kernel
theorem dX11_plan_56 : decode cX11_plan 56 = .ok (.aload_n 0, 1) := by decide +kernel
theorem dX11_plan_57 : decode cX11_plan 57 = .ok (.getfield 20, 3) := by decide +kernel
theorem dX11_plan_60 : decode cX11_plan 60 = .ok (.sipush 288, 3) := by decide +kernel
theorem dX11_plan_63 : decode cX11_plan 63 = .ok (.iload_n 3, 1) := by decide +kernel
theorem dX11_plan_64 : decode cX11_plan 64 = .ok (.iadd, 1) := by decide +kernel
theorem dX11_plan_65 : decode cX11_plan 65 = .ok (.iaload, 1) := by decide +kernel
theorem dX11_plan_66 : decode cX11_plan 66 = .ok (.if_icmp .ne 83, 3) := by decide +kernel
theorem dX11_plan_69 : decode cX11_plan 69 = .ok (.aload_n 0, 1) := by decide +kernel
theorem dX11_plan_70 : decode cX11_plan 70 = .ok (.iload_n 2, 1) := by decide +kernel
theorem dX11_plan_71 : decode cX11_plan 71 = .ok (.iload 4, 2) := by decide +kernel
theorem dX11_plan_73 : decode cX11_plan 73 = .ok (.aload_n 0, 1) := by decide +kernel
theorem dX11_plan_74 : decode cX11_plan 74 = .ok (.getfield 20, 3) := by decide +kernel
theorem dX11_plan_77 : decode cX11_plan 77 = .ok (.sipush 306, 3) := by decide +kernel
theorem dX11_plan_80 : decode cX11_plan 80 = .ok (.iaload, 1) := by decide +kernel
theorem dX11_plan_81 : decode cX11_plan 81 = .ok (.invokevirtual 271, 3) := by decide +kernel
theorem dX11_plan_84 : decode cX11_plan 84 = .ok (.ifCond .eq 65, 3) := by decide +kernel
theorem dX11_plan_87 : decode cX11_plan 87 = .ok (.aload_n 0, 1) := by decide +kernel
theorem dX11_plan_88 : decode cX11_plan 88 = .ok (.getfield 86, 3) := by decide +kernel
theorem dX11_plan_91 : decode cX11_plan 91 = .ok (.sipush 256, 3) := by decide +kernel
theorem dX11_plan_94 : decode cX11_plan 94 = .ok (.iload_n 3, 1) := by decide +kernel
theorem dX11_plan_95 : decode cX11_plan 95 = .ok (.iconst 1, 1) := by decide +kernel
theorem dX11_plan_96 : decode cX11_plan 96 = .ok (.iadd, 1) := by decide +kernel
theorem dX11_plan_97 : decode cX11_plan 97 = .ok (.imul, 1) := by decide +kernel
theorem dX11_plan_98 : decode cX11_plan 98 = .ok (.iload 4, 2) := by decide +kernel
theorem dX11_plan_100 : decode cX11_plan 100 = .ok (.iadd, 1) := by decide +kernel
theorem dX11_plan_101 : decode cX11_plan 101 = .ok (.iaload, 1) := by decide +kernel
theorem dX11_plan_102 : decode cX11_plan 102 = .ok (.ldc_w 270, 3) := by decide +kernel
theorem dX11_plan_105 : decode cX11_plan 105 = .ok (.if_icmp .eq 44, 3) := by decide +kernel
theorem dX11_plan_108 : decode cX11_plan 108 = .ok (.aload_n 0, 1) := by decide +kernel
theorem dX11_plan_109 : decode cX11_plan 109 = .ok (.iload 4, 2) := by decide +kernel
theorem dX11_plan_111 : decode cX11_plan 111 = .ok (.iload_n 2, 1) := by decide +kernel
theorem dX11_plan_112 : decode cX11_plan 112 = .ok (.iconst (-1), 1) := by decide +kernel
theorem dX11_plan_113 : decode cX11_plan 113 = .ok (.ixor, 1) := by decide +kernel
theorem dX11_plan_114 : decode cX11_plan 114 = .ok (.iand, 1) := by decide +kernel
theorem dX11_plan_115 : decode cX11_plan 115 = .ok (.invokevirtual 301, 3) := by decide +kernel
theorem dX11_plan_118 : decode cX11_plan 118 = .ok (.aload_n 0, 1) := by decide +kernel
theorem dX11_plan_119 : decode cX11_plan 119 = .ok (.getfield 86, 3) := by decide +kernel
theorem dX11_plan_122 : decode cX11_plan 122 = .ok (.sipush 256, 3) := by decide +kernel
theorem dX11_plan_125 : decode cX11_plan 125 = .ok (.iload_n 3, 1) := by decide +kernel
theorem dX11_plan_126 : decode cX11_plan 126 = .ok (.iconst 1, 1) := by decide +kernel
theorem dX11_plan_127 : decode cX11_plan 127 = .ok (.iadd, 1) := by decide +kernel
theorem dX11_plan_128 : decode cX11_plan 128 = .ok (.imul, 1) := by decide +kernel
theorem dX11_plan_129 : decode cX11_plan 129 = .ok (.iload 4, 2) := by decide +kernel
theorem dX11_plan_131 : decode cX11_plan 131 = .ok (.iadd, 1) := by decide +kernel
theorem dX11_plan_132 : decode cX11_plan 132 = .ok (.iaload, 1) := by decide +kernel
theorem dX11_plan_133 : decode cX11_plan 133 = .ok (.iadd, 1) := by decide +kernel
theorem dX11_plan_134 : decode cX11_plan 134 = .ok (.aload_n 0, 1) := by decide +kernel
theorem dX11_plan_135 : decode cX11_plan 135 = .ok (.getfield 86, 3) := by decide +kernel
theorem dX11_plan_138 : decode cX11_plan 138 = .ok (.sipush 256, 3) := by decide +kernel
theorem dX11_plan_141 : decode cX11_plan 141 = .ok (.iload_n 3, 1) := by decide +kernel
theorem dX11_plan_142 : decode cX11_plan 142 = .ok (.imul, 1) := by decide +kernel
theorem dX11_plan_143 : decode cX11_plan 143 = .ok (.iload_n 2, 1) := by decide +kernel
theorem dX11_plan_144 : decode cX11_plan 144 = .ok (.iadd, 1) := by decide +kernel
theorem dX11_plan_145 : decode cX11_plan 145 = .ok (.iaload, 1) := by decide +kernel
theorem dX11_plan_146 : decode cX11_plan 146 = .ok (.if_icmp .eq 9, 3) := by decide +kernel
theorem dX11_plan_149 : decode cX11_plan 149 = .ok (.iinc 4 1, 3) := by decide +kernel
theorem dX11_plan_152 : decode cX11_plan 152 = .ok (.goto (-102), 3) := by decide +kernel
theorem dX11_plan_155 : decode cX11_plan 155 = .ok (.iload 4, 2) := by decide +kernel
theorem dX11_plan_157 : decode cX11_plan 157 = .ok (.istore_n 2, 1) := by decide +kernel
theorem dX11_plan_158 : decode cX11_plan 158 = .ok (.iinc 3 1, 3) := by decide +kernel
theorem dX11_plan_161 : decode cX11_plan 161 = .ok (.goto (-119), 3) := by decide +kernel
theorem dX11_plan_164 : decode cX11_plan 164 = .ok (.iload_n 2, 1) := by decide +kernel
theorem dX11_plan_165 : decode cX11_plan 165 = .ok (.ireturn, 1) := by decide +kernel
theorem dX11_night_0 : decode cX11_night 0 = .ok (.iload_n 1, 1) := by decide +kernel
theorem dX11_night_1 : decode cX11_night 1 = .ok (.iconst 0, 1) := by decide +kernel
theorem dX11_night_2 : decode cX11_night 2 = .ok (.ldc 154, 2) := by decide +kernel
theorem dX11_night_4 : decode cX11_night 4 = .ok (.invokestatic 101, 3) := by decide +kernel
theorem dX11_night_7 : decode cX11_night 7 = .ok (.ifCond .eq 20, 3) := by decide +kernel
theorem dX11_night_10 : decode cX11_night 10 = .ok (.iload_n 2, 1) := by decide +kernel
theorem dX11_night_11 : decode cX11_night 11 = .ok (.iconst 0, 1) := by decide +kernel
theorem dX11_night_12 : decode cX11_night 12 = .ok (.bipush 24, 2) := by decide +kernel
theorem dX11_night_14 : decode cX11_night 14 = .ok (.invokestatic 101, 3) := by decide +kernel
theorem dX11_night_17 : decode cX11_night 17 = .ok (.ifCond .eq 10, 3) := by decide +kernel
theorem dX11_night_20 : decode cX11_night 20 = .ok (.iload_n 3, 1) := by decide +kernel
theorem dX11_night_21 : decode cX11_night 21 = .ok (.invokestatic 308, 3) := by decide +kernel
theorem dX11_night_24 : decode cX11_night 24 = .ok (.ifCond .ne 9, 3) := by decide +kernel
theorem dX11_night_27 : decode cX11_night 27 = .ok (.aload_n 0, 1) := by decide +kernel
theorem dX11_night_28 : decode cX11_night 28 = .ok (.iconst (-1), 1) := by decide +kernel
theorem dX11_night_29 : decode cX11_night 29 = .ok (.invokevirtual 105, 3) := by decide +kernel
theorem dX11_night_32 : decode cX11_night 32 = .ok (.ireturn, 1) := by decide +kernel
theorem dX11_night_33 : decode cX11_night 33 = .ok (.aload_n 0, 1) := by decide +kernel
theorem dX11_night_34 : decode cX11_night 34 = .ok (.invokevirtual 294, 3) := by decide +kernel
theorem dX11_night_37 : decode cX11_night 37 = .ok (.aload_n 0, 1) := by decide +kernel
theorem dX11_night_38 : decode cX11_night 38 = .ok (.iload_n 1, 1) := by decide +kernel
theorem dX11_night_39 : decode cX11_night 39 = .ok (.putfield 344, 3) := by decide +kernel
theorem dX11_night_42 : decode cX11_night 42 = .ok (.aload_n 0, 1) := by decide +kernel
theorem dX11_night_43 : decode cX11_night 43 = .ok (.iconst 0, 1) := by decide +kernel
theorem dX11_night_44 : decode cX11_night 44 = .ok (.putfield 95, 3) := by decide +kernel
theorem dX11_night_47 : decode cX11_night 47 = .ok (.aload_n 0, 1) := by decide +kernel
theorem dX11_night_48 : decode cX11_night 48 = .ok (.iconst (-1), 1) := by decide +kernel
theorem dX11_night_49 : decode cX11_night 49 = .ok (.putfield 347, 3) := by decide +kernel
theorem dX11_night_52 : decode cX11_night 52 = .ok (.iconst 0, 1) := by decide +kernel
theorem dX11_night_53 : decode cX11_night 53 = .ok (.istore 4, 2) := by decide +kernel
theorem dX11_night_55 : decode cX11_night 55 = .ok (.aload_n 0, 1) := by decide +kernel
theorem dX11_night_56 : decode cX11_night 56 = .ok (.getfield 95, 3) := by decide +kernel
theorem dX11_night_59 : decode cX11_night 59 = .ok (.iload_n 2, 1) := by decide +kernel
theorem dX11_night_60 : decode cX11_night 60 = .ok (.if_icmp .ge 102, 3) := by decide +kernel
theorem dX11_night_63 : decode cX11_night 63 = .ok (.aload_n 0, 1) := by decide +kernel
theorem dX11_night_64 : decode cX11_night 64 = .ok (.getfield 347, 3) := by decide +kernel
theorem dX11_night_67 : decode cX11_night 67 = .ok (.iconst (-1), 1) := by decide +kernel
theorem dX11_night_68 : decode cX11_night 68 = .ok (.if_icmp .ne 94, 3) := by decide +kernel
theorem dX11_night_71 : decode cX11_night 71 = .ok (.aload_n 0, 1) := by decide +kernel
theorem dX11_night_72 : decode cX11_night 72 = .ok (.ldc2_w 350, 3) := by decide +kernel
theorem dX11_night_75 : decode cX11_night 75 = .ok (.aload_n 0, 1) := by decide +kernel
theorem dX11_night_76 : decode cX11_night 76 = .ok (.getfield 344, 3) := by decide +kernel
theorem dX11_night_79 : decode cX11_night 79 = .ok (.i2l, 1) := by decide +kernel
theorem dX11_night_80 : decode cX11_night 80 = .ok (.lmul, 1) := by decide +kernel
theorem dX11_night_81 : decode cX11_night 81 = .ok (.ldc2_w 352, 3) := by decide +kernel
theorem dX11_night_84 : decode cX11_night 84 = .ok (.ladd, 1) := by decide +kernel
theorem dX11_night_85 : decode cX11_night 85 = .ok (.ldc2_w 354, 3) := by decide +kernel
theorem dX11_night_88 : decode cX11_night 88 = .ok (.lrem, 1) := by decide +kernel
theorem dX11_night_89 : decode cX11_night 89 = .ok (.l2i, 1) := by decide +kernel
theorem dX11_night_90 : decode cX11_night 90 = .ok (.putfield 344, 3) := by decide +kernel
theorem dX11_night_93 : decode cX11_night 93 = .ok (.aload_n 0, 1) := by decide +kernel
theorem dX11_night_94 : decode cX11_night 94 = .ok (.getfield 344, 3) := by decide +kernel
theorem dX11_night_97 : decode cX11_night 97 = .ok (.aload_n 0, 1) := by decide +kernel
theorem dX11_night_98 : decode cX11_night 98 = .ok (.getfield 20, 3) := by decide +kernel
theorem dX11_night_101 : decode cX11_night 101 = .ok (.sipush 305, 3) := by decide +kernel
theorem dX11_night_104 : decode cX11_night 104 = .ok (.iaload, 1) := by decide +kernel
theorem dX11_night_105 : decode cX11_night 105 = .ok (.irem, 1) := by decide +kernel
theorem dX11_night_106 : decode cX11_night 106 = .ok (.istore 5, 2) := by decide +kernel
theorem dX11_night_108 : decode cX11_night 108 = .ok (.aload_n 0, 1) := by decide +kernel
theorem dX11_night_109 : decode cX11_night 109 = .ok (.iload 4, 2) := by decide +kernel
theorem dX11_night_111 : decode cX11_night 111 = .ok (.iload 5, 2) := by decide +kernel
theorem dX11_night_113 : decode cX11_night 113 = .ok (.iload_n 3, 1) := by decide +kernel
theorem dX11_night_114 : decode cX11_night 114 = .ok (.invokevirtual 311, 3) := by decide +kernel
theorem dX11_night_117 : decode cX11_night 117 = .ok (.istore 6, 2) := by decide +kernel
theorem dX11_night_119 : decode cX11_night 119 = .ok (.iload 6, 2) := by decide +kernel
theorem dX11_night_121 : decode cX11_night 121 = .ok (.iconst (-1), 1) := by decide +kernel
theorem dX11_night_122 : decode cX11_night 122 = .ok (.if_icmp .ne 12, 3) := by decide +kernel
theorem dX11_night_125 : decode cX11_night 125 = .ok (.aload_n 0, 1) := by decide +kernel
theorem dX11_night_126 : decode cX11_night 126 = .ok (.iload 5, 2) := by decide +kernel
theorem dX11_night_128 : decode cX11_night 128 = .ok (.putfield 347, 3) := by decide +kernel
theorem dX11_night_131 : decode cX11_night 131 = .ok (.goto (-76), 3) := by decide +kernel
theorem dX11_night_134 : decode cX11_night 134 = .ok (.iload 6, 2) := by decide +kernel
theorem dX11_night_136 : decode cX11_night 136 = .ok (.istore 4, 2) := by decide +kernel
theorem dX11_night_138 : decode cX11_night 138 = .ok (.aload_n 0, 1) := by decide +kernel
theorem dX11_night_139 : decode cX11_night 139 = .ok (.getfield 92, 3) := by decide +kernel
theorem dX11_night_142 : decode cX11_night 142 = .ok (.aload_n 0, 1) := by decide +kernel
theorem dX11_night_143 : decode cX11_night 143 = .ok (.getfield 95, 3) := by decide +kernel
theorem dX11_night_146 : decode cX11_night 146 = .ok (.iload 6, 2) := by decide +kernel
theorem dX11_night_148 : decode cX11_night 148 = .ok (.iastore, 1) := by decide +kernel
theorem dX11_night_149 : decode cX11_night 149 = .ok (.aload_n 0, 1) := by decide +kernel
theorem dX11_night_150 : decode cX11_night 150 = .ok (.dup, 1) := by decide +kernel
theorem dX11_night_151 : decode cX11_night 151 = .ok (.getfield 95, 3) := by decide +kernel
theorem dX11_night_154 : decode cX11_night 154 = .ok (.iconst 1, 1) := by decide +kernel
theorem dX11_night_155 : decode cX11_night 155 = .ok (.iadd, 1) := by decide +kernel
theorem dX11_night_156 : decode cX11_night 156 = .ok (.putfield 95, 3) := by decide +kernel
theorem dX11_night_159 : decode cX11_night 159 = .ok (.goto (-104), 3) := by decide +kernel
theorem dX11_night_162 : decode cX11_night 162 = .ok (.aload_n 0, 1) := by decide +kernel
theorem dX11_night_163 : decode cX11_night 163 = .ok (.aload_n 0, 1) := by decide +kernel
theorem dX11_night_164 : decode cX11_night 164 = .ok (.getfield 95, 3) := by decide +kernel
theorem dX11_night_167 : decode cX11_night 167 = .ok (.invokevirtual 109, 3) := by decide +kernel
theorem dX11_night_170 : decode cX11_night 170 = .ok (.ireturn, 1) := by decide +kernel
theorem dX11_drawn_0 : decode cX11_drawn 0 = .ok (.aload_n 0, 1) := by decide +kernel
theorem dX11_drawn_1 : decode cX11_drawn 1 = .ok (.getfield 95, 3) := by decide +kernel
theorem dX11_drawn_4 : decode cX11_drawn 4 = .ok (.iconst (-1), 1) := by decide +kernel
theorem dX11_drawn_5 : decode cX11_drawn 5 = .ok (.if_icmp .ne 7, 3) := by decide +kernel
theorem dX11_drawn_8 : decode cX11_drawn 8 = .ok (.iconst (-1), 1) := by decide +kernel
theorem dX11_drawn_9 : decode cX11_drawn 9 = .ok (.goto 39, 3) := by decide +kernel
theorem dX11_drawn_12 : decode cX11_drawn 12 = .ok (.iload_n 1, 1) := by decide +kernel
theorem dX11_drawn_13 : decode cX11_drawn 13 = .ok (.iconst (-1), 1) := by decide +kernel
theorem dX11_drawn_14 : decode cX11_drawn 14 = .ok (.if_icmp .ne 10, 3) := by decide +kernel
theorem dX11_drawn_17 : decode cX11_drawn 17 = .ok (.aload_n 0, 1) := by decide +kernel
theorem dX11_drawn_18 : decode cX11_drawn 18 = .ok (.getfield 347, 3) := by decide +kernel
theorem dX11_drawn_21 : decode cX11_drawn 21 = .ok (.goto 27, 3) := by decide +kernel
theorem dX11_drawn_24 : decode cX11_drawn 24 = .ok (.iload_n 1, 1) := by decide +kernel
theorem dX11_drawn_25 : decode cX11_drawn 25 = .ok (.iconst 0, 1) := by decide +kernel
theorem dX11_drawn_26 : decode cX11_drawn 26 = .ok (.aload_n 0, 1) := by decide +kernel
theorem dX11_drawn_27 : decode cX11_drawn 27 = .ok (.getfield 95, 3) := by decide +kernel
theorem dX11_drawn_30 : decode cX11_drawn 30 = .ok (.iconst 1, 1) := by decide +kernel
theorem dX11_drawn_31 : decode cX11_drawn 31 = .ok (.isub, 1) := by decide +kernel
theorem dX11_drawn_32 : decode cX11_drawn 32 = .ok (.invokestatic 101, 3) := by decide +kernel
theorem dX11_drawn_35 : decode cX11_drawn 35 = .ok (.ifCond .eq 12, 3) := by decide +kernel
theorem dX11_drawn_38 : decode cX11_drawn 38 = .ok (.aload_n 0, 1) := by decide +kernel
theorem dX11_drawn_39 : decode cX11_drawn 39 = .ok (.getfield 92, 3) := by decide +kernel
theorem dX11_drawn_42 : decode cX11_drawn 42 = .ok (.iload_n 1, 1) := by decide +kernel
theorem dX11_drawn_43 : decode cX11_drawn 43 = .ok (.iaload, 1) := by decide +kernel
theorem dX11_drawn_44 : decode cX11_drawn 44 = .ok (.goto 4, 3) := by decide +kernel
theorem dX11_drawn_47 : decode cX11_drawn 47 = .ok (.iconst (-1), 1) := by decide +kernel
theorem dX11_drawn_48 : decode cX11_drawn 48 = .ok (.ireturn, 1) := by decide +kernel
theorem dX11_count_0 : decode cX11_count 0 = .ok (.iload_n 1, 1) := by decide +kernel
theorem dX11_count_1 : decode cX11_count 1 = .ok (.tableswitch 152 0 12 #[67, 76, 85, 94, 99, 108, 117, 122, 122, 122, 132, 139, 147], 67) := by decide +kernel
theorem dX11_count_68 : decode cX11_count 68 = .ok (.aload_n 0, 1) := by decide +kernel
theorem dX11_count_69 : decode cX11_count 69 = .ok (.getfield 20, 3) := by decide +kernel
theorem dX11_count_72 : decode cX11_count 72 = .ok (.sipush 304, 3) := by decide +kernel
theorem dX11_count_75 : decode cX11_count 75 = .ok (.iaload, 1) := by decide +kernel
theorem dX11_count_76 : decode cX11_count 76 = .ok (.ireturn, 1) := by decide +kernel
theorem dX11_count_77 : decode cX11_count 77 = .ok (.aload_n 0, 1) := by decide +kernel
theorem dX11_count_78 : decode cX11_count 78 = .ok (.getfield 20, 3) := by decide +kernel
theorem dX11_count_81 : decode cX11_count 81 = .ok (.sipush 305, 3) := by decide +kernel
theorem dX11_count_84 : decode cX11_count 84 = .ok (.iaload, 1) := by decide +kernel
theorem dX11_count_85 : decode cX11_count 85 = .ok (.ireturn, 1) := by decide +kernel
theorem dX11_count_86 : decode cX11_count 86 = .ok (.aload_n 0, 1) := by decide +kernel
theorem dX11_count_87 : decode cX11_count 87 = .ok (.getfield 20, 3) := by decide +kernel
theorem dX11_count_90 : decode cX11_count 90 = .ok (.sipush 310, 3) := by decide +kernel
theorem dX11_count_93 : decode cX11_count 93 = .ok (.iaload, 1) := by decide +kernel
theorem dX11_count_94 : decode cX11_count 94 = .ok (.ireturn, 1) := by decide +kernel
theorem dX11_count_95 : decode cX11_count 95 = .ok (.aload_n 0, 1) := by decide +kernel
theorem dX11_count_96 : decode cX11_count 96 = .ok (.invokevirtual 139, 3) := by decide +kernel
theorem dX11_count_99 : decode cX11_count 99 = .ok (.ireturn, 1) := by decide +kernel
theorem dX11_count_100 : decode cX11_count 100 = .ok (.aload_n 0, 1) := by decide +kernel
theorem dX11_count_101 : decode cX11_count 101 = .ok (.getfield 20, 3) := by decide +kernel
theorem dX11_count_104 : decode cX11_count 104 = .ok (.sipush 308, 3) := by decide +kernel
theorem dX11_count_107 : decode cX11_count 107 = .ok (.iaload, 1) := by decide +kernel
theorem dX11_count_108 : decode cX11_count 108 = .ok (.ireturn, 1) := by decide +kernel
theorem dX11_count_109 : decode cX11_count 109 = .ok (.aload_n 0, 1) := by decide +kernel
theorem dX11_count_110 : decode cX11_count 110 = .ok (.getfield 20, 3) := by decide +kernel
theorem dX11_count_113 : decode cX11_count 113 = .ok (.sipush 309, 3) := by decide +kernel
theorem dX11_count_116 : decode cX11_count 116 = .ok (.iaload, 1) := by decide +kernel
theorem dX11_count_117 : decode cX11_count 117 = .ok (.ireturn, 1) := by decide +kernel
theorem dX11_count_118 : decode cX11_count 118 = .ok (.aload_n 0, 1) := by decide +kernel
theorem dX11_count_119 : decode cX11_count 119 = .ok (.getfield 129, 3) := by decide +kernel
theorem dX11_count_122 : decode cX11_count 122 = .ok (.ireturn, 1) := by decide +kernel
theorem dX11_count_123 : decode cX11_count 123 = .ok (.aload_n 0, 1) := by decide +kernel
theorem dX11_count_124 : decode cX11_count 124 = .ok (.getfield 7, 3) := by decide +kernel
theorem dX11_count_127 : decode cX11_count 127 = .ok (.iload_n 1, 1) := by decide +kernel
theorem dX11_count_128 : decode cX11_count 128 = .ok (.bipush 6, 2) := by decide +kernel
theorem dX11_count_130 : decode cX11_count 130 = .ok (.isub, 1) := by decide +kernel
theorem dX11_count_131 : decode cX11_count 131 = .ok (.iaload, 1) := by decide +kernel
theorem dX11_count_132 : decode cX11_count 132 = .ok (.ireturn, 1) := by decide +kernel
theorem dX11_count_133 : decode cX11_count 133 = .ok (.aload_n 0, 1) := by decide +kernel
theorem dX11_count_134 : decode cX11_count 134 = .ok (.getfield 7, 3) := by decide +kernel
theorem dX11_count_137 : decode cX11_count 137 = .ok (.iconst 5, 1) := by decide +kernel
theorem dX11_count_138 : decode cX11_count 138 = .ok (.iaload, 1) := by decide +kernel
theorem dX11_count_139 : decode cX11_count 139 = .ok (.ireturn, 1) := by decide +kernel
theorem dX11_count_140 : decode cX11_count 140 = .ok (.aload_n 0, 1) := by decide +kernel
theorem dX11_count_141 : decode cX11_count 141 = .ok (.getfield 7, 3) := by decide +kernel
theorem dX11_count_144 : decode cX11_count 144 = .ok (.bipush 6, 2) := by decide +kernel
theorem dX11_count_146 : decode cX11_count 146 = .ok (.iaload, 1) := by decide +kernel
theorem dX11_count_147 : decode cX11_count 147 = .ok (.ireturn, 1) := by decide +kernel
theorem dX11_count_148 : decode cX11_count 148 = .ok (.aload_n 0, 1) := by decide +kernel
theorem dX11_count_149 : decode cX11_count 149 = .ok (.getfield 334, 3) := by decide +kernel
theorem dX11_count_152 : decode cX11_count 152 = .ok (.ireturn, 1) := by decide +kernel
theorem dX11_count_153 : decode cX11_count 153 = .ok (.iconst (-1), 1) := by decide +kernel
theorem dX11_count_154 : decode cX11_count 154 = .ok (.ireturn, 1) := by decide +kernel
theorem dX11_status_0 : decode cX11_status 0 = .ok (.aload_n 0, 1) := by decide +kernel
theorem dX11_status_1 : decode cX11_status 1 = .ok (.getfield 3, 3) := by decide +kernel
theorem dX11_status_4 : decode cX11_status 4 = .ok (.ireturn, 1) := by decide +kernel
theorem dJ6_bitCount_0f7a4_0 : decode cJ6_bitCount_0f7a4 0 = .ok (.iload_n 0, 1) := by decide +kernel
theorem dJ6_bitCount_0f7a4_1 : decode cJ6_bitCount_0f7a4 1 = .ok (.iload_n 0, 1) := by decide +kernel
theorem dJ6_bitCount_0f7a4_2 : decode cJ6_bitCount_0f7a4 2 = .ok (.iconst 1, 1) := by decide +kernel
theorem dJ6_bitCount_0f7a4_3 : decode cJ6_bitCount_0f7a4 3 = .ok (.iushr, 1) := by decide +kernel
theorem dJ6_bitCount_0f7a4_4 : decode cJ6_bitCount_0f7a4 4 = .ok (.ldc_w 265, 3) := by decide +kernel
theorem dJ6_bitCount_0f7a4_7 : decode cJ6_bitCount_0f7a4 7 = .ok (.iand, 1) := by decide +kernel
theorem dJ6_bitCount_0f7a4_8 : decode cJ6_bitCount_0f7a4 8 = .ok (.isub, 1) := by decide +kernel
theorem dJ6_bitCount_0f7a4_9 : decode cJ6_bitCount_0f7a4 9 = .ok (.istore_n 0, 1) := by decide +kernel
theorem dJ6_bitCount_0f7a4_10 : decode cJ6_bitCount_0f7a4 10 = .ok (.iload_n 0, 1) := by decide +kernel
theorem dJ6_bitCount_0f7a4_11 : decode cJ6_bitCount_0f7a4 11 = .ok (.ldc_w 266, 3) := by decide +kernel
theorem dJ6_bitCount_0f7a4_14 : decode cJ6_bitCount_0f7a4 14 = .ok (.iand, 1) := by decide +kernel
theorem dJ6_bitCount_0f7a4_15 : decode cJ6_bitCount_0f7a4 15 = .ok (.iload_n 0, 1) := by decide +kernel
theorem dJ6_bitCount_0f7a4_16 : decode cJ6_bitCount_0f7a4 16 = .ok (.iconst 2, 1) := by decide +kernel
theorem dJ6_bitCount_0f7a4_17 : decode cJ6_bitCount_0f7a4 17 = .ok (.iushr, 1) := by decide +kernel
theorem dJ6_bitCount_0f7a4_18 : decode cJ6_bitCount_0f7a4 18 = .ok (.ldc_w 266, 3) := by decide +kernel
theorem dJ6_bitCount_0f7a4_21 : decode cJ6_bitCount_0f7a4 21 = .ok (.iand, 1) := by decide +kernel
theorem dJ6_bitCount_0f7a4_22 : decode cJ6_bitCount_0f7a4 22 = .ok (.iadd, 1) := by decide +kernel
theorem dJ6_bitCount_0f7a4_23 : decode cJ6_bitCount_0f7a4 23 = .ok (.istore_n 0, 1) := by decide +kernel
theorem dJ6_bitCount_0f7a4_24 : decode cJ6_bitCount_0f7a4 24 = .ok (.iload_n 0, 1) := by decide +kernel
theorem dJ6_bitCount_0f7a4_25 : decode cJ6_bitCount_0f7a4 25 = .ok (.iload_n 0, 1) := by decide +kernel
theorem dJ6_bitCount_0f7a4_26 : decode cJ6_bitCount_0f7a4 26 = .ok (.iconst 4, 1) := by decide +kernel
theorem dJ6_bitCount_0f7a4_27 : decode cJ6_bitCount_0f7a4 27 = .ok (.iushr, 1) := by decide +kernel
theorem dJ6_bitCount_0f7a4_28 : decode cJ6_bitCount_0f7a4 28 = .ok (.iadd, 1) := by decide +kernel
theorem dJ6_bitCount_0f7a4_29 : decode cJ6_bitCount_0f7a4 29 = .ok (.ldc_w 267, 3) := by decide +kernel
theorem dJ6_bitCount_0f7a4_32 : decode cJ6_bitCount_0f7a4 32 = .ok (.iand, 1) := by decide +kernel
theorem dJ6_bitCount_0f7a4_33 : decode cJ6_bitCount_0f7a4 33 = .ok (.istore_n 0, 1) := by decide +kernel
theorem dJ6_bitCount_0f7a4_34 : decode cJ6_bitCount_0f7a4 34 = .ok (.iload_n 0, 1) := by decide +kernel
theorem dJ6_bitCount_0f7a4_35 : decode cJ6_bitCount_0f7a4 35 = .ok (.iload_n 0, 1) := by decide +kernel
theorem dJ6_bitCount_0f7a4_36 : decode cJ6_bitCount_0f7a4 36 = .ok (.bipush 8, 2) := by decide +kernel
theorem dJ6_bitCount_0f7a4_38 : decode cJ6_bitCount_0f7a4 38 = .ok (.iushr, 1) := by decide +kernel
theorem dJ6_bitCount_0f7a4_39 : decode cJ6_bitCount_0f7a4 39 = .ok (.iadd, 1) := by decide +kernel
theorem dJ6_bitCount_0f7a4_40 : decode cJ6_bitCount_0f7a4 40 = .ok (.istore_n 0, 1) := by decide +kernel
theorem dJ6_bitCount_0f7a4_41 : decode cJ6_bitCount_0f7a4 41 = .ok (.iload_n 0, 1) := by decide +kernel
theorem dJ6_bitCount_0f7a4_42 : decode cJ6_bitCount_0f7a4 42 = .ok (.iload_n 0, 1) := by decide +kernel
theorem dJ6_bitCount_0f7a4_43 : decode cJ6_bitCount_0f7a4 43 = .ok (.bipush 16, 2) := by decide +kernel
theorem dJ6_bitCount_0f7a4_45 : decode cJ6_bitCount_0f7a4 45 = .ok (.iushr, 1) := by decide +kernel
theorem dJ6_bitCount_0f7a4_46 : decode cJ6_bitCount_0f7a4 46 = .ok (.iadd, 1) := by decide +kernel
theorem dJ6_bitCount_0f7a4_47 : decode cJ6_bitCount_0f7a4 47 = .ok (.istore_n 0, 1) := by decide +kernel
theorem dJ6_bitCount_0f7a4_48 : decode cJ6_bitCount_0f7a4 48 = .ok (.iload_n 0, 1) := by decide +kernel
theorem dJ6_bitCount_0f7a4_49 : decode cJ6_bitCount_0f7a4 49 = .ok (.bipush 63, 2) := by decide +kernel
theorem dJ6_bitCount_0f7a4_51 : decode cJ6_bitCount_0f7a4 51 = .ok (.iand, 1) := by decide +kernel
theorem dJ6_bitCount_0f7a4_52 : decode cJ6_bitCount_0f7a4 52 = .ok (.ireturn, 1) := by decide +kernel
theorem dJ9_max_7cf53_0 : decode cJ9_max_7cf53 0 = .ok (.iload_n 0, 1) := by decide +kernel
theorem dJ9_max_7cf53_1 : decode cJ9_max_7cf53 1 = .ok (.iload_n 1, 1) := by decide +kernel
theorem dJ9_max_7cf53_2 : decode cJ9_max_7cf53 2 = .ok (.if_icmp .lt 7, 3) := by decide +kernel
theorem dJ9_max_7cf53_5 : decode cJ9_max_7cf53 5 = .ok (.iload_n 0, 1) := by decide +kernel
theorem dJ9_max_7cf53_6 : decode cJ9_max_7cf53 6 = .ok (.goto 4, 3) := by decide +kernel
theorem dJ9_max_7cf53_9 : decode cJ9_max_7cf53 9 = .ok (.iload_n 1, 1) := by decide +kernel
theorem dJ9_max_7cf53_10 : decode cJ9_max_7cf53 10 = .ok (.ireturn, 1) := by decide +kernel
theorem dJ9_max_f86c9_0 : decode cJ9_max_f86c9 0 = .ok (.lload_n 0, 1) := by decide +kernel
theorem dJ9_max_f86c9_1 : decode cJ9_max_f86c9 1 = .ok (.lload_n 2, 1) := by decide +kernel
theorem dJ9_max_f86c9_2 : decode cJ9_max_f86c9 2 = .ok (.lcmp, 1) := by decide +kernel
theorem dJ9_max_f86c9_3 : decode cJ9_max_f86c9 3 = .ok (.ifCond .lt 7, 3) := by decide +kernel
theorem dJ9_max_f86c9_6 : decode cJ9_max_f86c9 6 = .ok (.lload_n 0, 1) := by decide +kernel
theorem dJ9_max_f86c9_7 : decode cJ9_max_f86c9 7 = .ok (.goto 4, 3) := by decide +kernel
theorem dJ9_max_f86c9_10 : decode cJ9_max_f86c9 10 = .ok (.lload_n 2, 1) := by decide +kernel
theorem dJ9_max_f86c9_11 : decode cJ9_max_f86c9 11 = .ok (.lreturn, 1) := by decide +kernel
theorem dJ9_min_7cf53_0 : decode cJ9_min_7cf53 0 = .ok (.iload_n 0, 1) := by decide +kernel
theorem dJ9_min_7cf53_1 : decode cJ9_min_7cf53 1 = .ok (.iload_n 1, 1) := by decide +kernel
theorem dJ9_min_7cf53_2 : decode cJ9_min_7cf53 2 = .ok (.if_icmp .gt 7, 3) := by decide +kernel
theorem dJ9_min_7cf53_5 : decode cJ9_min_7cf53 5 = .ok (.iload_n 0, 1) := by decide +kernel
theorem dJ9_min_7cf53_6 : decode cJ9_min_7cf53 6 = .ok (.goto 4, 3) := by decide +kernel
theorem dJ9_min_7cf53_9 : decode cJ9_min_7cf53 9 = .ok (.iload_n 1, 1) := by decide +kernel
theorem dJ9_min_7cf53_10 : decode cJ9_min_7cf53 10 = .ok (.ireturn, 1) := by decide +kernel
theorem dJ9_min_f86c9_0 : decode cJ9_min_f86c9 0 = .ok (.lload_n 0, 1) := by decide +kernel
theorem dJ9_min_f86c9_1 : decode cJ9_min_f86c9 1 = .ok (.lload_n 2, 1) := by decide +kernel
theorem dJ9_min_f86c9_2 : decode cJ9_min_f86c9 2 = .ok (.lcmp, 1) := by decide +kernel
theorem dJ9_min_f86c9_3 : decode cJ9_min_f86c9 3 = .ok (.ifCond .gt 7, 3) := by decide +kernel
theorem dJ9_min_f86c9_6 : decode cJ9_min_f86c9 6 = .ok (.lload_n 0, 1) := by decide +kernel
theorem dJ9_min_f86c9_7 : decode cJ9_min_f86c9 7 = .ok (.goto 4, 3) := by decide +kernel
theorem dJ9_min_f86c9_10 : decode cJ9_min_f86c9 10 = .ok (.lload_n 2, 1) := by decide +kernel
theorem dJ9_min_f86c9_11 : decode cJ9_min_f86c9 11 = .ok (.lreturn, 1) := by decide +kernel
theorem dJ0_length_8abf5_0 : decode cJ0_length_8abf5 0 = .ok (.aload_n 0, 1) := by decide +kernel
theorem dJ0_length_8abf5_1 : decode cJ0_length_8abf5 1 = .ok (.getfield 9, 3) := by decide +kernel
theorem dJ0_length_8abf5_4 : decode cJ0_length_8abf5 4 = .ok (.arraylength, 1) := by decide +kernel
theorem dJ0_length_8abf5_5 : decode cJ0_length_8abf5 5 = .ok (.aload_n 0, 1) := by decide +kernel
theorem dJ0_length_8abf5_6 : decode cJ0_length_8abf5 6 = .ok (.invokevirtual 335, 3) := by decide +kernel
theorem dJ0_length_8abf5_9 : decode cJ0_length_8abf5 9 = .ok (.ishr, 1) := by decide +kernel
theorem dJ0_length_8abf5_10 : decode cJ0_length_8abf5 10 = .ok (.ireturn, 1) := by decide +kernel
theorem dJ0_charAt_5068e_0 : decode cJ0_charAt_5068e 0 = .ok (.aload_n 0, 1) := by decide +kernel
theorem dJ0_charAt_5068e_1 : decode cJ0_charAt_5068e 1 = .ok (.invokevirtual 492, 3) := by decide +kernel
theorem dJ0_charAt_5068e_4 : decode cJ0_charAt_5068e 4 = .ok (.ifCond .eq 12, 3) := by decide +kernel
theorem dJ0_charAt_5068e_7 : decode cJ0_charAt_5068e 7 = .ok (.aload_n 0, 1) := by decide +kernel
theorem dJ0_charAt_5068e_8 : decode cJ0_charAt_5068e 8 = .ok (.getfield 9, 3) := by decide +kernel
theorem dJ0_charAt_5068e_11 : decode cJ0_charAt_5068e 11 = .ok (.iload_n 1, 1) := by decide +kernel
theorem dJ0_charAt_5068e_12 : decode cJ0_charAt_5068e 12 = .ok (.invokestatic 495, 3) := by decide +kernel
theorem dJ0_charAt_5068e_15 : decode cJ0_charAt_5068e 15 = .ok (.ireturn, 1) := by decide +kernel
theorem dJ0_charAt_5068e_16 : decode cJ0_charAt_5068e 16 = .ok (.aload_n 0, 1) := by decide +kernel
theorem dJ0_charAt_5068e_17 : decode cJ0_charAt_5068e 17 = .ok (.getfield 9, 3) := by decide +kernel
theorem dJ0_charAt_5068e_20 : decode cJ0_charAt_5068e 20 = .ok (.iload_n 1, 1) := by decide +kernel
theorem dJ0_charAt_5068e_21 : decode cJ0_charAt_5068e 21 = .ok (.invokestatic 498, 3) := by decide +kernel
theorem dJ0_charAt_5068e_24 : decode cJ0_charAt_5068e 24 = .ok (.ireturn, 1) := by decide +kernel
theorem dJ0_coder_7d493_0 : decode cJ0_coder_7d493 0 = .ok (.getstatic 38, 3) := by decide +kernel
theorem dJ0_coder_7d493_3 : decode cJ0_coder_7d493 3 = .ok (.ifCond .eq 10, 3) := by decide +kernel
theorem dJ0_coder_7d493_6 : decode cJ0_coder_7d493 6 = .ok (.aload_n 0, 1) := by decide +kernel
theorem dJ0_coder_7d493_7 : decode cJ0_coder_7d493 7 = .ok (.getfield 15, 3) := by decide +kernel
theorem dJ0_coder_7d493_10 : decode cJ0_coder_7d493 10 = .ok (.goto 4, 3) := by decide +kernel
theorem dJ0_coder_7d493_13 : decode cJ0_coder_7d493 13 = .ok (.iconst 1, 1) := by decide +kernel
theorem dJ0_coder_7d493_14 : decode cJ0_coder_7d493 14 = .ok (.ireturn, 1) := by decide +kernel
theorem dJ0_isLatin1_aae02_0 : decode cJ0_isLatin1_aae02 0 = .ok (.getstatic 38, 3) := by decide +kernel
theorem dJ0_isLatin1_aae02_3 : decode cJ0_isLatin1_aae02 3 = .ok (.ifCond .eq 14, 3) := by decide +kernel
theorem dJ0_isLatin1_aae02_6 : decode cJ0_isLatin1_aae02 6 = .ok (.aload_n 0, 1) := by decide +kernel
theorem dJ0_isLatin1_aae02_7 : decode cJ0_isLatin1_aae02 7 = .ok (.getfield 15, 3) := by decide +kernel
theorem dJ0_isLatin1_aae02_10 : decode cJ0_isLatin1_aae02 10 = .ok (.ifCond .ne 7, 3) := by decide +kernel
theorem dJ0_isLatin1_aae02_13 : decode cJ0_isLatin1_aae02 13 = .ok (.iconst 1, 1) := by decide +kernel
theorem dJ0_isLatin1_aae02_14 : decode cJ0_isLatin1_aae02 14 = .ok (.goto 4, 3) := by decide +kernel
theorem dJ0_isLatin1_aae02_17 : decode cJ0_isLatin1_aae02 17 = .ok (.iconst 0, 1) := by decide +kernel
theorem dJ0_isLatin1_aae02_18 : decode cJ0_isLatin1_aae02 18 = .ok (.ireturn, 1) := by decide +kernel
theorem dJ0_checkIndex_df160_0 : decode cJ0_checkIndex_df160 0 = .ok (.iload_n 0, 1) := by decide +kernel
theorem dJ0_checkIndex_df160_1 : decode cJ0_checkIndex_df160 1 = .ok (.iload_n 1, 1) := by decide +kernel
theorem dJ0_checkIndex_df160_2 : decode cJ0_checkIndex_df160 2 = .ok (.getstatic 1053, 3) := by decide +kernel
theorem dJ0_checkIndex_df160_5 : decode cJ0_checkIndex_df160 5 = .ok (.invokestatic 1059, 3) := by decide +kernel
theorem dJ0_checkIndex_df160_8 : decode cJ0_checkIndex_df160 8 = .ok (.pop, 1) := by decide +kernel
theorem dJ0_checkIndex_df160_9 : decode cJ0_checkIndex_df160 9 = .ok (.return_, 1) := by decide +kernel
theorem dJ1_charAt_3b067_0 : decode cJ1_charAt_3b067 0 = .ok (.iload_n 1, 1) := by decide +kernel
theorem dJ1_charAt_3b067_1 : decode cJ1_charAt_3b067 1 = .ok (.aload_n 0, 1) := by decide +kernel
theorem dJ1_charAt_3b067_2 : decode cJ1_charAt_3b067 2 = .ok (.arraylength, 1) := by decide +kernel
theorem dJ1_charAt_3b067_3 : decode cJ1_charAt_3b067 3 = .ok (.invokestatic 9, 3) := by decide +kernel
theorem dJ1_charAt_3b067_6 : decode cJ1_charAt_3b067 6 = .ok (.aload_n 0, 1) := by decide +kernel
theorem dJ1_charAt_3b067_7 : decode cJ1_charAt_3b067 7 = .ok (.iload_n 1, 1) := by decide +kernel
theorem dJ1_charAt_3b067_8 : decode cJ1_charAt_3b067 8 = .ok (.baload, 1) := by decide +kernel
theorem dJ1_charAt_3b067_9 : decode cJ1_charAt_3b067 9 = .ok (.sipush 255, 3) := by decide +kernel
theorem dJ1_charAt_3b067_12 : decode cJ1_charAt_3b067 12 = .ok (.iand, 1) := by decide +kernel
theorem dJ1_charAt_3b067_13 : decode cJ1_charAt_3b067 13 = .ok (.i2c, 1) := by decide +kernel
theorem dJ1_charAt_3b067_14 : decode cJ1_charAt_3b067 14 = .ok (.ireturn, 1) := by decide +kernel
theorem dJ2_getChar_3b067_0 : decode cJ2_getChar_3b067 0 = .ok (.getstatic 44, 3) := by decide +kernel
theorem dJ2_getChar_3b067_3 : decode cJ2_getChar_3b067 3 = .ok (.ifCond .ne 25, 3) := by decide +kernel
theorem dJ2_getChar_3b067_6 : decode cJ2_getChar_3b067 6 = .ok (.iload_n 1, 1) := by decide +kernel
theorem dJ2_getChar_3b067_7 : decode cJ2_getChar_3b067 7 = .ok (.ifCond .lt 11, 3) := by decide +kernel
theorem dJ2_getChar_3b067_10 : decode cJ2_getChar_3b067 10 = .ok (.iload_n 1, 1) := by decide +kernel
theorem dJ2_getChar_3b067_11 : decode cJ2_getChar_3b067 11 = .ok (.aload_n 0, 1) := by decide +kernel
theorem dJ2_getChar_3b067_12 : decode cJ2_getChar_3b067 12 = .ok (.invokestatic 48, 3) := by decide +kernel
theorem dJ2_getChar_3b067_15 : decode cJ2_getChar_3b067 15 = .ok (.if_icmp .lt 13, 3) := by decide +kernel
theorem dJ2_getChar_3b067_18 : decode cJ2_getChar_3b067 18 = .ok (.new 52, 3) := by decide +kernel
theorem dJ2_getChar_3b067_21 : decode cJ2_getChar_3b067 21 = .ok (.dup, 1) := by decide +kernel
theorem dJ2_getChar_3b067_22 : decode cJ2_getChar_3b067 22 = .ok (.ldc 54, 2) := by decide +kernel
theorem dJ2_getChar_3b067_24 : decode cJ2_getChar_3b067 24 = .ok (.invokespecial 56, 3) := by decide +kernel
theorem dJ2_getChar_3b067_27 : decode cJ2_getChar_3b067 27 = .ok (.athrow, 1) := by decide +kernel
theorem dJ2_getChar_3b067_28 : decode cJ2_getChar_3b067 28 = .ok (.iload_n 1, 1) := by decide +kernel
theorem dJ2_getChar_3b067_29 : decode cJ2_getChar_3b067 29 = .ok (.iconst 1, 1) := by decide +kernel
theorem dJ2_getChar_3b067_30 : decode cJ2_getChar_3b067 30 = .ok (.ishl, 1) := by decide +kernel
theorem dJ2_getChar_3b067_31 : decode cJ2_getChar_3b067 31 = .ok (.istore_n 1, 1) := by decide +kernel
theorem dJ2_getChar_3b067_32 : decode cJ2_getChar_3b067 32 = .ok (.aload_n 0, 1) := by decide +kernel
theorem dJ2_getChar_3b067_33 : decode cJ2_getChar_3b067 33 = .ok (.iload_n 1, 1) := by decide +kernel
theorem dJ2_getChar_3b067_34 : decode cJ2_getChar_3b067 34 = .ok (.iinc 1 1, 3) := by decide +kernel
theorem dJ2_getChar_3b067_37 : decode cJ2_getChar_3b067 37 = .ok (.baload, 1) := by decide +kernel
theorem dJ2_getChar_3b067_38 : decode cJ2_getChar_3b067 38 = .ok (.sipush 255, 3) := by decide +kernel
theorem dJ2_getChar_3b067_41 : decode cJ2_getChar_3b067 41 = .ok (.iand, 1) := by decide +kernel
theorem dJ2_getChar_3b067_42 : decode cJ2_getChar_3b067 42 = .ok (.getstatic 59, 3) := by decide +kernel
theorem dJ2_getChar_3b067_45 : decode cJ2_getChar_3b067 45 = .ok (.ishl, 1) := by decide +kernel
theorem dJ2_getChar_3b067_46 : decode cJ2_getChar_3b067 46 = .ok (.aload_n 0, 1) := by decide +kernel
theorem dJ2_getChar_3b067_47 : decode cJ2_getChar_3b067 47 = .ok (.iload_n 1, 1) := by decide +kernel
theorem dJ2_getChar_3b067_48 : decode cJ2_getChar_3b067 48 = .ok (.baload, 1) := by decide +kernel
theorem dJ2_getChar_3b067_49 : decode cJ2_getChar_3b067 49 = .ok (.sipush 255, 3) := by decide +kernel
theorem dJ2_getChar_3b067_52 : decode cJ2_getChar_3b067 52 = .ok (.iand, 1) := by decide +kernel
theorem dJ2_getChar_3b067_53 : decode cJ2_getChar_3b067 53 = .ok (.getstatic 63, 3) := by decide +kernel
theorem dJ2_getChar_3b067_56 : decode cJ2_getChar_3b067 56 = .ok (.ishl, 1) := by decide +kernel
theorem dJ2_getChar_3b067_57 : decode cJ2_getChar_3b067 57 = .ok (.ior, 1) := by decide +kernel
theorem dJ2_getChar_3b067_58 : decode cJ2_getChar_3b067 58 = .ok (.i2c, 1) := by decide +kernel
theorem dJ2_getChar_3b067_59 : decode cJ2_getChar_3b067 59 = .ok (.ireturn, 1) := by decide +kernel
theorem dJ2_length_9d52b_0 : decode cJ2_length_9d52b 0 = .ok (.aload_n 0, 1) := by decide +kernel
theorem dJ2_length_9d52b_1 : decode cJ2_length_9d52b 1 = .ok (.arraylength, 1) := by decide +kernel
theorem dJ2_length_9d52b_2 : decode cJ2_length_9d52b 2 = .ok (.iconst 1, 1) := by decide +kernel
theorem dJ2_length_9d52b_3 : decode cJ2_length_9d52b 3 = .ok (.ishr, 1) := by decide +kernel
theorem dJ2_length_9d52b_4 : decode cJ2_length_9d52b 4 = .ok (.ireturn, 1) := by decide +kernel
theorem dJ2_charAt_3b067_0 : decode cJ2_charAt_3b067 0 = .ok (.iload_n 1, 1) := by decide +kernel
theorem dJ2_charAt_3b067_1 : decode cJ2_charAt_3b067 1 = .ok (.aload_n 0, 1) := by decide +kernel
theorem dJ2_charAt_3b067_2 : decode cJ2_charAt_3b067 2 = .ok (.invokestatic 67, 3) := by decide +kernel
theorem dJ2_charAt_3b067_5 : decode cJ2_charAt_3b067 5 = .ok (.aload_n 0, 1) := by decide +kernel
theorem dJ2_charAt_3b067_6 : decode cJ2_charAt_3b067 6 = .ok (.iload_n 1, 1) := by decide +kernel
theorem dJ2_charAt_3b067_7 : decode cJ2_charAt_3b067 7 = .ok (.invokestatic 71, 3) := by decide +kernel
theorem dJ2_charAt_3b067_10 : decode cJ2_charAt_3b067 10 = .ok (.ireturn, 1) := by decide +kernel
theorem dJ2_checkIndex_2214a_0 : decode cJ2_checkIndex_2214a 0 = .ok (.iload_n 0, 1) := by decide +kernel
theorem dJ2_checkIndex_2214a_1 : decode cJ2_checkIndex_2214a 1 = .ok (.aload_n 1, 1) := by decide +kernel
theorem dJ2_checkIndex_2214a_2 : decode cJ2_checkIndex_2214a 2 = .ok (.invokestatic 48, 3) := by decide +kernel
theorem dJ2_checkIndex_2214a_5 : decode cJ2_checkIndex_2214a 5 = .ok (.invokestatic 414, 3) := by decide +kernel
theorem dJ2_checkIndex_2214a_8 : decode cJ2_checkIndex_2214a 8 = .ok (.return_, 1) := by decide +kernel
theorem dJ7_rangeCheck_23922_0 : decode cJ7_rangeCheck_23922 0 = .ok (.iload_n 1, 1) := by decide +kernel
theorem dJ7_rangeCheck_23922_1 : decode cJ7_rangeCheck_23922 1 = .ok (.iload_n 2, 1) := by decide +kernel
theorem dJ7_rangeCheck_23922_2 : decode cJ7_rangeCheck_23922 2 = .ok (.if_icmp .le 44, 3) := by decide +kernel
theorem dJ7_rangeCheck_23922_5 : decode cJ7_rangeCheck_23922 5 = .ok (.new 43, 3) := by decide +kernel
theorem dJ7_rangeCheck_23922_8 : decode cJ7_rangeCheck_23922 8 = .ok (.dup, 1) := by decide +kernel
theorem dJ7_rangeCheck_23922_9 : decode cJ7_rangeCheck_23922 9 = .ok (.new 45, 3) := by decide +kernel
theorem dJ7_rangeCheck_23922_12 : decode cJ7_rangeCheck_23922 12 = .ok (.dup, 1) := by decide +kernel
theorem dJ7_rangeCheck_23922_13 : decode cJ7_rangeCheck_23922 13 = .ok (.invokespecial 47, 3) := by decide +kernel
theorem dJ7_rangeCheck_23922_16 : decode cJ7_rangeCheck_23922 16 = .ok (.ldc 48, 2) := by decide +kernel
theorem dJ7_rangeCheck_23922_18 : decode cJ7_rangeCheck_23922 18 = .ok (.invokevirtual 50, 3) := by decide +kernel
theorem dJ7_rangeCheck_23922_21 : decode cJ7_rangeCheck_23922 21 = .ok (.iload_n 1, 1) := by decide +kernel
theorem dJ7_rangeCheck_23922_22 : decode cJ7_rangeCheck_23922 22 = .ok (.invokevirtual 54, 3) := by decide +kernel
theorem dJ7_rangeCheck_23922_25 : decode cJ7_rangeCheck_23922 25 = .ok (.ldc 57, 2) := by decide +kernel
theorem dJ7_rangeCheck_23922_27 : decode cJ7_rangeCheck_23922 27 = .ok (.invokevirtual 50, 3) := by decide +kernel
theorem dJ7_rangeCheck_23922_30 : decode cJ7_rangeCheck_23922 30 = .ok (.iload_n 2, 1) := by decide +kernel
theorem dJ7_rangeCheck_23922_31 : decode cJ7_rangeCheck_23922 31 = .ok (.invokevirtual 54, 3) := by decide +kernel
theorem dJ7_rangeCheck_23922_34 : decode cJ7_rangeCheck_23922 34 = .ok (.ldc 59, 2) := by decide +kernel
theorem dJ7_rangeCheck_23922_36 : decode cJ7_rangeCheck_23922 36 = .ok (.invokevirtual 50, 3) := by decide +kernel
theorem dJ7_rangeCheck_23922_39 : decode cJ7_rangeCheck_23922 39 = .ok (.invokevirtual 61, 3) := by decide +kernel
theorem dJ7_rangeCheck_23922_42 : decode cJ7_rangeCheck_23922 42 = .ok (.invokespecial 65, 3) := by decide +kernel
theorem dJ7_rangeCheck_23922_45 : decode cJ7_rangeCheck_23922 45 = .ok (.athrow, 1) := by decide +kernel
theorem dJ7_rangeCheck_23922_46 : decode cJ7_rangeCheck_23922 46 = .ok (.iload_n 1, 1) := by decide +kernel
theorem dJ7_rangeCheck_23922_47 : decode cJ7_rangeCheck_23922 47 = .ok (.ifCond .ge 12, 3) := by decide +kernel
theorem dJ7_rangeCheck_23922_50 : decode cJ7_rangeCheck_23922 50 = .ok (.new 68, 3) := by decide +kernel
theorem dJ7_rangeCheck_23922_53 : decode cJ7_rangeCheck_23922 53 = .ok (.dup, 1) := by decide +kernel
theorem dJ7_rangeCheck_23922_54 : decode cJ7_rangeCheck_23922 54 = .ok (.iload_n 1, 1) := by decide +kernel
theorem dJ7_rangeCheck_23922_55 : decode cJ7_rangeCheck_23922 55 = .ok (.invokespecial 70, 3) := by decide +kernel
theorem dJ7_rangeCheck_23922_58 : decode cJ7_rangeCheck_23922 58 = .ok (.athrow, 1) := by decide +kernel
theorem dJ7_rangeCheck_23922_59 : decode cJ7_rangeCheck_23922 59 = .ok (.iload_n 2, 1) := by decide +kernel
theorem dJ7_rangeCheck_23922_60 : decode cJ7_rangeCheck_23922 60 = .ok (.iload_n 0, 1) := by decide +kernel
theorem dJ7_rangeCheck_23922_61 : decode cJ7_rangeCheck_23922 61 = .ok (.if_icmp .le 12, 3) := by decide +kernel
theorem dJ7_rangeCheck_23922_64 : decode cJ7_rangeCheck_23922 64 = .ok (.new 68, 3) := by decide +kernel
theorem dJ7_rangeCheck_23922_67 : decode cJ7_rangeCheck_23922 67 = .ok (.dup, 1) := by decide +kernel
theorem dJ7_rangeCheck_23922_68 : decode cJ7_rangeCheck_23922 68 = .ok (.iload_n 2, 1) := by decide +kernel
theorem dJ7_rangeCheck_23922_69 : decode cJ7_rangeCheck_23922 69 = .ok (.invokespecial 70, 3) := by decide +kernel
theorem dJ7_rangeCheck_23922_72 : decode cJ7_rangeCheck_23922 72 = .ok (.athrow, 1) := by decide +kernel
theorem dJ7_rangeCheck_23922_73 : decode cJ7_rangeCheck_23922 73 = .ok (.return_, 1) := by decide +kernel
theorem dJ7_fill_d0a16_0 : decode cJ7_fill_d0a16 0 = .ok (.iconst 0, 1) := by decide +kernel
theorem dJ7_fill_d0a16_1 : decode cJ7_fill_d0a16 1 = .ok (.istore_n 3, 1) := by decide +kernel
theorem dJ7_fill_d0a16_2 : decode cJ7_fill_d0a16 2 = .ok (.aload_n 0, 1) := by decide +kernel
theorem dJ7_fill_d0a16_3 : decode cJ7_fill_d0a16 3 = .ok (.arraylength, 1) := by decide +kernel
theorem dJ7_fill_d0a16_4 : decode cJ7_fill_d0a16 4 = .ok (.istore 4, 2) := by decide +kernel
theorem dJ7_fill_d0a16_6 : decode cJ7_fill_d0a16 6 = .ok (.iload_n 3, 1) := by decide +kernel
theorem dJ7_fill_d0a16_7 : decode cJ7_fill_d0a16 7 = .ok (.iload 4, 2) := by decide +kernel
theorem dJ7_fill_d0a16_9 : decode cJ7_fill_d0a16 9 = .ok (.if_icmp .ge 13, 3) := by decide +kernel
theorem dJ7_fill_d0a16_12 : decode cJ7_fill_d0a16 12 = .ok (.aload_n 0, 1) := by decide +kernel
theorem dJ7_fill_d0a16_13 : decode cJ7_fill_d0a16 13 = .ok (.iload_n 3, 1) := by decide +kernel
theorem dJ7_fill_d0a16_14 : decode cJ7_fill_d0a16 14 = .ok (.lload_n 1, 1) := by decide +kernel
theorem dJ7_fill_d0a16_15 : decode cJ7_fill_d0a16 15 = .ok (.lastore, 1) := by decide +kernel
theorem dJ7_fill_d0a16_16 : decode cJ7_fill_d0a16 16 = .ok (.iinc 3 1, 3) := by decide +kernel
theorem dJ7_fill_d0a16_19 : decode cJ7_fill_d0a16 19 = .ok (.goto (-13), 3) := by decide +kernel
theorem dJ7_fill_d0a16_22 : decode cJ7_fill_d0a16 22 = .ok (.return_, 1) := by decide +kernel
theorem dJ7_fill_bad5a_0 : decode cJ7_fill_bad5a 0 = .ok (.aload_n 0, 1) := by decide +kernel
theorem dJ7_fill_bad5a_1 : decode cJ7_fill_bad5a 1 = .ok (.arraylength, 1) := by decide +kernel
theorem dJ7_fill_bad5a_2 : decode cJ7_fill_bad5a 2 = .ok (.iload_n 1, 1) := by decide +kernel
theorem dJ7_fill_bad5a_3 : decode cJ7_fill_bad5a 3 = .ok (.iload_n 2, 1) := by decide +kernel
theorem dJ7_fill_bad5a_4 : decode cJ7_fill_bad5a 4 = .ok (.invokestatic 13, 3) := by decide +kernel
theorem dJ7_fill_bad5a_7 : decode cJ7_fill_bad5a 7 = .ok (.iload_n 1, 1) := by decide +kernel
theorem dJ7_fill_bad5a_8 : decode cJ7_fill_bad5a 8 = .ok (.istore 5, 2) := by decide +kernel
theorem dJ7_fill_bad5a_10 : decode cJ7_fill_bad5a 10 = .ok (.iload 5, 2) := by decide +kernel
theorem dJ7_fill_bad5a_12 : decode cJ7_fill_bad5a 12 = .ok (.iload_n 2, 1) := by decide +kernel
theorem dJ7_fill_bad5a_13 : decode cJ7_fill_bad5a 13 = .ok (.if_icmp .ge 14, 3) := by decide +kernel
theorem dJ7_fill_bad5a_16 : decode cJ7_fill_bad5a 16 = .ok (.aload_n 0, 1) := by decide +kernel
theorem dJ7_fill_bad5a_17 : decode cJ7_fill_bad5a 17 = .ok (.iload 5, 2) := by decide +kernel
theorem dJ7_fill_bad5a_19 : decode cJ7_fill_bad5a 19 = .ok (.lload_n 3, 1) := by decide +kernel
theorem dJ7_fill_bad5a_20 : decode cJ7_fill_bad5a 20 = .ok (.lastore, 1) := by decide +kernel
theorem dJ7_fill_bad5a_21 : decode cJ7_fill_bad5a 21 = .ok (.iinc 5 1, 3) := by decide +kernel
theorem dJ7_fill_bad5a_24 : decode cJ7_fill_bad5a 24 = .ok (.goto (-14), 3) := by decide +kernel
theorem dJ7_fill_bad5a_27 : decode cJ7_fill_bad5a 27 = .ok (.return_, 1) := by decide +kernel
theorem dJ7_fill_53178_0 : decode cJ7_fill_53178 0 = .ok (.iconst 0, 1) := by decide +kernel
theorem dJ7_fill_53178_1 : decode cJ7_fill_53178 1 = .ok (.istore_n 2, 1) := by decide +kernel
theorem dJ7_fill_53178_2 : decode cJ7_fill_53178 2 = .ok (.aload_n 0, 1) := by decide +kernel
theorem dJ7_fill_53178_3 : decode cJ7_fill_53178 3 = .ok (.arraylength, 1) := by decide +kernel
theorem dJ7_fill_53178_4 : decode cJ7_fill_53178 4 = .ok (.istore_n 3, 1) := by decide +kernel
theorem dJ7_fill_53178_5 : decode cJ7_fill_53178 5 = .ok (.iload_n 2, 1) := by decide +kernel
theorem dJ7_fill_53178_6 : decode cJ7_fill_53178 6 = .ok (.iload_n 3, 1) := by decide +kernel
theorem dJ7_fill_53178_7 : decode cJ7_fill_53178 7 = .ok (.if_icmp .ge 13, 3) := by decide +kernel
theorem dJ7_fill_53178_10 : decode cJ7_fill_53178 10 = .ok (.aload_n 0, 1) := by decide +kernel
theorem dJ7_fill_53178_11 : decode cJ7_fill_53178 11 = .ok (.iload_n 2, 1) := by decide +kernel
theorem dJ7_fill_53178_12 : decode cJ7_fill_53178 12 = .ok (.iload_n 1, 1) := by decide +kernel
theorem dJ7_fill_53178_13 : decode cJ7_fill_53178 13 = .ok (.iastore, 1) := by decide +kernel
theorem dJ7_fill_53178_14 : decode cJ7_fill_53178 14 = .ok (.iinc 2 1, 3) := by decide +kernel
theorem dJ7_fill_53178_17 : decode cJ7_fill_53178 17 = .ok (.goto (-12), 3) := by decide +kernel
theorem dJ7_fill_53178_20 : decode cJ7_fill_53178 20 = .ok (.return_, 1) := by decide +kernel
theorem dJ7_copyOf_59c91_0 : decode cJ7_copyOf_59c91 0 = .ok (.iload_n 1, 1) := by decide +kernel
theorem dJ7_copyOf_59c91_1 : decode cJ7_copyOf_59c91 1 = .ok (.aload_n 0, 1) := by decide +kernel
theorem dJ7_copyOf_59c91_2 : decode cJ7_copyOf_59c91 2 = .ok (.arraylength, 1) := by decide +kernel
theorem dJ7_copyOf_59c91_3 : decode cJ7_copyOf_59c91 3 = .ok (.if_icmp .ne 11, 3) := by decide +kernel
theorem dJ7_copyOf_59c91_6 : decode cJ7_copyOf_59c91 6 = .ok (.aload_n 0, 1) := by decide +kernel
theorem dJ7_copyOf_59c91_7 : decode cJ7_copyOf_59c91 7 = .ok (.invokevirtual 316, 3) := by decide +kernel
theorem dJ7_copyOf_59c91_10 : decode cJ7_copyOf_59c91 10 = .ok (.checkcast 317, 3) := by decide +kernel
theorem dJ7_copyOf_59c91_13 : decode cJ7_copyOf_59c91 13 = .ok (.areturn, 1) := by decide +kernel
theorem dJ7_copyOf_59c91_14 : decode cJ7_copyOf_59c91 14 = .ok (.iload_n 1, 1) := by decide +kernel
theorem dJ7_copyOf_59c91_15 : decode cJ7_copyOf_59c91 15 = .ok (.newarray .int, 2) := by decide +kernel
theorem dJ7_copyOf_59c91_17 : decode cJ7_copyOf_59c91 17 = .ok (.astore_n 2, 1) := by decide +kernel
theorem dJ7_copyOf_59c91_18 : decode cJ7_copyOf_59c91 18 = .ok (.aload_n 0, 1) := by decide +kernel
theorem dJ7_copyOf_59c91_19 : decode cJ7_copyOf_59c91 19 = .ok (.iconst 0, 1) := by decide +kernel
theorem dJ7_copyOf_59c91_20 : decode cJ7_copyOf_59c91 20 = .ok (.aload_n 2, 1) := by decide +kernel
theorem dJ7_copyOf_59c91_21 : decode cJ7_copyOf_59c91 21 = .ok (.iconst 0, 1) := by decide +kernel
theorem dJ7_copyOf_59c91_22 : decode cJ7_copyOf_59c91 22 = .ok (.aload_n 0, 1) := by decide +kernel
theorem dJ7_copyOf_59c91_23 : decode cJ7_copyOf_59c91 23 = .ok (.arraylength, 1) := by decide +kernel
theorem dJ7_copyOf_59c91_24 : decode cJ7_copyOf_59c91 24 = .ok (.iload_n 1, 1) := by decide +kernel
theorem dJ7_copyOf_59c91_25 : decode cJ7_copyOf_59c91 25 = .ok (.invokestatic 304, 3) := by decide +kernel
theorem dJ7_copyOf_59c91_28 : decode cJ7_copyOf_59c91 28 = .ok (.invokestatic 150, 3) := by decide +kernel
theorem dJ7_copyOf_59c91_31 : decode cJ7_copyOf_59c91 31 = .ok (.aload_n 2, 1) := by decide +kernel
theorem dJ7_copyOf_59c91_32 : decode cJ7_copyOf_59c91 32 = .ok (.areturn, 1) := by decide +kernel
theorem dJ3_checkIndex_8e157_0 : decode cJ3_checkIndex_8e157 0 = .ok (.iload_n 0, 1) := by decide +kernel
theorem dJ3_checkIndex_8e157_1 : decode cJ3_checkIndex_8e157 1 = .ok (.ifCond .lt 8, 3) := by decide +kernel
theorem dJ3_checkIndex_8e157_4 : decode cJ3_checkIndex_8e157 4 = .ok (.iload_n 0, 1) := by decide +kernel
theorem dJ3_checkIndex_8e157_5 : decode cJ3_checkIndex_8e157 5 = .ok (.iload_n 1, 1) := by decide +kernel
theorem dJ3_checkIndex_8e157_6 : decode cJ3_checkIndex_8e157 6 = .ok (.if_icmp .lt 10, 3) := by decide +kernel
theorem dJ3_checkIndex_8e157_9 : decode cJ3_checkIndex_8e157 9 = .ok (.aload_n 2, 1) := by decide +kernel
theorem dJ3_checkIndex_8e157_10 : decode cJ3_checkIndex_8e157 10 = .ok (.iload_n 0, 1) := by decide +kernel
theorem dJ3_checkIndex_8e157_11 : decode cJ3_checkIndex_8e157 11 = .ok (.iload_n 1, 1) := by decide +kernel
theorem dJ3_checkIndex_8e157_12 : decode cJ3_checkIndex_8e157 12 = .ok (.invokestatic 95, 3) := by decide +kernel
theorem dJ3_checkIndex_8e157_15 : decode cJ3_checkIndex_8e157 15 = .ok (.athrow, 1) := by decide +kernel
theorem dJ3_checkIndex_8e157_16 : decode cJ3_checkIndex_8e157 16 = .ok (.iload_n 0, 1) := by decide +kernel
theorem dJ3_checkIndex_8e157_17 : decode cJ3_checkIndex_8e157 17 = .ok (.ireturn, 1) := by decide +kernel
