theorem dX10_count_10 : decode cX10_count 10 = .ok (.iload_n 1, 1) := by decide +kernel
theorem dX10_count_11 : decode cX10_count 11 = .ok (.iload_n 0, 1) := by decide +kernel
theorem dX10_count_12 : decode cX10_count 12 = .ok (.iload_n 2, 1) := by decide +kernel
theorem dX10_count_13 : decode cX10_count 13 = .ok (.ishr, 1) := by decide +kernel
theorem dX10_count_14 : decode cX10_count 14 = .ok (.iconst 1, 1) := by decide +kernel
theorem dX10_count_15 : decode cX10_count 15 = .ok (.iand, 1) := by decide +kernel
theorem dX10_count_16 : decode cX10_count 16 = .ok (.iadd, 1) := by decide +kernel
theorem dX10_count_17 : decode cX10_count 17 = .ok (.istore_n 1, 1) := by decide +kernel
theorem dX10_count_18 : decode cX10_count 18 = .ok (.iinc 2 1, 3) := by decide +kernel
theorem dX10_count_21 : decode cX10_count 21 = .ok (.goto (-17), 3) := by decide +kernel
theorem dX10_count_24 : decode cX10_count 24 = .ok (.iload_n 1, 1) := by decide +kernel
theorem dX10_count_25 : decode cX10_count 25 = .ok (.ireturn, 1) := by decide +kernel
theorem dX10_isUsed_0 : decode cX10_isUsed 0 = .ok (.aload_n 0, 1) := by decide +kernel
theorem dX10_isUsed_1 : decode cX10_isUsed 1 = .ok (.getfield 72, 3) := by decide +kernel
theorem dX10_isUsed_4 : decode cX10_isUsed 4 = .ok (.iload_n 1, 1) := by decide +kernel
theorem dX10_isUsed_5 : decode cX10_isUsed 5 = .ok (.baload, 1) := by decide +kernel
theorem dX10_isUsed_6 : decode cX10_isUsed 6 = .ok (.ifCond .eq 27, 3) := by decide +kernel
theorem dX10_isUsed_9 : decode cX10_isUsed 9 = .ok (.aload_n 0, 1) := by decide +kernel
theorem dX10_isUsed_10 : decode cX10_isUsed 10 = .ok (.getfield 60, 3) := by decide +kernel
theorem dX10_isUsed_13 : decode cX10_isUsed 13 = .ok (.bipush 6, 2) := by decide +kernel
theorem dX10_isUsed_15 : decode cX10_isUsed 15 = .ok (.iload_n 1, 1) := by decide +kernel
theorem dX10_isUsed_16 : decode cX10_isUsed 16 = .ok (.imul, 1) := by decide +kernel
theorem dX10_isUsed_17 : decode cX10_isUsed 17 = .ok (.aload_n 0, 1) := by decide +kernel
theorem dX10_isUsed_18 : decode cX10_isUsed 18 = .ok (.getfield 63, 3) := by decide +kernel
theorem dX10_isUsed_21 : decode cX10_isUsed 21 = .ok (.iload_n 1, 1) := by decide +kernel
theorem dX10_isUsed_22 : decode cX10_isUsed 22 = .ok (.iaload, 1) := by decide +kernel
theorem dX10_isUsed_23 : decode cX10_isUsed 23 = .ok (.invokestatic 192, 3) := by decide +kernel
theorem dX10_isUsed_26 : decode cX10_isUsed 26 = .ok (.ifCond .ne 7, 3) := by decide +kernel
theorem dX10_isUsed_29 : decode cX10_isUsed 29 = .ok (.iconst 1, 1) := by decide +kernel
theorem dX10_isUsed_30 : decode cX10_isUsed 30 = .ok (.goto 4, 3) := by decide +kernel
theorem dX10_isUsed_33 : decode cX10_isUsed 33 = .ok (.iconst 0, 1) := by decide +kernel
theorem dX10_isUsed_34 : decode cX10_isUsed 34 = .ok (.ireturn, 1) := by decide +kernel
theorem dX10_nears_0 : decode cX10_nears 0 = .ok (.iconst 0, 1) := by decide +kernel
theorem dX10_nears_1 : decode cX10_nears 1 = .ok (.istore_n 1, 1) := by decide +kernel
theorem dX10_nears_2 : decode cX10_nears 2 = .ok (.iload_n 1, 1) := by decide +kernel
theorem dX10_nears_3 : decode cX10_nears 3 = .ok (.bipush 10, 2) := by decide +kernel
theorem dX10_nears_5 : decode cX10_nears 5 = .ok (.if_icmp .ge 16, 3) := by decide +kernel
theorem dX10_nears_8 : decode cX10_nears 8 = .ok (.aload_n 0, 1) := by decide +kernel
theorem dX10_nears_9 : decode cX10_nears 9 = .ok (.getfield 90, 3) := by decide +kernel
theorem dX10_nears_12 : decode cX10_nears 12 = .ok (.iload_n 1, 1) := by decide +kernel
theorem dX10_nears_13 : decode cX10_nears 13 = .ok (.iconst 0, 1) := by decide +kernel
theorem dX10_nears_14 : decode cX10_nears 14 = .ok (.iastore, 1) := by decide +kernel
theorem dX10_nears_15 : decode cX10_nears 15 = .ok (.iinc 1 1, 3) := by decide +kernel
theorem dX10_nears_18 : decode cX10_nears 18 = .ok (.goto (-16), 3) := by decide +kernel
theorem dX10_nears_21 : decode cX10_nears 21 = .ok (.iconst 0, 1) := by decide +kernel
theorem dX10_nears_22 : decode cX10_nears 22 = .ok (.istore_n 1, 1) := by decide +kernel
theorem dX10_nears_23 : decode cX10_nears 23 = .ok (.iload_n 1, 1) := by decide +kernel
theorem dX10_nears_24 : decode cX10_nears 24 = .ok (.aload_n 0, 1) := by decide +kernel
theorem dX10_nears_25 : decode cX10_nears 25 = .ok (.getfield 154, 3) := by decide +kernel
theorem dX10_nears_28 : decode cX10_nears 28 = .ok (.if_icmp .ge 93, 3) := by decide +kernel
theorem dX10_nears_31 : decode cX10_nears 31 = .ok (.bipush 6, 2) := by decide +kernel
theorem dX10_nears_33 : decode cX10_nears 33 = .ok (.iload_n 1, 1) := by decide +kernel
theorem dX10_nears_34 : decode cX10_nears 34 = .ok (.imul, 1) := by decide +kernel
theorem dX10_nears_35 : decode cX10_nears 35 = .ok (.istore_n 2, 1) := by decide +kernel
theorem dX10_nears_36 : decode cX10_nears 36 = .ok (.aload_n 0, 1) := by decide +kernel
theorem dX10_nears_37 : decode cX10_nears 37 = .ok (.iload_n 1, 1) := by decide +kernel
theorem dX10_nears_38 : decode cX10_nears 38 = .ok (.invokevirtual 220, 3) := by decide +kernel
theorem dX10_nears_41 : decode cX10_nears 41 = .ok (.ifCond .eq 74, 3) := by decide +kernel
theorem dX10_nears_44 : decode cX10_nears 44 = .ok (.iload_n 2, 1) := by decide +kernel
theorem dX10_nears_45 : decode cX10_nears 45 = .ok (.iconst 1, 1) := by decide +kernel
theorem dX10_nears_46 : decode cX10_nears 46 = .ok (.iadd, 1) := by decide +kernel
theorem dX10_nears_47 : decode cX10_nears 47 = .ok (.bipush 6, 2) := by decide +kernel
theorem dX10_nears_49 : decode cX10_nears 49 = .ok (.iload_n 1, 1) := by decide +kernel
theorem dX10_nears_50 : decode cX10_nears 50 = .ok (.imul, 1) := by decide +kernel
theorem dX10_nears_51 : decode cX10_nears 51 = .ok (.aload_n 0, 1) := by decide +kernel
theorem dX10_nears_52 : decode cX10_nears 52 = .ok (.getfield 63, 3) := by decide +kernel
theorem dX10_nears_55 : decode cX10_nears 55 = .ok (.iload_n 1, 1) := by decide +kernel
theorem dX10_nears_56 : decode cX10_nears 56 = .ok (.iaload, 1) := by decide +kernel
theorem dX10_nears_57 : decode cX10_nears 57 = .ok (.iadd, 1) := by decide +kernel
theorem dX10_nears_58 : decode cX10_nears 58 = .ok (.if_icmp .ge 57, 3) := by decide +kernel
theorem dX10_nears_61 : decode cX10_nears 61 = .ok (.aload_n 0, 1) := by decide +kernel
theorem dX10_nears_62 : decode cX10_nears 62 = .ok (.getfield 90, 3) := by decide +kernel
theorem dX10_nears_65 : decode cX10_nears 65 = .ok (.aload_n 0, 1) := by decide +kernel
theorem dX10_nears_66 : decode cX10_nears 66 = .ok (.getfield 60, 3) := by decide +kernel
theorem dX10_nears_69 : decode cX10_nears 69 = .ok (.iload_n 2, 1) := by decide +kernel
theorem dX10_nears_70 : decode cX10_nears 70 = .ok (.iaload, 1) := by decide +kernel
theorem dX10_nears_71 : decode cX10_nears 71 = .ok (.dup2, 1) := by decide +kernel
theorem dX10_nears_72 : decode cX10_nears 72 = .ok (.iaload, 1) := by decide +kernel
theorem dX10_nears_73 : decode cX10_nears 73 = .ok (.iconst 1, 1) := by decide +kernel
theorem dX10_nears_74 : decode cX10_nears 74 = .ok (.aload_n 0, 1) := by decide +kernel
theorem dX10_nears_75 : decode cX10_nears 75 = .ok (.getfield 60, 3) := by decide +kernel
theorem dX10_nears_78 : decode cX10_nears 78 = .ok (.iload_n 2, 1) := by decide +kernel
theorem dX10_nears_79 : decode cX10_nears 79 = .ok (.iconst 1, 1) := by decide +kernel
theorem dX10_nears_80 : decode cX10_nears 80 = .ok (.iadd, 1) := by decide +kernel
theorem dX10_nears_81 : decode cX10_nears 81 = .ok (.iaload, 1) := by decide +kernel
theorem dX10_nears_82 : decode cX10_nears 82 = .ok (.ishl, 1) := by decide +kernel
theorem dX10_nears_83 : decode cX10_nears 83 = .ok (.ior, 1) := by decide +kernel
theorem dX10_nears_84 : decode cX10_nears 84 = .ok (.iastore, 1) := by decide +kernel
theorem dX10_nears_85 : decode cX10_nears 85 = .ok (.aload_n 0, 1) := by decide +kernel
theorem dX10_nears_86 : decode cX10_nears 86 = .ok (.getfield 90, 3) := by decide +kernel
theorem dX10_nears_89 : decode cX10_nears 89 = .ok (.aload_n 0, 1) := by decide +kernel
theorem dX10_nears_90 : decode cX10_nears 90 = .ok (.getfield 60, 3) := by decide +kernel
theorem dX10_nears_93 : decode cX10_nears 93 = .ok (.iload_n 2, 1) := by decide +kernel
theorem dX10_nears_94 : decode cX10_nears 94 = .ok (.iconst 1, 1) := by decide +kernel
theorem dX10_nears_95 : decode cX10_nears 95 = .ok (.iadd, 1) := by decide +kernel
theorem dX10_nears_96 : decode cX10_nears 96 = .ok (.iaload, 1) := by decide +kernel
theorem dX10_nears_97 : decode cX10_nears 97 = .ok (.dup2, 1) := by decide +kernel
theorem dX10_nears_98 : decode cX10_nears 98 = .ok (.iaload, 1) := by decide +kernel
theorem dX10_nears_99 : decode cX10_nears 99 = .ok (.iconst 1, 1) := by decide +kernel
theorem dX10_nears_100 : decode cX10_nears 100 = .ok (.aload_n 0, 1) := by decide +kernel
theorem dX10_nears_101 : decode cX10_nears 101 = .ok (.getfield 60, 3) := by decide +kernel
theorem dX10_nears_104 : decode cX10_nears 104 = .ok (.iload_n 2, 1) := by decide +kernel
theorem dX10_nears_105 : decode cX10_nears 105 = .ok (.iaload, 1) := by decide +kernel
theorem dX10_nears_106 : decode cX10_nears 106 = .ok (.ishl, 1) := by decide +kernel
theorem dX10_nears_107 : decode cX10_nears 107 = .ok (.ior, 1) := by decide +kernel
theorem dX10_nears_108 : decode cX10_nears 108 = .ok (.iastore, 1) := by decide +kernel
theorem dX10_nears_109 : decode cX10_nears 109 = .ok (.iinc 2 1, 3) := by decide +kernel
theorem dX10_nears_112 : decode cX10_nears 112 = .ok (.goto (-76), 3) := by decide +kernel
theorem dX10_nears_115 : decode cX10_nears 115 = .ok (.iinc 1 1, 3) := by decide +kernel
theorem dX10_nears_118 : decode cX10_nears 118 = .ok (.goto (-95), 3) := by decide +kernel
theorem dX10_nears_121 : decode cX10_nears 121 = .ok (.aload_n 0, 1) := by decide +kernel
theorem dX10_nears_122 : decode cX10_nears 122 = .ok (.iconst 0, 1) := by decide +kernel
theorem dX10_nears_123 : decode cX10_nears 123 = .ok (.putfield 223, 3) := by decide +kernel
theorem dX10_nears_126 : decode cX10_nears 126 = .ok (.bipush 10, 2) := by decide +kernel
theorem dX10_nears_128 : decode cX10_nears 128 = .ok (.istore_n 1, 1) := by decide +kernel
theorem dX10_nears_129 : decode cX10_nears 129 = .ok (.iload_n 1, 1) := by decide +kernel
theorem dX10_nears_130 : decode cX10_nears 130 = .ok (.ifCond .le 68, 3) := by decide +kernel
theorem dX10_nears_133 : decode cX10_nears 133 = .ok (.iconst 0, 1) := by decide +kernel
theorem dX10_nears_134 : decode cX10_nears 134 = .ok (.istore_n 2, 1) := by decide +kernel
theorem dX10_nears_135 : decode cX10_nears 135 = .ok (.iload_n 2, 1) := by decide +kernel
theorem dX10_nears_136 : decode cX10_nears 136 = .ok (.bipush 10, 2) := by decide +kernel
theorem dX10_nears_138 : decode cX10_nears 138 = .ok (.if_icmp .ge 54, 3) := by decide +kernel
theorem dX10_nears_141 : decode cX10_nears 141 = .ok (.aload_n 0, 1) := by decide +kernel
theorem dX10_nears_142 : decode cX10_nears 142 = .ok (.dup, 1) := by decide +kernel
theorem dX10_nears_143 : decode cX10_nears 143 = .ok (.getfield 223, 3) := by decide +kernel
theorem dX10_nears_146 : decode cX10_nears 146 = .ok (.aload_n 0, 1) := by decide +kernel
theorem dX10_nears_147 : decode cX10_nears 147 = .ok (.getfield 90, 3) := by decide +kernel
theorem dX10_nears_150 : decode cX10_nears 150 = .ok (.iload_n 2, 1) := by decide +kernel
theorem dX10_nears_151 : decode cX10_nears 151 = .ok (.iaload, 1) := by decide +kernel
theorem dX10_nears_152 : decode cX10_nears 152 = .ok (.invokestatic 226, 3) := by decide +kernel
theorem dX10_nears_155 : decode cX10_nears 155 = .ok (.iload_n 1, 1) := by decide +kernel
theorem dX10_nears_156 : decode cX10_nears 156 = .ok (.if_icmp .ne 25, 3) := by decide +kernel
theorem dX10_nears_159 : decode cX10_nears 159 = .ok (.aload_n 0, 1) := by decide +kernel
theorem dX10_nears_160 : decode cX10_nears 160 = .ok (.getfield 223, 3) := by decide +kernel
theorem dX10_nears_163 : decode cX10_nears 163 = .ok (.aload_n 0, 1) := by decide +kernel
theorem dX10_nears_164 : decode cX10_nears 164 = .ok (.getfield 90, 3) := by decide +kernel
theorem dX10_nears_167 : decode cX10_nears 167 = .ok (.iload_n 2, 1) := by decide +kernel
theorem dX10_nears_168 : decode cX10_nears 168 = .ok (.iaload, 1) := by decide +kernel
theorem dX10_nears_169 : decode cX10_nears 169 = .ok (.iconst (-1), 1) := by decide +kernel
theorem dX10_nears_170 : decode cX10_nears 170 = .ok (.ixor, 1) := by decide +kernel
theorem dX10_nears_171 : decode cX10_nears 171 = .ok (.iand, 1) := by decide +kernel
theorem dX10_nears_172 : decode cX10_nears 172 = .ok (.ifCond .ne 9, 3) := by decide +kernel
theorem dX10_nears_175 : decode cX10_nears 175 = .ok (.iconst 1, 1) := by decide +kernel
theorem dX10_nears_176 : decode cX10_nears 176 = .ok (.iload_n 2, 1) := by decide +kernel
theorem dX10_nears_177 : decode cX10_nears 177 = .ok (.ishl, 1) := by decide +kernel
theorem dX10_nears_178 : decode cX10_nears 178 = .ok (.goto 4, 3) := by decide +kernel
theorem dX10_nears_181 : decode cX10_nears 181 = .ok (.iconst 0, 1) := by decide +kernel
theorem dX10_nears_182 : decode cX10_nears 182 = .ok (.ior, 1) := by decide +kernel
theorem dX10_nears_183 : decode cX10_nears 183 = .ok (.putfield 223, 3) := by decide +kernel
theorem dX10_nears_186 : decode cX10_nears 186 = .ok (.iinc 2 1, 3) := by decide +kernel
theorem dX10_nears_189 : decode cX10_nears 189 = .ok (.goto (-54), 3) := by decide +kernel
theorem dX10_nears_192 : decode cX10_nears 192 = .ok (.iinc 1 (-1), 3) := by decide +kernel
theorem dX10_nears_195 : decode cX10_nears 195 = .ok (.goto (-66), 3) := by decide +kernel
theorem dX10_nears_198 : decode cX10_nears 198 = .ok (.return_, 1) := by decide +kernel
theorem dX10_topOf_0 : decode cX10_topOf 0 = .ok (.iconst 0, 1) := by decide +kernel
theorem dX10_topOf_1 : decode cX10_topOf 1 = .ok (.istore_n 2, 1) := by decide +kernel
theorem dX10_topOf_2 : decode cX10_topOf 2 = .ok (.iconst 0, 1) := by decide +kernel
theorem dX10_topOf_3 : decode cX10_topOf 3 = .ok (.istore_n 3, 1) := by decide +kernel
theorem dX10_topOf_4 : decode cX10_topOf 4 = .ok (.iload_n 3, 1) := by decide +kernel
theorem dX10_topOf_5 : decode cX10_topOf 5 = .ok (.aload_n 0, 1) := by decide +kernel
theorem dX10_topOf_6 : decode cX10_topOf 6 = .ok (.getfield 63, 3) := by decide +kernel
theorem dX10_topOf_9 : decode cX10_topOf 9 = .ok (.iload_n 1, 1) := by decide +kernel
theorem dX10_topOf_10 : decode cX10_topOf 10 = .ok (.iaload, 1) := by decide +kernel
theorem dX10_topOf_11 : decode cX10_topOf 11 = .ok (.if_icmp .ge 74, 3) := by decide +kernel
theorem dX10_topOf_14 : decode cX10_topOf 14 = .ok (.aload_n 0, 1) := by decide +kernel
theorem dX10_topOf_15 : decode cX10_topOf 15 = .ok (.getfield 223, 3) := by decide +kernel
theorem dX10_topOf_18 : decode cX10_topOf 18 = .ok (.aload_n 0, 1) := by decide +kernel
theorem dX10_topOf_19 : decode cX10_topOf 19 = .ok (.getfield 60, 3) := by decide +kernel
theorem dX10_topOf_22 : decode cX10_topOf 22 = .ok (.bipush 6, 2) := by decide +kernel
theorem dX10_topOf_24 : decode cX10_topOf 24 = .ok (.iload_n 1, 1) := by decide +kernel
theorem dX10_topOf_25 : decode cX10_topOf 25 = .ok (.imul, 1) := by decide +kernel
theorem dX10_topOf_26 : decode cX10_topOf 26 = .ok (.iload_n 3, 1) := by decide +kernel
theorem dX10_topOf_27 : decode cX10_topOf 27 = .ok (.iadd, 1) := by decide +kernel
theorem dX10_topOf_28 : decode cX10_topOf 28 = .ok (.iaload, 1) := by decide +kernel
theorem dX10_topOf_29 : decode cX10_topOf 29 = .ok (.ishr, 1) := by decide +kernel
theorem dX10_topOf_30 : decode cX10_topOf 30 = .ok (.iconst 1, 1) := by decide +kernel
theorem dX10_topOf_31 : decode cX10_topOf 31 = .ok (.iand, 1) := by decide +kernel
theorem dX10_topOf_32 : decode cX10_topOf 32 = .ok (.iconst 1, 1) := by decide +kernel
theorem dX10_topOf_33 : decode cX10_topOf 33 = .ok (.if_icmp .ne 5, 3) := by decide +kernel
theorem dX10_topOf_36 : decode cX10_topOf 36 = .ok (.iload_n 3, 1) := by decide +kernel
theorem dX10_topOf_37 : decode cX10_topOf 37 = .ok (.ireturn, 1) := by decide +kernel
theorem dX10_topOf_38 : decode cX10_topOf 38 = .ok (.aload_n 0, 1) := by decide +kernel
theorem dX10_topOf_39 : decode cX10_topOf 39 = .ok (.getfield 99, 3) := by decide +kernel
theorem dX10_topOf_42 : decode cX10_topOf 42 = .ok (.aload_n 0, 1) := by decide +kernel
theorem dX10_topOf_43 : decode cX10_topOf 43 = .ok (.getfield 60, 3) := by decide +kernel
theorem dX10_topOf_46 : decode cX10_topOf 46 = .ok (.bipush 6, 2) := by decide +kernel
theorem dX10_topOf_48 : decode cX10_topOf 48 = .ok (.iload_n 1, 1) := by decide +kernel
theorem dX10_topOf_49 : decode cX10_topOf 49 = .ok (.imul, 1) := by decide +kernel
theorem dX10_topOf_50 : decode cX10_topOf 50 = .ok (.iload_n 3, 1) := by decide +kernel
theorem dX10_topOf_51 : decode cX10_topOf 51 = .ok (.iadd, 1) := by decide +kernel
theorem dX10_topOf_52 : decode cX10_topOf 52 = .ok (.iaload, 1) := by decide +kernel
theorem dX10_topOf_53 : decode cX10_topOf 53 = .ok (.iaload, 1) := by decide +kernel
theorem dX10_topOf_54 : decode cX10_topOf 54 = .ok (.aload_n 0, 1) := by decide +kernel
theorem dX10_topOf_55 : decode cX10_topOf 55 = .ok (.getfield 99, 3) := by decide +kernel
theorem dX10_topOf_58 : decode cX10_topOf 58 = .ok (.aload_n 0, 1) := by decide +kernel
theorem dX10_topOf_59 : decode cX10_topOf 59 = .ok (.getfield 60, 3) := by decide +kernel
theorem dX10_topOf_62 : decode cX10_topOf 62 = .ok (.bipush 6, 2) := by decide +kernel
theorem dX10_topOf_64 : decode cX10_topOf 64 = .ok (.iload_n 1, 1) := by decide +kernel
theorem dX10_topOf_65 : decode cX10_topOf 65 = .ok (.imul, 1) := by decide +kernel
theorem dX10_topOf_66 : decode cX10_topOf 66 = .ok (.iload_n 2, 1) := by decide +kernel
theorem dX10_topOf_67 : decode cX10_topOf 67 = .ok (.iadd, 1) := by decide +kernel
theorem dX10_topOf_68 : decode cX10_topOf 68 = .ok (.iaload, 1) := by decide +kernel
theorem dX10_topOf_69 : decode cX10_topOf 69 = .ok (.iaload, 1) := by decide +kernel
theorem dX10_topOf_70 : decode cX10_topOf 70 = .ok (.if_icmp .le 7, 3) := by decide +kernel
theorem dX10_topOf_73 : decode cX10_topOf 73 = .ok (.iload_n 3, 1) := by decide +kernel
theorem dX10_topOf_74 : decode cX10_topOf 74 = .ok (.goto 4, 3) := by decide +kernel
theorem dX10_topOf_77 : decode cX10_topOf 77 = .ok (.iload_n 2, 1) := by decide +kernel
theorem dX10_topOf_78 : decode cX10_topOf 78 = .ok (.istore_n 2, 1) := by decide +kernel
theorem dX10_topOf_79 : decode cX10_topOf 79 = .ok (.iinc 3 1, 3) := by decide +kernel
theorem dX10_topOf_82 : decode cX10_topOf 82 = .ok (.goto (-78), 3) := by decide +kernel
theorem dX10_topOf_85 : decode cX10_topOf 85 = .ok (.iload_n 2, 1) := by decide +kernel
theorem dX10_topOf_86 : decode cX10_topOf 86 = .ok (.ireturn, 1) := by decide +kernel
theorem dX10_votes_0 : decode cX10_votes 0 = .ok (.iconst 0, 1) := by decide +kernel
theorem dX10_votes_1 : decode cX10_votes 1 = .ok (.istore_n 1, 1) := by decide +kernel
theorem dX10_votes_2 : decode cX10_votes 2 = .ok (.iload_n 1, 1) := by decide +kernel
theorem dX10_votes_3 : decode cX10_votes 3 = .ok (.bipush 100, 2) := by decide +kernel
theorem dX10_votes_5 : decode cX10_votes 5 = .ok (.if_icmp .ge 16, 3) := by decide +kernel
theorem dX10_votes_8 : decode cX10_votes 8 = .ok (.aload_n 0, 1) := by decide +kernel
theorem dX10_votes_9 : decode cX10_votes 9 = .ok (.getfield 96, 3) := by decide +kernel
theorem dX10_votes_12 : decode cX10_votes 12 = .ok (.iload_n 1, 1) := by decide +kernel
theorem dX10_votes_13 : decode cX10_votes 13 = .ok (.iconst 0, 1) := by decide +kernel
theorem dX10_votes_14 : decode cX10_votes 14 = .ok (.iastore, 1) := by decide +kernel
theorem dX10_votes_15 : decode cX10_votes 15 = .ok (.iinc 1 1, 3) := by decide +kernel
theorem dX10_votes_18 : decode cX10_votes 18 = .ok (.goto (-16), 3) := by decide +kernel
theorem dX10_votes_21 : decode cX10_votes 21 = .ok (.iconst 0, 1) := by decide +kernel
theorem dX10_votes_22 : decode cX10_votes 22 = .ok (.istore_n 1, 1) := by decide +kernel
theorem dX10_votes_23 : decode cX10_votes 23 = .ok (.iload_n 1, 1) := by decide +kernel
theorem dX10_votes_24 : decode cX10_votes 24 = .ok (.aload_n 0, 1) := by decide +kernel
theorem dX10_votes_25 : decode cX10_votes 25 = .ok (.getfield 154, 3) := by decide +kernel
theorem dX10_votes_28 : decode cX10_votes 28 = .ok (.if_icmp .ge 113, 3) := by decide +kernel
theorem dX10_votes_31 : decode cX10_votes 31 = .ok (.aload_n 0, 1) := by decide +kernel
theorem dX10_votes_32 : decode cX10_votes 32 = .ok (.iload_n 1, 1) := by decide +kernel
theorem dX10_votes_33 : decode cX10_votes 33 = .ok (.invokevirtual 220, 3) := by decide +kernel
theorem dX10_votes_36 : decode cX10_votes 36 = .ok (.ifCond .eq 11, 3) := by decide +kernel
theorem dX10_votes_39 : decode cX10_votes 39 = .ok (.aload_n 0, 1) := by decide +kernel
theorem dX10_votes_40 : decode cX10_votes 40 = .ok (.iload_n 1, 1) := by decide +kernel
theorem dX10_votes_41 : decode cX10_votes 41 = .ok (.invokevirtual 229, 3) := by decide +kernel
theorem dX10_votes_44 : decode cX10_votes 44 = .ok (.goto 4, 3) := by decide +kernel
theorem dX10_votes_47 : decode cX10_votes 47 = .ok (.iconst (-1), 1) := by decide +kernel
theorem dX10_votes_48 : decode cX10_votes 48 = .ok (.istore_n 2, 1) := by decide +kernel
theorem dX10_votes_49 : decode cX10_votes 49 = .ok (.iconst 0, 1) := by decide +kernel
theorem dX10_votes_50 : decode cX10_votes 50 = .ok (.istore_n 3, 1) := by decide +kernel
theorem dX10_votes_51 : decode cX10_votes 51 = .ok (.iload_n 2, 1) := by decide +kernel
theorem dX10_votes_52 : decode cX10_votes 52 = .ok (.iconst (-1), 1) := by decide +kernel
theorem dX10_votes_53 : decode cX10_votes 53 = .ok (.if_icmp .eq 82, 3) := by decide +kernel
theorem dX10_votes_56 : decode cX10_votes 56 = .ok (.iload_n 3, 1) := by decide +kernel
theorem dX10_votes_57 : decode cX10_votes 57 = .ok (.iconst 1, 1) := by decide +kernel
theorem dX10_votes_58 : decode cX10_votes 58 = .ok (.iadd, 1) := by decide +kernel
theorem dX10_votes_59 : decode cX10_votes 59 = .ok (.aload_n 0, 1) := by decide +kernel
theorem dX10_votes_60 : decode cX10_votes 60 = .ok (.getfield 63, 3) := by decide +kernel
theorem dX10_votes_63 : decode cX10_votes 63 = .ok (.iload_n 1, 1) := by decide +kernel
theorem dX10_votes_64 : decode cX10_votes 64 = .ok (.iaload, 1) := by decide +kernel
theorem dX10_votes_65 : decode cX10_votes 65 = .ok (.if_icmp .ge 70, 3) := by decide +kernel
theorem dX10_votes_68 : decode cX10_votes 68 = .ok (.aload_n 0, 1) := by decide +kernel
theorem dX10_votes_69 : decode cX10_votes 69 = .ok (.getfield 60, 3) := by decide +kernel
theorem dX10_votes_72 : decode cX10_votes 72 = .ok (.bipush 6, 2) := by decide +kernel
theorem dX10_votes_74 : decode cX10_votes 74 = .ok (.iload_n 1, 1) := by decide +kernel
theorem dX10_votes_75 : decode cX10_votes 75 = .ok (.imul, 1) := by decide +kernel
theorem dX10_votes_76 : decode cX10_votes 76 = .ok (.iload_n 3, 1) := by decide +kernel
theorem dX10_votes_77 : decode cX10_votes 77 = .ok (.iadd, 1) := by decide +kernel
theorem dX10_votes_78 : decode cX10_votes 78 = .ok (.iaload, 1) := by decide +kernel
theorem dX10_votes_79 : decode cX10_votes 79 = .ok (.istore 4, 2) := by decide +kernel
theorem dX10_votes_81 : decode cX10_votes 81 = .ok (.aload_n 0, 1) := by decide +kernel
theorem dX10_votes_82 : decode cX10_votes 82 = .ok (.getfield 60, 3) := by decide +kernel
theorem dX10_votes_85 : decode cX10_votes 85 = .ok (.bipush 6, 2) := by decide +kernel
theorem dX10_votes_87 : decode cX10_votes 87 = .ok (.iload_n 1, 1) := by decide +kernel
theorem dX10_votes_88 : decode cX10_votes 88 = .ok (.imul, 1) := by decide +kernel
theorem dX10_votes_89 : decode cX10_votes 89 = .ok (.iload_n 3, 1) := by decide +kernel
theorem dX10_votes_90 : decode cX10_votes 90 = .ok (.iadd, 1) := by decide +kernel
theorem dX10_votes_91 : decode cX10_votes 91 = .ok (.iconst 1, 1) := by decide +kernel
theorem dX10_votes_92 : decode cX10_votes 92 = .ok (.iadd, 1) := by decide +kernel
theorem dX10_votes_93 : decode cX10_votes 93 = .ok (.iaload, 1) := by decide +kernel
theorem dX10_votes_94 : decode cX10_votes 94 = .ok (.istore 5, 2) := by decide +kernel
theorem dX10_votes_96 : decode cX10_votes 96 = .ok (.aload_n 0, 1) := by decide +kernel
theorem dX10_votes_97 : decode cX10_votes 97 = .ok (.getfield 96, 3) := by decide +kernel
theorem dX10_votes_100 : decode cX10_votes 100 = .ok (.iload_n 3, 1) := by decide +kernel
theorem dX10_votes_101 : decode cX10_votes 101 = .ok (.iload_n 2, 1) := by decide +kernel
theorem dX10_votes_102 : decode cX10_votes 102 = .ok (.if_icmp .ge 14, 3) := by decide +kernel
theorem dX10_votes_105 : decode cX10_votes 105 = .ok (.bipush 10, 2) := by decide +kernel
theorem dX10_votes_107 : decode cX10_votes 107 = .ok (.iload 4, 2) := by decide +kernel
theorem dX10_votes_109 : decode cX10_votes 109 = .ok (.imul, 1) := by decide +kernel
theorem dX10_votes_110 : decode cX10_votes 110 = .ok (.iload 5, 2) := by decide +kernel
theorem dX10_votes_112 : decode cX10_votes 112 = .ok (.iadd, 1) := by decide +kernel
theorem dX10_votes_113 : decode cX10_votes 113 = .ok (.goto 11, 3) := by decide +kernel
theorem dX10_votes_116 : decode cX10_votes 116 = .ok (.bipush 10, 2) := by decide +kernel
theorem dX10_votes_118 : decode cX10_votes 118 = .ok (.iload 5, 2) := by decide +kernel
theorem dX10_votes_120 : decode cX10_votes 120 = .ok (.imul, 1) := by decide +kernel
theorem dX10_votes_121 : decode cX10_votes 121 = .ok (.iload 4, 2) := by decide +kernel
theorem dX10_votes_123 : decode cX10_votes 123 = .ok (.iadd, 1) := by decide +kernel
theorem dX10_votes_124 : decode cX10_votes 124 = .ok (.dup2, 1) := by decide +kernel
theorem dX10_votes_125 : decode cX10_votes 125 = .ok (.iaload, 1) := by decide +kernel
theorem dX10_votes_126 : decode cX10_votes 126 = .ok (.iconst 1, 1) := by decide +kernel
theorem dX10_votes_127 : decode cX10_votes 127 = .ok (.iadd, 1) := by decide +kernel
theorem dX10_votes_128 : decode cX10_votes 128 = .ok (.iastore, 1) := by decide +kernel
theorem dX10_votes_129 : decode cX10_votes 129 = .ok (.iinc 3 1, 3) := by decide +kernel
theorem dX10_votes_132 : decode cX10_votes 132 = .ok (.goto (-81), 3) := by decide +kernel
theorem dX10_votes_135 : decode cX10_votes 135 = .ok (.iinc 1 1, 3) := by decide +kernel
theorem dX10_votes_138 : decode cX10_votes 138 = .ok (.goto (-115), 3) := by decide +kernel
theorem dX10_votes_141 : decode cX10_votes 141 = .ok (.return_, 1) := by decide +kernel
theorem dX10_isInClique_0 : decode cX10_isInClique 0 = .ok (.aload_n 0, 1) := by decide +kernel
theorem dX10_isInClique_1 : decode cX10_isInClique 1 = .ok (.getfield 223, 3) := by decide +kernel
theorem dX10_isInClique_4 : decode cX10_isInClique 4 = .ok (.iload_n 1, 1) := by decide +kernel
theorem dX10_isInClique_5 : decode cX10_isInClique 5 = .ok (.ishr, 1) := by decide +kernel
theorem dX10_isInClique_6 : decode cX10_isInClique 6 = .ok (.iconst 1, 1) := by decide +kernel
theorem dX10_isInClique_7 : decode cX10_isInClique 7 = .ok (.iand, 1) := by decide +kernel
theorem dX10_isInClique_8 : decode cX10_isInClique 8 = .ok (.iconst 1, 1) := by decide +kernel
theorem dX10_isInClique_9 : decode cX10_isInClique 9 = .ok (.if_icmp .ne 7, 3) := by decide +kernel
theorem dX10_isInClique_12 : decode cX10_isInClique 12 = .ok (.iconst 1, 1) := by decide +kernel
theorem dX10_isInClique_13 : decode cX10_isInClique 13 = .ok (.goto 4, 3) := by decide +kernel
theorem dX10_isInClique_16 : decode cX10_isInClique 16 = .ok (.iconst 0, 1) := by decide +kernel
theorem dX10_isInClique_17 : decode cX10_isInClique 17 = .ok (.ireturn, 1) := by decide +kernel
theorem dX10_relates_0 : decode cX10_relates 0 = .ok (.iconst 0, 1) := by decide +kernel
theorem dX10_relates_1 : decode cX10_relates 1 = .ok (.istore_n 1, 1) := by decide +kernel
theorem dX10_relates_2 : decode cX10_relates 2 = .ok (.iload_n 1, 1) := by decide +kernel
theorem dX10_relates_3 : decode cX10_relates 3 = .ok (.bipush 10, 2) := by decide +kernel
theorem dX10_relates_5 : decode cX10_relates 5 = .ok (.if_icmp .ge 129, 3) := by decide +kernel
theorem dX10_relates_8 : decode cX10_relates 8 = .ok (.iconst 0, 1) := by decide +kernel
theorem dX10_relates_9 : decode cX10_relates 9 = .ok (.istore_n 2, 1) := by decide +kernel
theorem dX10_relates_10 : decode cX10_relates 10 = .ok (.iload_n 2, 1) := by decide +kernel
theorem dX10_relates_11 : decode cX10_relates 11 = .ok (.bipush 10, 2) := by decide +kernel
theorem dX10_relates_13 : decode cX10_relates 13 = .ok (.if_icmp .ge 115, 3) := by decide +kernel
theorem dX10_relates_16 : decode cX10_relates 16 = .ok (.aload_n 0, 1) := by decide +kernel
theorem dX10_relates_17 : decode cX10_relates 17 = .ok (.getfield 96, 3) := by decide +kernel
theorem dX10_relates_20 : decode cX10_relates 20 = .ok (.bipush 10, 2) := by decide +kernel
theorem dX10_relates_22 : decode cX10_relates 22 = .ok (.iload_n 1, 1) := by decide +kernel
theorem dX10_relates_23 : decode cX10_relates 23 = .ok (.imul, 1) := by decide +kernel
theorem dX10_relates_24 : decode cX10_relates 24 = .ok (.iload_n 2, 1) := by decide +kernel
theorem dX10_relates_25 : decode cX10_relates 25 = .ok (.iadd, 1) := by decide +kernel
theorem dX10_relates_26 : decode cX10_relates 26 = .ok (.iaload, 1) := by decide +kernel
theorem dX10_relates_27 : decode cX10_relates 27 = .ok (.istore_n 3, 1) := by decide +kernel
theorem dX10_relates_28 : decode cX10_relates 28 = .ok (.aload_n 0, 1) := by decide +kernel
theorem dX10_relates_29 : decode cX10_relates 29 = .ok (.getfield 96, 3) := by decide +kernel
theorem dX10_relates_32 : decode cX10_relates 32 = .ok (.bipush 10, 2) := by decide +kernel
theorem dX10_relates_34 : decode cX10_relates 34 = .ok (.iload_n 2, 1) := by decide +kernel
theorem dX10_relates_35 : decode cX10_relates 35 = .ok (.imul, 1) := by decide +kernel
theorem dX10_relates_36 : decode cX10_relates 36 = .ok (.iload_n 1, 1) := by decide +kernel
theorem dX10_relates_37 : decode cX10_relates 37 = .ok (.iadd, 1) := by decide +kernel
theorem dX10_relates_38 : decode cX10_relates 38 = .ok (.iaload, 1) := by decide +kernel
theorem dX10_relates_39 : decode cX10_relates 39 = .ok (.istore 4, 2) := by decide +kernel
theorem dX10_relates_41 : decode cX10_relates 41 = .ok (.iload_n 3, 1) := by decide +kernel
theorem dX10_relates_42 : decode cX10_relates 42 = .ok (.iconst 2, 1) := by decide +kernel
theorem dX10_relates_43 : decode cX10_relates 43 = .ok (.iload 4, 2) := by decide +kernel
theorem dX10_relates_45 : decode cX10_relates 45 = .ok (.imul, 1) := by decide +kernel
theorem dX10_relates_46 : decode cX10_relates 46 = .ok (.if_icmp .le 7, 3) := by decide +kernel
theorem dX10_relates_49 : decode cX10_relates 49 = .ok (.iconst 1, 1) := by decide +kernel
theorem dX10_relates_50 : decode cX10_relates 50 = .ok (.goto 16, 3) := by decide +kernel
theorem dX10_relates_53 : decode cX10_relates 53 = .ok (.iload 4, 2) := by decide +kernel
theorem dX10_relates_55 : decode cX10_relates 55 = .ok (.iconst 2, 1) := by decide +kernel
theorem dX10_relates_56 : decode cX10_relates 56 = .ok (.iload_n 3, 1) := by decide +kernel
theorem dX10_relates_57 : decode cX10_relates 57 = .ok (.imul, 1) := by decide +kernel
theorem dX10_relates_58 : decode cX10_relates 58 = .ok (.if_icmp .le 7, 3) := by decide +kernel
theorem dX10_relates_61 : decode cX10_relates 61 = .ok (.iconst 2, 1) := by decide +kernel
theorem dX10_relates_62 : decode cX10_relates 62 = .ok (.goto 4, 3) := by decide +kernel
theorem dX10_relates_65 : decode cX10_relates 65 = .ok (.iconst 3, 1) := by decide +kernel
theorem dX10_relates_66 : decode cX10_relates 66 = .ok (.istore 5, 2) := by decide +kernel
theorem dX10_relates_68 : decode cX10_relates 68 = .ok (.aload_n 0, 1) := by decide +kernel
theorem dX10_relates_69 : decode cX10_relates 69 = .ok (.iload_n 1, 1) := by decide +kernel
theorem dX10_relates_70 : decode cX10_relates 70 = .ok (.invokevirtual 232, 3) := by decide +kernel
theorem dX10_relates_73 : decode cX10_relates 73 = .ok (.ifCond .eq 15, 3) := by decide +kernel
theorem dX10_relates_76 : decode cX10_relates 76 = .ok (.aload_n 0, 1) := by decide +kernel
theorem dX10_relates_77 : decode cX10_relates 77 = .ok (.iload_n 2, 1) := by decide +kernel
theorem dX10_relates_78 : decode cX10_relates 78 = .ok (.invokevirtual 232, 3) := by decide +kernel
theorem dX10_relates_81 : decode cX10_relates 81 = .ok (.ifCond .eq 7, 3) := by decide +kernel
theorem dX10_relates_84 : decode cX10_relates 84 = .ok (.iconst 3, 1) := by decide +kernel
theorem dX10_relates_85 : decode cX10_relates 85 = .ok (.goto 5, 3) := by decide +kernel
theorem dX10_relates_88 : decode cX10_relates 88 = .ok (.iload 5, 2) := by decide +kernel
theorem dX10_relates_90 : decode cX10_relates 90 = .ok (.istore 5, 2) := by decide +kernel
theorem dX10_relates_92 : decode cX10_relates 92 = .ok (.aload_n 0, 1) := by decide +kernel
theorem dX10_relates_93 : decode cX10_relates 93 = .ok (.getfield 93, 3) := by decide +kernel
theorem dX10_relates_96 : decode cX10_relates 96 = .ok (.bipush 10, 2) := by decide +kernel
theorem dX10_relates_98 : decode cX10_relates 98 = .ok (.iload_n 1, 1) := by decide +kernel
theorem dX10_relates_99 : decode cX10_relates 99 = .ok (.imul, 1) := by decide +kernel
theorem dX10_relates_100 : decode cX10_relates 100 = .ok (.iload_n 2, 1) := by decide +kernel
theorem dX10_relates_101 : decode cX10_relates 101 = .ok (.iadd, 1) := by decide +kernel
theorem dX10_relates_102 : decode cX10_relates 102 = .ok (.aload_n 0, 1) := by decide +kernel
theorem dX10_relates_103 : decode cX10_relates 103 = .ok (.getfield 90, 3) := by decide +kernel
theorem dX10_relates_106 : decode cX10_relates 106 = .ok (.iload_n 1, 1) := by decide +kernel
theorem dX10_relates_107 : decode cX10_relates 107 = .ok (.iaload, 1) := by decide +kernel
theorem dX10_relates_108 : decode cX10_relates 108 = .ok (.iload_n 2, 1) := by decide +kernel
theorem dX10_relates_109 : decode cX10_relates 109 = .ok (.ishr, 1) := by decide +kernel
theorem dX10_relates_110 : decode cX10_relates 110 = .ok (.iconst 1, 1) := by decide +kernel
theorem dX10_relates_111 : decode cX10_relates 111 = .ok (.iand, 1) := by decide +kernel
theorem dX10_relates_112 : decode cX10_relates 112 = .ok (.ifCond .ne 7, 3) := by decide +kernel
theorem dX10_relates_115 : decode cX10_relates 115 = .ok (.iconst 0, 1) := by decide +kernel
theorem dX10_relates_116 : decode cX10_relates 116 = .ok (.goto 5, 3) := by decide +kernel
theorem dX10_relates_119 : decode cX10_relates 119 = .ok (.iload 5, 2) := by decide +kernel
theorem dX10_relates_121 : decode cX10_relates 121 = .ok (.iastore, 1) := by decide +kernel
theorem dX10_relates_122 : decode cX10_relates 122 = .ok (.iinc 2 1, 3) := by decide +kernel
theorem dX10_relates_125 : decode cX10_relates 125 = .ok (.goto (-115), 3) := by decide +kernel
theorem dX10_relates_128 : decode cX10_relates 128 = .ok (.iinc 1 1, 3) := by decide +kernel
theorem dX10_relates_131 : decode cX10_relates 131 = .ok (.goto (-129), 3) := by decide +kernel
theorem dX10_relates_134 : decode cX10_relates 134 = .ok (.return_, 1) := by decide +kernel
theorem dX10_infers_0 : decode cX10_infers 0 = .ok (.aload_n 0, 1) := by decide +kernel
theorem dX10_infers_1 : decode cX10_infers 1 = .ok (.invokevirtual 235, 3) := by decide +kernel
theorem dX10_infers_4 : decode cX10_infers 4 = .ok (.iconst 0, 1) := by decide +kernel
theorem dX10_infers_5 : decode cX10_infers 5 = .ok (.istore_n 2, 1) := by decide +kernel
theorem dX10_infers_6 : decode cX10_infers 6 = .ok (.iload_n 2, 1) := by decide +kernel
theorem dX10_infers_7 : decode cX10_infers 7 = .ok (.iload_n 1, 1) := by decide +kernel
theorem dX10_infers_8 : decode cX10_infers 8 = .ok (.if_icmp .gt 100, 3) := by decide +kernel
theorem dX10_infers_11 : decode cX10_infers 11 = .ok (.iconst 0, 1) := by decide +kernel
theorem dX10_infers_12 : decode cX10_infers 12 = .ok (.istore_n 3, 1) := by decide +kernel
theorem dX10_infers_13 : decode cX10_infers 13 = .ok (.iload_n 3, 1) := by decide +kernel
theorem dX10_infers_14 : decode cX10_infers 14 = .ok (.bipush 10, 2) := by decide +kernel
theorem dX10_infers_16 : decode cX10_infers 16 = .ok (.if_icmp .ge 78, 3) := by decide +kernel
theorem dX10_infers_19 : decode cX10_infers 19 = .ok (.iconst 0, 1) := by decide +kernel
theorem dX10_infers_20 : decode cX10_infers 20 = .ok (.istore 4, 2) := by decide +kernel
theorem dX10_infers_22 : decode cX10_infers 22 = .ok (.iconst 0, 1) := by decide +kernel
theorem dX10_infers_23 : decode cX10_infers 23 = .ok (.istore 5, 2) := by decide +kernel
theorem dX10_infers_25 : decode cX10_infers 25 = .ok (.iload 5, 2) := by decide +kernel
theorem dX10_infers_27 : decode cX10_infers 27 = .ok (.bipush 10, 2) := by decide +kernel
theorem dX10_infers_29 : decode cX10_infers 29 = .ok (.if_icmp .ge 35, 3) := by decide +kernel
theorem dX10_infers_32 : decode cX10_infers 32 = .ok (.iload 4, 2) := by decide +kernel
theorem dX10_infers_34 : decode cX10_infers 34 = .ok (.aload_n 0, 1) := by decide +kernel
theorem dX10_infers_35 : decode cX10_infers 35 = .ok (.getfield 93, 3) := by decide +kernel
theorem dX10_infers_38 : decode cX10_infers 38 = .ok (.bipush 10, 2) := by decide +kernel
theorem dX10_infers_40 : decode cX10_infers 40 = .ok (.iload 5, 2) := by decide +kernel
theorem dX10_infers_42 : decode cX10_infers 42 = .ok (.imul, 1) := by decide +kernel
theorem dX10_infers_43 : decode cX10_infers 43 = .ok (.iload_n 3, 1) := by decide +kernel
theorem dX10_infers_44 : decode cX10_infers 44 = .ok (.iadd, 1) := by decide +kernel
theorem dX10_infers_45 : decode cX10_infers 45 = .ok (.iaload, 1) := by decide +kernel
theorem dX10_infers_46 : decode cX10_infers 46 = .ok (.iconst 1, 1) := by decide +kernel
theorem dX10_infers_47 : decode cX10_infers 47 = .ok (.if_icmp .ne 7, 3) := by decide +kernel
theorem dX10_infers_50 : decode cX10_infers 50 = .ok (.iconst 1, 1) := by decide +kernel
theorem dX10_infers_51 : decode cX10_infers 51 = .ok (.goto 4, 3) := by decide +kernel
theorem dX10_infers_54 : decode cX10_infers 54 = .ok (.iconst 0, 1) := by decide +kernel
theorem dX10_infers_55 : decode cX10_infers 55 = .ok (.iadd, 1) := by decide +kernel
theorem dX10_infers_56 : decode cX10_infers 56 = .ok (.istore 4, 2) := by decide +kernel
theorem dX10_infers_58 : decode cX10_infers 58 = .ok (.iinc 5 1, 3) := by decide +kernel
theorem dX10_infers_61 : decode cX10_infers 61 = .ok (.goto (-36), 3) := by decide +kernel
theorem dX10_infers_64 : decode cX10_infers 64 = .ok (.aload_n 0, 1) := by decide +kernel
theorem dX10_infers_65 : decode cX10_infers 65 = .ok (.getfield 99, 3) := by decide +kernel
theorem dX10_infers_68 : decode cX10_infers 68 = .ok (.iload_n 3, 1) := by decide +kernel
theorem dX10_infers_69 : decode cX10_infers 69 = .ok (.iload_n 2, 1) := by decide +kernel
theorem dX10_infers_70 : decode cX10_infers 70 = .ok (.ifCond .ne 15, 3) := by decide +kernel
theorem dX10_infers_73 : decode cX10_infers 73 = .ok (.aload_n 0, 1) := by decide +kernel
theorem dX10_infers_74 : decode cX10_infers 74 = .ok (.getfield 90, 3) := by decide +kernel
theorem dX10_infers_77 : decode cX10_infers 77 = .ok (.iload_n 3, 1) := by decide +kernel
theorem dX10_infers_78 : decode cX10_infers 78 = .ok (.iaload, 1) := by decide +kernel
theorem dX10_infers_79 : decode cX10_infers 79 = .ok (.invokestatic 226, 3) := by decide +kernel
theorem dX10_infers_82 : decode cX10_infers 82 = .ok (.goto 5, 3) := by decide +kernel
theorem dX10_infers_85 : decode cX10_infers 85 = .ok (.iload 4, 2) := by decide +kernel
theorem dX10_infers_87 : decode cX10_infers 87 = .ok (.iastore, 1) := by decide +kernel
theorem dX10_infers_88 : decode cX10_infers 88 = .ok (.iinc 3 1, 3) := by decide +kernel
theorem dX10_infers_91 : decode cX10_infers 91 = .ok (.goto (-78), 3) := by decide +kernel
theorem dX10_infers_94 : decode cX10_infers 94 = .ok (.aload_n 0, 1) := by decide +kernel
theorem dX10_infers_95 : decode cX10_infers 95 = .ok (.invokevirtual 238, 3) := by decide +kernel
theorem dX10_infers_98 : decode cX10_infers 98 = .ok (.aload_n 0, 1) := by decide +kernel
theorem dX10_infers_99 : decode cX10_infers 99 = .ok (.invokevirtual 240, 3) := by decide +kernel
theorem dX10_infers_102 : decode cX10_infers 102 = .ok (.iinc 2 1, 3) := by decide +kernel
theorem dX10_infers_105 : decode cX10_infers 105 = .ok (.goto (-99), 3) := by decide +kernel
theorem dX10_infers_108 : decode cX10_infers 108 = .ok (.return_, 1) := by decide +kernel
theorem dX10_clique_0 : decode cX10_clique 0 = .ok (.aload_n 0, 1) := by decide +kernel
theorem dX10_clique_1 : decode cX10_clique 1 = .ok (.iconst 0, 1) := by decide +kernel
theorem dX10_clique_2 : decode cX10_clique 2 = .ok (.putfield 105, 3) := by decide +kernel
theorem dX10_clique_5 : decode cX10_clique 5 = .ok (.aload_n 0, 1) := by decide +kernel
theorem dX10_clique_6 : decode cX10_clique 6 = .ok (.invokevirtual 235, 3) := by decide +kernel
theorem dX10_clique_9 : decode cX10_clique 9 = .ok (.aload_n 0, 1) := by decide +kernel
theorem dX10_clique_10 : decode cX10_clique 10 = .ok (.getfield 223, 3) := by decide +kernel
theorem dX10_clique_13 : decode cX10_clique 13 = .ok (.ireturn, 1) := by decide +kernel
theorem dX10_inferred_0 : decode cX10_inferred 0 = .ok (.aload_n 0, 1) := by decide +kernel
theorem dX10_inferred_1 : decode cX10_inferred 1 = .ok (.iload_n 1, 1) := by decide +kernel
theorem dX10_inferred_2 : decode cX10_inferred 2 = .ok (.invokestatic 125, 3) := by decide +kernel
theorem dX10_inferred_5 : decode cX10_inferred 5 = .ok (.ifCond .eq 23, 3) := by decide +kernel
theorem dX10_inferred_8 : decode cX10_inferred 8 = .ok (.iload_n 2, 1) := by decide +kernel
theorem dX10_inferred_9 : decode cX10_inferred 9 = .ok (.invokestatic 125, 3) := by decide +kernel
theorem dX10_inferred_12 : decode cX10_inferred 12 = .ok (.ifCond .eq 16, 3) := by decide +kernel
theorem dX10_inferred_15 : decode cX10_inferred 15 = .ok (.iload_n 3, 1) := by decide +kernel
theorem dX10_inferred_16 : decode cX10_inferred 16 = .ok (.iconst 0, 1) := by decide +kernel
theorem dX10_inferred_17 : decode cX10_inferred 17 = .ok (.iconst 2, 1) := by decide +kernel
theorem dX10_inferred_18 : decode cX10_inferred 18 = .ok (.invokestatic 108, 3) := by decide +kernel
theorem dX10_inferred_21 : decode cX10_inferred 21 = .ok (.ifCond .eq 7, 3) := by decide +kernel
theorem dX10_inferred_24 : decode cX10_inferred 24 = .ok (.iconst 0, 1) := by decide +kernel
theorem dX10_inferred_25 : decode cX10_inferred 25 = .ok (.goto 4, 3) := by decide +kernel
theorem dX10_inferred_28 : decode cX10_inferred 28 = .ok (.iconst 1, 1) := by decide +kernel
theorem dX10_inferred_29 : decode cX10_inferred 29 = .ok (.invokevirtual 119, 3) := by decide +kernel
theorem dX10_inferred_32 : decode cX10_inferred 32 = .ok (.ifCond .ne 5, 3) := by decide +kernel
theorem dX10_inferred_35 : decode cX10_inferred 35 = .ok (.iconst 0, 1) := by decide +kernel
theorem dX10_inferred_36 : decode cX10_inferred 36 = .ok (.ireturn, 1) := by decide +kernel
theorem dX10_inferred_37 : decode cX10_inferred 37 = .ok (.aload_n 0, 1) := by decide +kernel
theorem dX10_inferred_38 : decode cX10_inferred 38 = .ok (.iload_n 3, 1) := by decide +kernel
theorem dX10_inferred_39 : decode cX10_inferred 39 = .ok (.invokevirtual 243, 3) := by decide +kernel
theorem dX10_inferred_42 : decode cX10_inferred 42 = .ok (.aload_n 0, 1) := by decide +kernel
theorem dX10_inferred_43 : decode cX10_inferred 43 = .ok (.getfield 93, 3) := by decide +kernel
theorem dX10_inferred_46 : decode cX10_inferred 46 = .ok (.bipush 10, 2) := by decide +kernel
theorem dX10_inferred_48 : decode cX10_inferred 48 = .ok (.iload_n 1, 1) := by decide +kernel
theorem dX10_inferred_49 : decode cX10_inferred 49 = .ok (.imul, 1) := by decide +kernel
theorem dX10_inferred_50 : decode cX10_inferred 50 = .ok (.iload_n 2, 1) := by decide +kernel
theorem dX10_inferred_51 : decode cX10_inferred 51 = .ok (.iadd, 1) := by decide +kernel
theorem dX10_inferred_52 : decode cX10_inferred 52 = .ok (.iaload, 1) := by decide +kernel
theorem dX10_inferred_53 : decode cX10_inferred 53 = .ok (.ireturn, 1) := by decide +kernel
theorem dX10_conesOf_0 : decode cX10_conesOf 0 = .ok (.iconst 1, 1) := by decide +kernel
theorem dX10_conesOf_1 : decode cX10_conesOf 1 = .ok (.iload_n 1, 1) := by decide +kernel
theorem dX10_conesOf_2 : decode cX10_conesOf 2 = .ok (.ishl, 1) := by decide +kernel
theorem dX10_conesOf_3 : decode cX10_conesOf 3 = .ok (.istore_n 2, 1) := by decide +kernel
theorem dX10_conesOf_4 : decode cX10_conesOf 4 = .ok (.iconst 0, 1) := by decide +kernel
theorem dX10_conesOf_5 : decode cX10_conesOf 5 = .ok (.istore_n 3, 1) := by decide +kernel
theorem dX10_conesOf_6 : decode cX10_conesOf 6 = .ok (.iload_n 2, 1) := by decide +kernel
theorem dX10_conesOf_7 : decode cX10_conesOf 7 = .ok (.iload_n 3, 1) := by decide +kernel
theorem dX10_conesOf_8 : decode cX10_conesOf 8 = .ok (.if_icmp .eq 78, 3) := by decide +kernel
theorem dX10_conesOf_11 : decode cX10_conesOf 11 = .ok (.iload_n 2, 1) := by decide +kernel
theorem dX10_conesOf_12 : decode cX10_conesOf 12 = .ok (.istore_n 3, 1) := by decide +kernel
theorem dX10_conesOf_13 : decode cX10_conesOf 13 = .ok (.iconst 0, 1) := by decide +kernel
theorem dX10_conesOf_14 : decode cX10_conesOf 14 = .ok (.istore 4, 2) := by decide +kernel
theorem dX10_conesOf_16 : decode cX10_conesOf 16 = .ok (.iload 4, 2) := by decide +kernel
theorem dX10_conesOf_18 : decode cX10_conesOf 18 = .ok (.bipush 10, 2) := by decide +kernel
theorem dX10_conesOf_20 : decode cX10_conesOf 20 = .ok (.if_icmp .ge 63, 3) := by decide +kernel
theorem dX10_conesOf_23 : decode cX10_conesOf 23 = .ok (.iconst 0, 1) := by decide +kernel
theorem dX10_conesOf_24 : decode cX10_conesOf 24 = .ok (.istore 5, 2) := by decide +kernel
theorem dX10_conesOf_26 : decode cX10_conesOf 26 = .ok (.iload 5, 2) := by decide +kernel
theorem dX10_conesOf_28 : decode cX10_conesOf 28 = .ok (.bipush 10, 2) := by decide +kernel
theorem dX10_conesOf_30 : decode cX10_conesOf 30 = .ok (.if_icmp .ge 47, 3) := by decide +kernel
theorem dX10_conesOf_33 : decode cX10_conesOf 33 = .ok (.iload_n 2, 1) := by decide +kernel
theorem dX10_conesOf_34 : decode cX10_conesOf 34 = .ok (.iload_n 2, 1) := by decide +kernel
theorem dX10_conesOf_35 : decode cX10_conesOf 35 = .ok (.iload 5, 2) := by decide +kernel
theorem dX10_conesOf_37 : decode cX10_conesOf 37 = .ok (.ishr, 1) := by decide +kernel
theorem dX10_conesOf_38 : decode cX10_conesOf 38 = .ok (.iconst 1, 1) := by decide +kernel
theorem dX10_conesOf_39 : decode cX10_conesOf 39 = .ok (.iand, 1) := by decide +kernel
theorem dX10_conesOf_40 : decode cX10_conesOf 40 = .ok (.iconst 1, 1) := by decide +kernel
theorem dX10_conesOf_41 : decode cX10_conesOf 41 = .ok (.if_icmp .ne 27, 3) := by decide +kernel
theorem dX10_conesOf_44 : decode cX10_conesOf 44 = .ok (.aload_n 0, 1) := by decide +kernel
theorem dX10_conesOf_45 : decode cX10_conesOf 45 = .ok (.getfield 93, 3) := by decide +kernel
theorem dX10_conesOf_48 : decode cX10_conesOf 48 = .ok (.bipush 10, 2) := by decide +kernel
theorem dX10_conesOf_50 : decode cX10_conesOf 50 = .ok (.iload 4, 2) := by decide +kernel
theorem dX10_conesOf_52 : decode cX10_conesOf 52 = .ok (.imul, 1) := by decide +kernel
theorem dX10_conesOf_53 : decode cX10_conesOf 53 = .ok (.iload 5, 2) := by decide +kernel
theorem dX10_conesOf_55 : decode cX10_conesOf 55 = .ok (.iadd, 1) := by decide +kernel
theorem dX10_conesOf_56 : decode cX10_conesOf 56 = .ok (.iaload, 1) := by decide +kernel
theorem dX10_conesOf_57 : decode cX10_conesOf 57 = .ok (.iconst 1, 1) := by decide +kernel
theorem dX10_conesOf_58 : decode cX10_conesOf 58 = .ok (.if_icmp .ne 10, 3) := by decide +kernel
theorem dX10_conesOf_61 : decode cX10_conesOf 61 = .ok (.iconst 1, 1) := by decide +kernel
theorem dX10_conesOf_62 : decode cX10_conesOf 62 = .ok (.iload 4, 2) := by decide +kernel
theorem dX10_conesOf_64 : decode cX10_conesOf 64 = .ok (.ishl, 1) := by decide +kernel
theorem dX10_conesOf_65 : decode cX10_conesOf 65 = .ok (.goto 4, 3) := by decide +kernel
theorem dX10_conesOf_68 : decode cX10_conesOf 68 = .ok (.iconst 0, 1) := by decide +kernel
theorem dX10_conesOf_69 : decode cX10_conesOf 69 = .ok (.ior, 1) := by decide +kernel
theorem dX10_conesOf_70 : decode cX10_conesOf 70 = .ok (.istore_n 2, 1) := by decide +kernel
theorem dX10_conesOf_71 : decode cX10_conesOf 71 = .ok (.iinc 5 1, 3) := by decide +kernel
theorem dX10_conesOf_74 : decode cX10_conesOf 74 = .ok (.goto (-48), 3) := by decide +kernel
theorem dX10_conesOf_77 : decode cX10_conesOf 77 = .ok (.iinc 4 1, 3) := by decide +kernel
theorem dX10_conesOf_80 : decode cX10_conesOf 80 = .ok (.goto (-64), 3) := by decide +kernel
theorem dX10_conesOf_83 : decode cX10_conesOf 83 = .ok (.goto (-77), 3) := by decide +kernel
theorem dX10_conesOf_86 : decode cX10_conesOf 86 = .ok (.iload_n 2, 1) := by decide +kernel
theorem dX10_conesOf_87 : decode cX10_conesOf 87 = .ok (.ireturn, 1) := by decide +kernel
theorem dX10_cone_0 : decode cX10_cone 0 = .ok (.aload_n 0, 1) := by decide +kernel
theorem dX10_cone_1 : decode cX10_cone 1 = .ok (.iload_n 1, 1) := by decide +kernel
theorem dX10_cone_2 : decode cX10_cone 2 = .ok (.invokestatic 125, 3) := by decide +kernel
theorem dX10_cone_5 : decode cX10_cone 5 = .ok (.ifCond .eq 7, 3) := by decide +kernel
theorem dX10_cone_8 : decode cX10_cone 8 = .ok (.iconst 0, 1) := by decide +kernel
theorem dX10_cone_9 : decode cX10_cone 9 = .ok (.goto 4, 3) := by decide +kernel
theorem dX10_cone_12 : decode cX10_cone 12 = .ok (.iconst 1, 1) := by decide +kernel
theorem dX10_cone_13 : decode cX10_cone 13 = .ok (.invokevirtual 119, 3) := by decide +kernel
theorem dX10_cone_16 : decode cX10_cone 16 = .ok (.ifCond .ne 5, 3) := by decide +kernel
theorem dX10_cone_19 : decode cX10_cone 19 = .ok (.iconst 0, 1) := by decide +kernel
theorem dX10_cone_20 : decode cX10_cone 20 = .ok (.ireturn, 1) := by decide +kernel
theorem dX10_cone_21 : decode cX10_cone 21 = .ok (.aload_n 0, 1) := by decide +kernel
theorem dX10_cone_22 : decode cX10_cone 22 = .ok (.iconst 2, 1) := by decide +kernel
theorem dX10_cone_23 : decode cX10_cone 23 = .ok (.invokevirtual 243, 3) := by decide +kernel
theorem dX10_cone_26 : decode cX10_cone 26 = .ok (.aload_n 0, 1) := by decide +kernel
theorem dX10_cone_27 : decode cX10_cone 27 = .ok (.iload_n 1, 1) := by decide +kernel
theorem dX10_cone_28 : decode cX10_cone 28 = .ok (.invokevirtual 247, 3) := by decide +kernel
theorem dX10_cone_31 : decode cX10_cone 31 = .ok (.ireturn, 1) := by decide +kernel
theorem dX10_coneByPaths_0 : decode cX10_coneByPaths 0 = .ok (.aload_n 0, 1) := by decide +kernel
theorem dX10_coneByPaths_1 : decode cX10_coneByPaths 1 = .ok (.iload_n 1, 1) := by decide +kernel
theorem dX10_coneByPaths_2 : decode cX10_coneByPaths 2 = .ok (.invokestatic 125, 3) := by decide +kernel
theorem dX10_coneByPaths_5 : decode cX10_coneByPaths 5 = .ok (.ifCond .eq 7, 3) := by decide +kernel
theorem dX10_coneByPaths_8 : decode cX10_coneByPaths 8 = .ok (.iconst 0, 1) := by decide +kernel
theorem dX10_coneByPaths_9 : decode cX10_coneByPaths 9 = .ok (.goto 4, 3) := by decide +kernel
theorem dX10_coneByPaths_12 : decode cX10_coneByPaths 12 = .ok (.iconst 1, 1) := by decide +kernel
theorem dX10_coneByPaths_13 : decode cX10_coneByPaths 13 = .ok (.invokevirtual 119, 3) := by decide +kernel
theorem dX10_coneByPaths_16 : decode cX10_coneByPaths 16 = .ok (.ifCond .ne 5, 3) := by decide +kernel
theorem dX10_coneByPaths_19 : decode cX10_coneByPaths 19 = .ok (.iconst 0, 1) := by decide +kernel
theorem dX10_coneByPaths_20 : decode cX10_coneByPaths 20 = .ok (.ireturn, 1) := by decide +kernel
theorem dX10_coneByPaths_21 : decode cX10_coneByPaths 21 = .ok (.aload_n 0, 1) := by decide +kernel
theorem dX10_coneByPaths_22 : decode cX10_coneByPaths 22 = .ok (.iconst 2, 1) := by decide +kernel
theorem dX10_coneByPaths_23 : decode cX10_coneByPaths 23 = .ok (.invokevirtual 243, 3) := by decide +kernel
theorem dX10_coneByPaths_26 : decode cX10_coneByPaths 26 = .ok (.iconst 1, 1) := by decide +kernel
theorem dX10_coneByPaths_27 : decode cX10_coneByPaths 27 = .ok (.iload_n 1, 1) := by decide +kernel
theorem dX10_coneByPaths_28 : decode cX10_coneByPaths 28 = .ok (.ishl, 1) := by decide +kernel
theorem dX10_coneByPaths_29 : decode cX10_coneByPaths 29 = .ok (.istore_n 2, 1) := by decide +kernel
theorem dX10_coneByPaths_30 : decode cX10_coneByPaths 30 = .ok (.iconst 0, 1) := by decide +kernel
theorem dX10_coneByPaths_31 : decode cX10_coneByPaths 31 = .ok (.istore_n 3, 1) := by decide +kernel
theorem dX10_coneByPaths_32 : decode cX10_coneByPaths 32 = .ok (.iload_n 3, 1) := by decide +kernel
theorem dX10_coneByPaths_33 : decode cX10_coneByPaths 33 = .ok (.aload_n 0, 1) := by decide +kernel
theorem dX10_coneByPaths_34 : decode cX10_coneByPaths 34 = .ok (.getfield 154, 3) := by decide +kernel
theorem dX10_coneByPaths_37 : decode cX10_coneByPaths 37 = .ok (.if_icmp .ge 118, 3) := by decide +kernel
theorem dX10_coneByPaths_40 : decode cX10_coneByPaths 40 = .ok (.iconst 0, 1) := by decide +kernel
theorem dX10_coneByPaths_41 : decode cX10_coneByPaths 41 = .ok (.istore 4, 2) := by decide +kernel
theorem dX10_coneByPaths_43 : decode cX10_coneByPaths 43 = .ok (.aload_n 0, 1) := by decide +kernel
theorem dX10_coneByPaths_44 : decode cX10_coneByPaths 44 = .ok (.getfield 63, 3) := by decide +kernel
theorem dX10_coneByPaths_47 : decode cX10_coneByPaths 47 = .ok (.iload_n 3, 1) := by decide +kernel
theorem dX10_coneByPaths_48 : decode cX10_coneByPaths 48 = .ok (.iaload, 1) := by decide +kernel
theorem dX10_coneByPaths_49 : decode cX10_coneByPaths 49 = .ok (.iconst 1, 1) := by decide +kernel
theorem dX10_coneByPaths_50 : decode cX10_coneByPaths 50 = .ok (.isub, 1) := by decide +kernel
theorem dX10_coneByPaths_51 : decode cX10_coneByPaths 51 = .ok (.istore 5, 2) := by decide +kernel
theorem dX10_coneByPaths_53 : decode cX10_coneByPaths 53 = .ok (.iload 5, 2) := by decide +kernel
theorem dX10_coneByPaths_55 : decode cX10_coneByPaths 55 = .ok (.ifCond .lt 94, 3) := by decide +kernel
theorem dX10_coneByPaths_58 : decode cX10_coneByPaths 58 = .ok (.aload_n 0, 1) := by decide +kernel
theorem dX10_coneByPaths_59 : decode cX10_coneByPaths 59 = .ok (.iload_n 3, 1) := by decide +kernel
theorem dX10_coneByPaths_60 : decode cX10_coneByPaths 60 = .ok (.invokevirtual 220, 3) := by decide +kernel
theorem dX10_coneByPaths_63 : decode cX10_coneByPaths 63 = .ok (.ifCond .eq 86, 3) := by decide +kernel
theorem dX10_coneByPaths_66 : decode cX10_coneByPaths 66 = .ok (.aload_n 0, 1) := by decide +kernel
theorem dX10_coneByPaths_67 : decode cX10_coneByPaths 67 = .ok (.getfield 60, 3) := by decide +kernel
theorem dX10_coneByPaths_70 : decode cX10_coneByPaths 70 = .ok (.bipush 6, 2) := by decide +kernel
theorem dX10_coneByPaths_72 : decode cX10_coneByPaths 72 = .ok (.iload_n 3, 1) := by decide +kernel
theorem dX10_coneByPaths_73 : decode cX10_coneByPaths 73 = .ok (.imul, 1) := by decide +kernel
theorem dX10_coneByPaths_74 : decode cX10_coneByPaths 74 = .ok (.iload 5, 2) := by decide +kernel
theorem dX10_coneByPaths_76 : decode cX10_coneByPaths 76 = .ok (.iadd, 1) := by decide +kernel
theorem dX10_coneByPaths_77 : decode cX10_coneByPaths 77 = .ok (.iaload, 1) := by decide +kernel
theorem dX10_coneByPaths_78 : decode cX10_coneByPaths 78 = .ok (.istore 6, 2) := by decide +kernel
theorem dX10_coneByPaths_80 : decode cX10_coneByPaths 80 = .ok (.iload 6, 2) := by decide +kernel
theorem dX10_coneByPaths_82 : decode cX10_coneByPaths 82 = .ok (.iload_n 1, 1) := by decide +kernel
theorem dX10_coneByPaths_83 : decode cX10_coneByPaths 83 = .ok (.if_icmp .eq 37, 3) := by decide +kernel
theorem dX10_coneByPaths_86 : decode cX10_coneByPaths 86 = .ok (.iload 4, 2) := by decide +kernel
theorem dX10_coneByPaths_88 : decode cX10_coneByPaths 88 = .ok (.ifCond .eq 36, 3) := by decide +kernel
theorem dX10_coneByPaths_91 : decode cX10_coneByPaths 91 = .ok (.aload_n 0, 1) := by decide +kernel
theorem dX10_coneByPaths_92 : decode cX10_coneByPaths 92 = .ok (.getfield 93, 3) := by decide +kernel
theorem dX10_coneByPaths_95 : decode cX10_coneByPaths 95 = .ok (.bipush 10, 2) := by decide +kernel
theorem dX10_coneByPaths_97 : decode cX10_coneByPaths 97 = .ok (.iload 6, 2) := by decide +kernel
theorem dX10_coneByPaths_99 : decode cX10_coneByPaths 99 = .ok (.imul, 1) := by decide +kernel
theorem dX10_coneByPaths_100 : decode cX10_coneByPaths 100 = .ok (.aload_n 0, 1) := by decide +kernel
theorem dX10_coneByPaths_101 : decode cX10_coneByPaths 101 = .ok (.getfield 60, 3) := by decide +kernel
theorem dX10_coneByPaths_104 : decode cX10_coneByPaths 104 = .ok (.bipush 6, 2) := by decide +kernel
theorem dX10_coneByPaths_106 : decode cX10_coneByPaths 106 = .ok (.iload_n 3, 1) := by decide +kernel
theorem dX10_coneByPaths_107 : decode cX10_coneByPaths 107 = .ok (.imul, 1) := by decide +kernel
theorem dX10_coneByPaths_108 : decode cX10_coneByPaths 108 = .ok (.iload 5, 2) := by decide +kernel
theorem dX10_coneByPaths_110 : decode cX10_coneByPaths 110 = .ok (.iadd, 1) := by decide +kernel
theorem dX10_coneByPaths_111 : decode cX10_coneByPaths 111 = .ok (.iconst 1, 1) := by decide +kernel
theorem dX10_coneByPaths_112 : decode cX10_coneByPaths 112 = .ok (.iadd, 1) := by decide +kernel
theorem dX10_coneByPaths_113 : decode cX10_coneByPaths 113 = .ok (.iaload, 1) := by decide +kernel
theorem dX10_coneByPaths_114 : decode cX10_coneByPaths 114 = .ok (.iadd, 1) := by decide +kernel
theorem dX10_coneByPaths_115 : decode cX10_coneByPaths 115 = .ok (.iaload, 1) := by decide +kernel
theorem dX10_coneByPaths_116 : decode cX10_coneByPaths 116 = .ok (.iconst 1, 1) := by decide +kernel
theorem dX10_coneByPaths_117 : decode cX10_coneByPaths 117 = .ok (.if_icmp .ne 7, 3) := by decide +kernel
theorem dX10_coneByPaths_120 : decode cX10_coneByPaths 120 = .ok (.iconst 1, 1) := by decide +kernel
theorem dX10_coneByPaths_121 : decode cX10_coneByPaths 121 = .ok (.goto 4, 3) := by decide +kernel
theorem dX10_coneByPaths_124 : decode cX10_coneByPaths 124 = .ok (.iconst 0, 1) := by decide +kernel
theorem dX10_coneByPaths_125 : decode cX10_coneByPaths 125 = .ok (.istore 4, 2) := by decide +kernel
theorem dX10_coneByPaths_127 : decode cX10_coneByPaths 127 = .ok (.iload_n 2, 1) := by decide +kernel
theorem dX10_coneByPaths_128 : decode cX10_coneByPaths 128 = .ok (.iload 4, 2) := by decide +kernel
theorem dX10_coneByPaths_130 : decode cX10_coneByPaths 130 = .ok (.ifCond .eq 10, 3) := by decide +kernel
theorem dX10_coneByPaths_133 : decode cX10_coneByPaths 133 = .ok (.iconst 1, 1) := by decide +kernel
theorem dX10_coneByPaths_134 : decode cX10_coneByPaths 134 = .ok (.iload 6, 2) := by decide +kernel
theorem dX10_coneByPaths_136 : decode cX10_coneByPaths 136 = .ok (.ishl, 1) := by decide +kernel
theorem dX10_coneByPaths_137 : decode cX10_coneByPaths 137 = .ok (.goto 4, 3) := by decide +kernel
theorem dX10_coneByPaths_140 : decode cX10_coneByPaths 140 = .ok (.iconst 0, 1) := by decide +kernel
theorem dX10_coneByPaths_141 : decode cX10_coneByPaths 141 = .ok (.ior, 1) := by decide +kernel
theorem dX10_coneByPaths_142 : decode cX10_coneByPaths 142 = .ok (.istore_n 2, 1) := by decide +kernel
theorem dX10_coneByPaths_143 : decode cX10_coneByPaths 143 = .ok (.iinc 5 (-1), 3) := by decide +kernel
theorem dX10_coneByPaths_146 : decode cX10_coneByPaths 146 = .ok (.goto (-93), 3) := by decide +kernel
theorem dX10_coneByPaths_149 : decode cX10_coneByPaths 149 = .ok (.iinc 3 1, 3) := by decide +kernel
theorem dX10_coneByPaths_152 : decode cX10_coneByPaths 152 = .ok (.goto (-120), 3) := by decide +kernel
theorem dX10_coneByPaths_155 : decode cX10_coneByPaths 155 = .ok (.iload_n 2, 1) := by decide +kernel
theorem dX10_coneByPaths_156 : decode cX10_coneByPaths 156 = .ok (.ireturn, 1) := by decide +kernel
theorem dX10_addresses_0 : decode cX10_addresses 0 = .ok (.aload_n 0, 1) := by decide +kernel
theorem dX10_addresses_1 : decode cX10_addresses 1 = .ok (.iload_n 1, 1) := by decide +kernel
theorem dX10_addresses_2 : decode cX10_addresses 2 = .ok (.invokestatic 125, 3) := by decide +kernel
theorem dX10_addresses_5 : decode cX10_addresses 5 = .ok (.ifCond .eq 7, 3) := by decide +kernel
theorem dX10_addresses_8 : decode cX10_addresses 8 = .ok (.iconst 0, 1) := by decide +kernel
theorem dX10_addresses_9 : decode cX10_addresses 9 = .ok (.goto 4, 3) := by decide +kernel
theorem dX10_addresses_12 : decode cX10_addresses 12 = .ok (.iconst 1, 1) := by decide +kernel
theorem dX10_addresses_13 : decode cX10_addresses 13 = .ok (.invokevirtual 119, 3) := by decide +kernel
theorem dX10_addresses_16 : decode cX10_addresses 16 = .ok (.ifCond .ne 5, 3) := by decide +kernel
theorem dX10_addresses_19 : decode cX10_addresses 19 = .ok (.iconst 0, 1) := by decide +kernel
theorem dX10_addresses_20 : decode cX10_addresses 20 = .ok (.ireturn, 1) := by decide +kernel
theorem dX10_addresses_21 : decode cX10_addresses 21 = .ok (.aload_n 0, 1) := by decide +kernel
theorem dX10_addresses_22 : decode cX10_addresses 22 = .ok (.iconst 2, 1) := by decide +kernel
theorem dX10_addresses_23 : decode cX10_addresses 23 = .ok (.invokevirtual 243, 3) := by decide +kernel
theorem dX10_addresses_26 : decode cX10_addresses 26 = .ok (.aload_n 0, 1) := by decide +kernel
theorem dX10_addresses_27 : decode cX10_addresses 27 = .ok (.iload_n 1, 1) := by decide +kernel
theorem dX10_addresses_28 : decode cX10_addresses 28 = .ok (.invokevirtual 247, 3) := by decide +kernel
theorem dX10_addresses_31 : decode cX10_addresses 31 = .ok (.istore_n 2, 1) := by decide +kernel
theorem dX10_addresses_32 : decode cX10_addresses 32 = .ok (.iconst 0, 1) := by decide +kernel
theorem dX10_addresses_33 : decode cX10_addresses 33 = .ok (.istore_n 3, 1) := by decide +kernel
theorem dX10_addresses_34 : decode cX10_addresses 34 = .ok (.iload_n 3, 1) := by decide +kernel
theorem dX10_addresses_35 : decode cX10_addresses 35 = .ok (.sipush 256, 3) := by decide +kernel
theorem dX10_addresses_38 : decode cX10_addresses 38 = .ok (.if_icmp .ge 16, 3) := by decide +kernel
theorem dX10_addresses_41 : decode cX10_addresses 41 = .ok (.aload_n 0, 1) := by decide +kernel
theorem dX10_addresses_42 : decode cX10_addresses 42 = .ok (.getfield 102, 3) := by decide +kernel
theorem dX10_addresses_45 : decode cX10_addresses 45 = .ok (.iload_n 3, 1) := by decide +kernel
theorem dX10_addresses_46 : decode cX10_addresses 46 = .ok (.iconst 0, 1) := by decide +kernel
theorem dX10_addresses_47 : decode cX10_addresses 47 = .ok (.bastore, 1) := by decide +kernel
theorem dX10_addresses_48 : decode cX10_addresses 48 = .ok (.iinc 3 1, 3) := by decide +kernel
theorem dX10_addresses_51 : decode cX10_addresses 51 = .ok (.goto (-17), 3) := by decide +kernel
theorem dX10_addresses_54 : decode cX10_addresses 54 = .ok (.iconst 0, 1) := by decide +kernel
theorem dX10_addresses_55 : decode cX10_addresses 55 = .ok (.istore_n 3, 1) := by decide +kernel
theorem dX10_addresses_56 : decode cX10_addresses 56 = .ok (.iload_n 3, 1) := by decide +kernel
theorem dX10_addresses_57 : decode cX10_addresses 57 = .ok (.aload_n 0, 1) := by decide +kernel
theorem dX10_addresses_58 : decode cX10_addresses 58 = .ok (.getfield 154, 3) := by decide +kernel
theorem dX10_addresses_61 : decode cX10_addresses 61 = .ok (.if_icmp .ge 92, 3) := by decide +kernel
theorem dX10_addresses_64 : decode cX10_addresses 64 = .ok (.aload_n 0, 1) := by decide +kernel
theorem dX10_addresses_65 : decode cX10_addresses 65 = .ok (.getfield 72, 3) := by decide +kernel
theorem dX10_addresses_68 : decode cX10_addresses 68 = .ok (.iload_n 3, 1) := by decide +kernel
theorem dX10_addresses_69 : decode cX10_addresses 69 = .ok (.baload, 1) := by decide +kernel
theorem dX10_addresses_70 : decode cX10_addresses 70 = .ok (.ifCond .eq 24, 3) := by decide +kernel
theorem dX10_addresses_73 : decode cX10_addresses 73 = .ok (.iload_n 2, 1) := by decide +kernel
theorem dX10_addresses_74 : decode cX10_addresses 74 = .ok (.aload_n 0, 1) := by decide +kernel
theorem dX10_addresses_75 : decode cX10_addresses 75 = .ok (.getfield 60, 3) := by decide +kernel
theorem dX10_addresses_78 : decode cX10_addresses 78 = .ok (.bipush 6, 2) := by decide +kernel
theorem dX10_addresses_80 : decode cX10_addresses 80 = .ok (.iload_n 3, 1) := by decide +kernel
theorem dX10_addresses_81 : decode cX10_addresses 81 = .ok (.imul, 1) := by decide +kernel
theorem dX10_addresses_82 : decode cX10_addresses 82 = .ok (.iaload, 1) := by decide +kernel
theorem dX10_addresses_83 : decode cX10_addresses 83 = .ok (.ishr, 1) := by decide +kernel
theorem dX10_addresses_84 : decode cX10_addresses 84 = .ok (.iconst 1, 1) := by decide +kernel
theorem dX10_addresses_85 : decode cX10_addresses 85 = .ok (.iand, 1) := by decide +kernel
theorem dX10_addresses_86 : decode cX10_addresses 86 = .ok (.iconst 1, 1) := by decide +kernel
theorem dX10_addresses_87 : decode cX10_addresses 87 = .ok (.if_icmp .ne 7, 3) := by decide +kernel
theorem dX10_addresses_90 : decode cX10_addresses 90 = .ok (.iconst 1, 1) := by decide +kernel
theorem dX10_addresses_91 : decode cX10_addresses 91 = .ok (.goto 4, 3) := by decide +kernel
theorem dX10_addresses_94 : decode cX10_addresses 94 = .ok (.iconst 0, 1) := by decide +kernel
theorem dX10_addresses_95 : decode cX10_addresses 95 = .ok (.istore 4, 2) := by decide +kernel
theorem dX10_addresses_97 : decode cX10_addresses 97 = .ok (.aload_n 0, 1) := by decide +kernel
theorem dX10_addresses_98 : decode cX10_addresses 98 = .ok (.getfield 66, 3) := by decide +kernel
theorem dX10_addresses_101 : decode cX10_addresses 101 = .ok (.iload_n 3, 1) := by decide +kernel
theorem dX10_addresses_102 : decode cX10_addresses 102 = .ok (.iaload, 1) := by decide +kernel
theorem dX10_addresses_103 : decode cX10_addresses 103 = .ok (.istore 5, 2) := by decide +kernel
theorem dX10_addresses_105 : decode cX10_addresses 105 = .ok (.iload 4, 2) := by decide +kernel
theorem dX10_addresses_107 : decode cX10_addresses 107 = .ok (.ifCond .eq 40, 3) := by decide +kernel
theorem dX10_addresses_110 : decode cX10_addresses 110 = .ok (.iload 5, 2) := by decide +kernel
theorem dX10_addresses_112 : decode cX10_addresses 112 = .ok (.aload_n 0, 1) := by decide +kernel
theorem dX10_addresses_113 : decode cX10_addresses 113 = .ok (.getfield 66, 3) := by decide +kernel
theorem dX10_addresses_116 : decode cX10_addresses 116 = .ok (.iload_n 3, 1) := by decide +kernel
theorem dX10_addresses_117 : decode cX10_addresses 117 = .ok (.iaload, 1) := by decide +kernel
theorem dX10_addresses_118 : decode cX10_addresses 118 = .ok (.iconst 1, 1) := by decide +kernel
theorem dX10_addresses_119 : decode cX10_addresses 119 = .ok (.bipush 8, 2) := by decide +kernel
theorem dX10_addresses_121 : decode cX10_addresses 121 = .ok (.aload_n 0, 1) := by decide +kernel
theorem dX10_addresses_122 : decode cX10_addresses 122 = .ok (.getfield 69, 3) := by decide +kernel
theorem dX10_addresses_125 : decode cX10_addresses 125 = .ok (.iload_n 3, 1) := by decide +kernel
theorem dX10_addresses_126 : decode cX10_addresses 126 = .ok (.iaload, 1) := by decide +kernel
theorem dX10_addresses_127 : decode cX10_addresses 127 = .ok (.isub, 1) := by decide +kernel
theorem dX10_addresses_128 : decode cX10_addresses 128 = .ok (.ishl, 1) := by decide +kernel
theorem dX10_addresses_129 : decode cX10_addresses 129 = .ok (.iadd, 1) := by decide +kernel
theorem dX10_addresses_130 : decode cX10_addresses 130 = .ok (.if_icmp .ge 17, 3) := by decide +kernel
theorem dX10_addresses_133 : decode cX10_addresses 133 = .ok (.aload_n 0, 1) := by decide +kernel
theorem dX10_addresses_134 : decode cX10_addresses 134 = .ok (.getfield 102, 3) := by decide +kernel
theorem dX10_addresses_137 : decode cX10_addresses 137 = .ok (.iload 5, 2) := by decide +kernel
theorem dX10_addresses_139 : decode cX10_addresses 139 = .ok (.iconst 1, 1) := by decide +kernel
theorem dX10_addresses_140 : decode cX10_addresses 140 = .ok (.bastore, 1) := by decide +kernel
theorem dX10_addresses_141 : decode cX10_addresses 141 = .ok (.iinc 5 1, 3) := by decide +kernel
theorem dX10_addresses_144 : decode cX10_addresses 144 = .ok (.goto (-39), 3) := by decide +kernel
theorem dX10_addresses_147 : decode cX10_addresses 147 = .ok (.iinc 3 1, 3) := by decide +kernel
theorem dX10_addresses_150 : decode cX10_addresses 150 = .ok (.goto (-94), 3) := by decide +kernel
theorem dX10_addresses_153 : decode cX10_addresses 153 = .ok (.iconst 0, 1) := by decide +kernel
theorem dX10_addresses_154 : decode cX10_addresses 154 = .ok (.istore_n 3, 1) := by decide +kernel
theorem dX10_addresses_155 : decode cX10_addresses 155 = .ok (.iconst 0, 1) := by decide +kernel
theorem dX10_addresses_156 : decode cX10_addresses 156 = .ok (.istore 4, 2) := by decide +kernel
theorem dX10_addresses_158 : decode cX10_addresses 158 = .ok (.iload 4, 2) := by decide +kernel
theorem dX10_addresses_160 : decode cX10_addresses 160 = .ok (.sipush 256, 3) := by decide +kernel
theorem dX10_addresses_163 : decode cX10_addresses 163 = .ok (.if_icmp .ge 27, 3) := by decide +kernel
theorem dX10_addresses_166 : decode cX10_addresses 166 = .ok (.iload_n 3, 1) := by decide +kernel
theorem dX10_addresses_167 : decode cX10_addresses 167 = .ok (.aload_n 0, 1) := by decide +kernel
theorem dX10_addresses_168 : decode cX10_addresses 168 = .ok (.getfield 102, 3) := by decide +kernel
theorem dX10_addresses_171 : decode cX10_addresses 171 = .ok (.iload 4, 2) := by decide +kernel
theorem dX10_addresses_173 : decode cX10_addresses 173 = .ok (.baload, 1) := by decide +kernel
theorem dX10_addresses_174 : decode cX10_addresses 174 = .ok (.ifCond .eq 7, 3) := by decide +kernel
theorem dX10_addresses_177 : decode cX10_addresses 177 = .ok (.iconst 1, 1) := by decide +kernel
theorem dX10_addresses_178 : decode cX10_addresses 178 = .ok (.goto 4, 3) := by decide +kernel
theorem dX10_addresses_181 : decode cX10_addresses 181 = .ok (.iconst 0, 1) := by decide +kernel
theorem dX10_addresses_182 : decode cX10_addresses 182 = .ok (.iadd, 1) := by decide +kernel
theorem dX10_addresses_183 : decode cX10_addresses 183 = .ok (.istore_n 3, 1) := by decide +kernel
theorem dX10_addresses_184 : decode cX10_addresses 184 = .ok (.iinc 4 1, 3) := by decide +kernel
theorem dX10_addresses_187 : decode cX10_addresses 187 = .ok (.goto (-29), 3) := by decide +kernel
theorem dX10_addresses_190 : decode cX10_addresses 190 = .ok (.iload_n 3, 1) := by decide +kernel
theorem dX10_addresses_191 : decode cX10_addresses 191 = .ok (.ireturn, 1) := by decide +kernel
theorem dJ6_bitCount_0f7a4_0 : decode cJ6_bitCount_0f7a4 0 = .ok (.iload_n 0, 1) := by decide +kernel
theorem dJ6_bitCount_0f7a4_1 : decode cJ6_bitCount_0f7a4 1 = .ok (.iload_n 0, 1) := by decide +kernel
theorem dJ6_bitCount_0f7a4_2 : decode cJ6_bitCount_0f7a4 2 = .ok (.iconst 1, 1) := by decide +kernel
theorem dJ6_bitCount_0f7a4_3 : decode cJ6_bitCount_0f7a4 3 = .ok (.iushr, 1) := by decide +kernel
theorem dJ6_bitCount_0f7a4_4 : decode cJ6_bitCount_0f7a4 4 = .ok (.ldc_w 265, 3) := by decide +kernel
theorem dJ6_bitCount_0f7a4_7 : decode cJ6_bitCount_0f7a4 7 = .ok (.iand, 1) := by decide +kernel
theorem dJ6_bitCount_0f7a4_8 : decode cJ6_bitCount_0f7a4 8 = .ok (.isub, 1) := by decide +kernel
theorem dJ6_bitCount_0f7a4_9 : decode cJ6_bitCount_0f7a4 9 = .ok (.istore_n 0, 1) := by decide +kernel
theorem dJ6_bitCount_0f7a4_10 : decode cJ6_bitCount_0f7a4 10 = .ok (.iload_n 0, 1) := by decide +kernel
theorem dJ6_bitCount_0f7a4_11 : decode cJ6_bitCount_0f7a4 11 = .ok (.ldc_w 266, 3) := by decide +kernel
theorem dJ6_bitCount_0f7a4_14 : decode cJ6_bitCount_0f7a4 14 = .ok (.iand, 1) := by decide +kernel
theorem dJ6_bitCount_0f7a4_15 : decode cJ6_bitCount_0f7a4 15 = .ok (.iload_n 0, 1) := by decide +kernel
theorem dJ6_bitCount_0f7a4_16 : decode cJ6_bitCount_0f7a4 16 = .ok (.iconst 2, 1) := by decide +kernel
theorem dJ6_bitCount_0f7a4_17 : decode cJ6_bitCount_0f7a4 17 = .ok (.iushr, 1) := by decide +kernel
theorem dJ6_bitCount_0f7a4_18 : decode cJ6_bitCount_0f7a4 18 = .ok (.ldc_w 266, 3) := by decide +kernel
theorem dJ6_bitCount_0f7a4_21 : decode cJ6_bitCount_0f7a4 21 = .ok (.iand, 1) := by decide +kernel
theorem dJ6_bitCount_0f7a4_22 : decode cJ6_bitCount_0f7a4 22 = .ok (.iadd, 1) := by decide +kernel
theorem dJ6_bitCount_0f7a4_23 : decode cJ6_bitCount_0f7a4 23 = .ok (.istore_n 0, 1) := by decide +kernel
theorem dJ6_bitCount_0f7a4_24 : decode cJ6_bitCount_0f7a4 24 = .ok (.iload_n 0, 1) := by decide +kernel
theorem dJ6_bitCount_0f7a4_25 : decode cJ6_bitCount_0f7a4 25 = .ok (.iload_n 0, 1) := by decide +kernel
theorem dJ6_bitCount_0f7a4_26 : decode cJ6_bitCount_0f7a4 26 = .ok (.iconst 4, 1) := by decide +kernel
theorem dJ6_bitCount_0f7a4_27 : decode cJ6_bitCount_0f7a4 27 = .ok (.iushr, 1) := by decide +kernel
theorem dJ6_bitCount_0f7a4_28 : decode cJ6_bitCount_0f7a4 28 = .ok (.iadd, 1) := by decide +kernel
theorem dJ6_bitCount_0f7a4_29 : decode cJ6_bitCount_0f7a4 29 = .ok (.ldc_w 267, 3) := by decide +kernel
theorem dJ6_bitCount_0f7a4_32 : decode cJ6_bitCount_0f7a4 32 = .ok (.iand, 1) := by decide +kernel
theorem dJ6_bitCount_0f7a4_33 : decode cJ6_bitCount_0f7a4 33 = .ok (.istore_n 0, 1) := by decide +kernel
theorem dJ6_bitCount_0f7a4_34 : decode cJ6_bitCount_0f7a4 34 = .ok (.iload_n 0, 1) := by decide +kernel
theorem dJ6_bitCount_0f7a4_35 : decode cJ6_bitCount_0f7a4 35 = .ok (.iload_n 0, 1) := by decide +kernel
theorem dJ6_bitCount_0f7a4_36 : decode cJ6_bitCount_0f7a4 36 = .ok (.bipush 8, 2) := by decide +kernel
theorem dJ6_bitCount_0f7a4_38 : decode cJ6_bitCount_0f7a4 38 = .ok (.iushr, 1) := by decide +kernel
theorem dJ6_bitCount_0f7a4_39 : decode cJ6_bitCount_0f7a4 39 = .ok (.iadd, 1) := by decide +kernel
theorem dJ6_bitCount_0f7a4_40 : decode cJ6_bitCount_0f7a4 40 = .ok (.istore_n 0, 1) := by decide +kernel
theorem dJ6_bitCount_0f7a4_41 : decode cJ6_bitCount_0f7a4 41 = .ok (.iload_n 0, 1) := by decide +kernel
theorem dJ6_bitCount_0f7a4_42 : decode cJ6_bitCount_0f7a4 42 = .ok (.iload_n 0, 1) := by decide +kernel
theorem dJ6_bitCount_0f7a4_43 : decode cJ6_bitCount_0f7a4 43 = .ok (.bipush 16, 2) := by decide +kernel
theorem dJ6_bitCount_0f7a4_45 : decode cJ6_bitCount_0f7a4 45 = .ok (.iushr, 1) := by decide +kernel
theorem dJ6_bitCount_0f7a4_46 : decode cJ6_bitCount_0f7a4 46 = .ok (.iadd, 1) := by decide +kernel
theorem dJ6_bitCount_0f7a4_47 : decode cJ6_bitCount_0f7a4 47 = .ok (.istore_n 0, 1) := by decide +kernel
theorem dJ6_bitCount_0f7a4_48 : decode cJ6_bitCount_0f7a4 48 = .ok (.iload_n 0, 1) := by decide +kernel
theorem dJ6_bitCount_0f7a4_49 : decode cJ6_bitCount_0f7a4 49 = .ok (.bipush 63, 2) := by decide +kernel
theorem dJ6_bitCount_0f7a4_51 : decode cJ6_bitCount_0f7a4 51 = .ok (.iand, 1) := by decide +kernel
theorem dJ6_bitCount_0f7a4_52 : decode cJ6_bitCount_0f7a4 52 = .ok (.ireturn, 1) := by decide +kernel
theorem dL_holder_0 : decode cL_holder 0 = .ok (.aload_n 2, 1) := by decide +kernel
theorem dL_holder_1 : decode cL_holder 1 = .ok (.iconst 0, 1) := by decide +kernel
theorem dL_holder_2 : decode cL_holder 2 = .ok (.aload_n 0, 1) := by decide +kernel
theorem dL_holder_3 : decode cL_holder 3 = .ok (.iload_n 1, 1) := by decide +kernel
theorem dL_holder_4 : decode cL_holder 4 = .ok (.invokevirtual 7, 3) := by decide +kernel
theorem dL_holder_7 : decode cL_holder 7 = .ok (.i2l, 1) := by decide +kernel
theorem dL_holder_8 : decode cL_holder 8 = .ok (.lastore, 1) := by decide +kernel
theorem dL_holder_9 : decode cL_holder 9 = .ok (.goto 9, 3) := by decide +kernel
theorem dL_holder_12 : decode cL_holder 12 = .ok (.astore_n 3, 1) := by decide +kernel
theorem dL_holder_13 : decode cL_holder 13 = .ok (.iconst 1, 1) := by decide +kernel
theorem dL_holder_14 : decode cL_holder 14 = .ok (.ireturn, 1) := by decide +kernel
theorem dL_holder_15 : decode cL_holder 15 = .ok (.astore_n 3, 1) := by decide +kernel
theorem dL_holder_16 : decode cL_holder 16 = .ok (.iconst 2, 1) := by decide +kernel
theorem dL_holder_17 : decode cL_holder 17 = .ok (.ireturn, 1) := by decide +kernel
theorem dL_holder_18 : decode cL_holder 18 = .ok (.iconst 0, 1) := by decide +kernel
theorem dL_holder_19 : decode cL_holder 19 = .ok (.ireturn, 1) := by decide +kernel
theorem dL_belong_0 : decode cL_belong 0 = .ok (.aload_n 3, 1) := by decide +kernel
theorem dL_belong_1 : decode cL_belong 1 = .ok (.iconst 0, 1) := by decide +kernel
theorem dL_belong_2 : decode cL_belong 2 = .ok (.aload_n 0, 1) := by decide +kernel
theorem dL_belong_3 : decode cL_belong 3 = .ok (.iload_n 1, 1) := by decide +kernel
theorem dL_belong_4 : decode cL_belong 4 = .ok (.iload_n 2, 1) := by decide +kernel
theorem dL_belong_5 : decode cL_belong 5 = .ok (.invokevirtual 17, 3) := by decide +kernel
theorem dL_belong_8 : decode cL_belong 8 = .ok (.i2l, 1) := by decide +kernel
theorem dL_belong_9 : decode cL_belong 9 = .ok (.lastore, 1) := by decide +kernel
theorem dL_belong_10 : decode cL_belong 10 = .ok (.goto 7, 3) := by decide +kernel
theorem dL_belong_13 : decode cL_belong 13 = .ok (.astore 4, 2) := by decide +kernel
theorem dL_belong_15 : decode cL_belong 15 = .ok (.iconst 1, 1) := by decide +kernel
theorem dL_belong_16 : decode cL_belong 16 = .ok (.ireturn, 1) := by decide +kernel
theorem dL_belong_17 : decode cL_belong 17 = .ok (.iconst 0, 1) := by decide +kernel
theorem dL_belong_18 : decode cL_belong 18 = .ok (.ireturn, 1) := by decide +kernel
theorem dL_roll_0 : decode cL_roll 0 = .ok (.aload_n 2, 1) := by decide +kernel
theorem dL_roll_1 : decode cL_roll 1 = .ok (.iconst 0, 1) := by decide +kernel
theorem dL_roll_2 : decode cL_roll 2 = .ok (.aload_n 0, 1) := by decide +kernel
theorem dL_roll_3 : decode cL_roll 3 = .ok (.iload_n 1, 1) := by decide +kernel
theorem dL_roll_4 : decode cL_roll 4 = .ok (.invokevirtual 21, 3) := by decide +kernel
theorem dL_roll_7 : decode cL_roll 7 = .ok (.i2l, 1) := by decide +kernel
theorem dL_roll_8 : decode cL_roll 8 = .ok (.lastore, 1) := by decide +kernel
theorem dL_roll_9 : decode cL_roll 9 = .ok (.goto 9, 3) := by decide +kernel
theorem dL_roll_12 : decode cL_roll 12 = .ok (.astore_n 3, 1) := by decide +kernel
theorem dL_roll_13 : decode cL_roll 13 = .ok (.iconst 1, 1) := by decide +kernel
theorem dL_roll_14 : decode cL_roll 14 = .ok (.ireturn, 1) := by decide +kernel
theorem dL_roll_15 : decode cL_roll 15 = .ok (.astore_n 3, 1) := by decide +kernel
theorem dL_roll_16 : decode cL_roll 16 = .ok (.iconst 2, 1) := by decide +kernel
theorem dL_roll_17 : decode cL_roll 17 = .ok (.ireturn, 1) := by decide +kernel
theorem dL_roll_18 : decode cL_roll 18 = .ok (.iconst 0, 1) := by decide +kernel
theorem dL_roll_19 : decode cL_roll 19 = .ok (.ireturn, 1) := by decide +kernel
theorem dL_publish_0 : decode cL_publish 0 = .ok (.aload_n 3, 1) := by decide +kernel
theorem dL_publish_1 : decode cL_publish 1 = .ok (.iconst 0, 1) := by decide +kernel
theorem dL_publish_2 : decode cL_publish 2 = .ok (.aload_n 0, 1) := by decide +kernel
theorem dL_publish_3 : decode cL_publish 3 = .ok (.iload_n 1, 1) := by decide +kernel
theorem dL_publish_4 : decode cL_publish 4 = .ok (.iload_n 2, 1) := by decide +kernel
theorem dL_publish_5 : decode cL_publish 5 = .ok (.invokevirtual 24, 3) := by decide +kernel
theorem dL_publish_8 : decode cL_publish 8 = .ok (.i2l, 1) := by decide +kernel
theorem dL_publish_9 : decode cL_publish 9 = .ok (.lastore, 1) := by decide +kernel
theorem dL_publish_10 : decode cL_publish 10 = .ok (.goto 11, 3) := by decide +kernel
theorem dL_publish_13 : decode cL_publish 13 = .ok (.astore 4, 2) := by decide +kernel
theorem dL_publish_15 : decode cL_publish 15 = .ok (.iconst 1, 1) := by decide +kernel
theorem dL_publish_16 : decode cL_publish 16 = .ok (.ireturn, 1) := by decide +kernel
theorem dL_publish_17 : decode cL_publish 17 = .ok (.astore 4, 2) := by decide +kernel
theorem dL_publish_19 : decode cL_publish 19 = .ok (.iconst 2, 1) := by decide +kernel
theorem dL_publish_20 : decode cL_publish 20 = .ok (.ireturn, 1) := by decide +kernel
theorem dL_publish_21 : decode cL_publish 21 = .ok (.iconst 0, 1) := by decide +kernel
theorem dL_publish_22 : decode cL_publish 22 = .ok (.ireturn, 1) := by decide +kernel
theorem dL_pass_0 : decode cL_pass 0 = .ok (.aload_n 2, 1) := by decide +kernel
theorem dL_pass_1 : decode cL_pass 1 = .ok (.iconst 0, 1) := by decide +kernel
theorem dL_pass_2 : decode cL_pass 2 = .ok (.aload_n 0, 1) := by decide +kernel
theorem dL_pass_3 : decode cL_pass 3 = .ok (.iload_n 1, 1) := by decide +kernel
theorem dL_pass_4 : decode cL_pass 4 = .ok (.invokevirtual 29, 3) := by decide +kernel
theorem dL_pass_7 : decode cL_pass 7 = .ok (.i2l, 1) := by decide +kernel
theorem dL_pass_8 : decode cL_pass 8 = .ok (.lastore, 1) := by decide +kernel
theorem dL_pass_9 : decode cL_pass 9 = .ok (.goto 9, 3) := by decide +kernel
theorem dL_pass_12 : decode cL_pass 12 = .ok (.astore_n 3, 1) := by decide +kernel
theorem dL_pass_13 : decode cL_pass 13 = .ok (.iconst 1, 1) := by decide +kernel
theorem dL_pass_14 : decode cL_pass 14 = .ok (.ireturn, 1) := by decide +kernel
theorem dL_pass_15 : decode cL_pass 15 = .ok (.astore_n 3, 1) := by decide +kernel
theorem dL_pass_16 : decode cL_pass 16 = .ok (.iconst 2, 1) := by decide +kernel
theorem dL_pass_17 : decode cL_pass 17 = .ok (.ireturn, 1) := by decide +kernel
theorem dL_pass_18 : decode cL_pass 18 = .ok (.iconst 0, 1) := by decide +kernel
theorem dL_pass_19 : decode cL_pass 19 = .ok (.ireturn, 1) := by decide +kernel
theorem dL_grant_0 : decode cL_grant 0 = .ok (.aload 6, 2) := by decide +kernel
theorem dL_grant_2 : decode cL_grant 2 = .ok (.iconst 0, 1) := by decide +kernel
theorem dL_grant_3 : decode cL_grant 3 = .ok (.aload_n 0, 1) := by decide +kernel
theorem dL_grant_4 : decode cL_grant 4 = .ok (.iload_n 1, 1) := by decide +kernel
theorem dL_grant_5 : decode cL_grant 5 = .ok (.iload_n 2, 1) := by decide +kernel
theorem dL_grant_6 : decode cL_grant 6 = .ok (.iload_n 3, 1) := by decide +kernel
theorem dL_grant_7 : decode cL_grant 7 = .ok (.iload 4, 2) := by decide +kernel
theorem dL_grant_9 : decode cL_grant 9 = .ok (.iload 5, 2) := by decide +kernel
theorem dL_grant_11 : decode cL_grant 11 = .ok (.invokevirtual 32, 3) := by decide +kernel
theorem dL_grant_14 : decode cL_grant 14 = .ok (.i2l, 1) := by decide +kernel
theorem dL_grant_15 : decode cL_grant 15 = .ok (.lastore, 1) := by decide +kernel
theorem dL_grant_16 : decode cL_grant 16 = .ok (.goto 15, 3) := by decide +kernel
theorem dL_grant_19 : decode cL_grant 19 = .ok (.astore 7, 2) := by decide +kernel
theorem dL_grant_21 : decode cL_grant 21 = .ok (.iconst 1, 1) := by decide +kernel
theorem dL_grant_22 : decode cL_grant 22 = .ok (.ireturn, 1) := by decide +kernel
theorem dL_grant_23 : decode cL_grant 23 = .ok (.astore 7, 2) := by decide +kernel
theorem dL_grant_25 : decode cL_grant 25 = .ok (.iconst 2, 1) := by decide +kernel
theorem dL_grant_26 : decode cL_grant 26 = .ok (.ireturn, 1) := by decide +kernel
theorem dL_grant_27 : decode cL_grant 27 = .ok (.astore 7, 2) := by decide +kernel
theorem dL_grant_29 : decode cL_grant 29 = .ok (.iconst 3, 1) := by decide +kernel
theorem dL_grant_30 : decode cL_grant 30 = .ok (.ireturn, 1) := by decide +kernel
theorem dL_grant_31 : decode cL_grant 31 = .ok (.iconst 0, 1) := by decide +kernel
theorem dL_grant_32 : decode cL_grant 32 = .ok (.ireturn, 1) := by decide +kernel
theorem dL_origin_0 : decode cL_origin 0 = .ok (.aload 7, 2) := by decide +kernel
theorem dL_origin_2 : decode cL_origin 2 = .ok (.iconst 0, 1) := by decide +kernel
theorem dL_origin_3 : decode cL_origin 3 = .ok (.aload_n 0, 1) := by decide +kernel
theorem dL_origin_4 : decode cL_origin 4 = .ok (.iload_n 1, 1) := by decide +kernel
theorem dL_origin_5 : decode cL_origin 5 = .ok (.iload_n 2, 1) := by decide +kernel
theorem dL_origin_6 : decode cL_origin 6 = .ok (.iload_n 3, 1) := by decide +kernel
theorem dL_origin_7 : decode cL_origin 7 = .ok (.iload 4, 2) := by decide +kernel
theorem dL_origin_9 : decode cL_origin 9 = .ok (.iload 5, 2) := by decide +kernel
theorem dL_origin_11 : decode cL_origin 11 = .ok (.iload 6, 2) := by decide +kernel
theorem dL_origin_13 : decode cL_origin 13 = .ok (.invokevirtual 36, 3) := by decide +kernel
theorem dL_origin_16 : decode cL_origin 16 = .ok (.i2l, 1) := by decide +kernel
theorem dL_origin_17 : decode cL_origin 17 = .ok (.lastore, 1) := by decide +kernel
theorem dL_origin_18 : decode cL_origin 18 = .ok (.goto 15, 3) := by decide +kernel
theorem dL_origin_21 : decode cL_origin 21 = .ok (.astore 8, 2) := by decide +kernel
theorem dL_origin_23 : decode cL_origin 23 = .ok (.iconst 1, 1) := by decide +kernel
theorem dL_origin_24 : decode cL_origin 24 = .ok (.ireturn, 1) := by decide +kernel
theorem dL_origin_25 : decode cL_origin 25 = .ok (.astore 8, 2) := by decide +kernel
theorem dL_origin_27 : decode cL_origin 27 = .ok (.iconst 2, 1) := by decide +kernel
theorem dL_origin_28 : decode cL_origin 28 = .ok (.ireturn, 1) := by decide +kernel
theorem dL_origin_29 : decode cL_origin 29 = .ok (.astore 8, 2) := by decide +kernel
theorem dL_origin_31 : decode cL_origin 31 = .ok (.iconst 3, 1) := by decide +kernel
theorem dL_origin_32 : decode cL_origin 32 = .ok (.ireturn, 1) := by decide +kernel
theorem dL_origin_33 : decode cL_origin 33 = .ok (.iconst 0, 1) := by decide +kernel
theorem dL_origin_34 : decode cL_origin 34 = .ok (.ireturn, 1) := by decide +kernel
theorem dL_vouch_0 : decode cL_vouch 0 = .ok (.aload 5, 2) := by decide +kernel
theorem dL_vouch_2 : decode cL_vouch 2 = .ok (.iconst 0, 1) := by decide +kernel
theorem dL_vouch_3 : decode cL_vouch 3 = .ok (.aload_n 0, 1) := by decide +kernel
theorem dL_vouch_4 : decode cL_vouch 4 = .ok (.iload_n 1, 1) := by decide +kernel
theorem dL_vouch_5 : decode cL_vouch 5 = .ok (.iload_n 2, 1) := by decide +kernel
theorem dL_vouch_6 : decode cL_vouch 6 = .ok (.iload_n 3, 1) := by decide +kernel
theorem dL_vouch_7 : decode cL_vouch 7 = .ok (.iload 4, 2) := by decide +kernel
theorem dL_vouch_9 : decode cL_vouch 9 = .ok (.invokevirtual 40, 3) := by decide +kernel
theorem dL_vouch_12 : decode cL_vouch 12 = .ok (.i2l, 1) := by decide +kernel
theorem dL_vouch_13 : decode cL_vouch 13 = .ok (.lastore, 1) := by decide +kernel
theorem dL_vouch_14 : decode cL_vouch 14 = .ok (.goto 15, 3) := by decide +kernel
theorem dL_vouch_17 : decode cL_vouch 17 = .ok (.astore 6, 2) := by decide +kernel
theorem dL_vouch_19 : decode cL_vouch 19 = .ok (.iconst 1, 1) := by decide +kernel
theorem dL_vouch_20 : decode cL_vouch 20 = .ok (.ireturn, 1) := by decide +kernel
theorem dL_vouch_21 : decode cL_vouch 21 = .ok (.astore 6, 2) := by decide +kernel
theorem dL_vouch_23 : decode cL_vouch 23 = .ok (.iconst 2, 1) := by decide +kernel
theorem dL_vouch_24 : decode cL_vouch 24 = .ok (.ireturn, 1) := by decide +kernel
theorem dL_vouch_25 : decode cL_vouch 25 = .ok (.astore 6, 2) := by decide +kernel
theorem dL_vouch_27 : decode cL_vouch 27 = .ok (.iconst 3, 1) := by decide +kernel
theorem dL_vouch_28 : decode cL_vouch 28 = .ok (.ireturn, 1) := by decide +kernel
theorem dL_vouch_29 : decode cL_vouch 29 = .ok (.iconst 0, 1) := by decide +kernel
theorem dL_vouch_30 : decode cL_vouch 30 = .ok (.ireturn, 1) := by decide +kernel
theorem dL_revoke_0 : decode cL_revoke 0 = .ok (.aload_n 2, 1) := by decide +kernel
theorem dL_revoke_1 : decode cL_revoke 1 = .ok (.iconst 0, 1) := by decide +kernel
theorem dL_revoke_2 : decode cL_revoke 2 = .ok (.aload_n 0, 1) := by decide +kernel
theorem dL_revoke_3 : decode cL_revoke 3 = .ok (.iload_n 1, 1) := by decide +kernel
theorem dL_revoke_4 : decode cL_revoke 4 = .ok (.invokevirtual 44, 3) := by decide +kernel
theorem dL_revoke_7 : decode cL_revoke 7 = .ok (.ifCond .eq 7, 3) := by decide +kernel
theorem dL_revoke_10 : decode cL_revoke 10 = .ok (.lconst 1, 1) := by decide +kernel
theorem dL_revoke_11 : decode cL_revoke 11 = .ok (.goto 4, 3) := by decide +kernel
theorem dL_revoke_14 : decode cL_revoke 14 = .ok (.lconst 0, 1) := by decide +kernel
theorem dL_revoke_15 : decode cL_revoke 15 = .ok (.lastore, 1) := by decide +kernel
theorem dL_revoke_16 : decode cL_revoke 16 = .ok (.goto 6, 3) := by decide +kernel
theorem dL_revoke_19 : decode cL_revoke 19 = .ok (.astore_n 3, 1) := by decide +kernel
theorem dL_revoke_20 : decode cL_revoke 20 = .ok (.iconst 1, 1) := by decide +kernel
theorem dL_revoke_21 : decode cL_revoke 21 = .ok (.ireturn, 1) := by decide +kernel
theorem dL_revoke_22 : decode cL_revoke 22 = .ok (.iconst 0, 1) := by decide +kernel
theorem dL_revoke_23 : decode cL_revoke 23 = .ok (.ireturn, 1) := by decide +kernel
theorem dL_alter_0 : decode cL_alter 0 = .ok (.aload_n 3, 1) := by decide +kernel
theorem dL_alter_1 : decode cL_alter 1 = .ok (.iconst 0, 1) := by decide +kernel
theorem dL_alter_2 : decode cL_alter 2 = .ok (.aload_n 0, 1) := by decide +kernel
theorem dL_alter_3 : decode cL_alter 3 = .ok (.iload_n 1, 1) := by decide +kernel
theorem dL_alter_4 : decode cL_alter 4 = .ok (.iload_n 2, 1) := by decide +kernel
theorem dL_alter_5 : decode cL_alter 5 = .ok (.invokevirtual 48, 3) := by decide +kernel
theorem dL_alter_8 : decode cL_alter 8 = .ok (.i2l, 1) := by decide +kernel
theorem dL_alter_9 : decode cL_alter 9 = .ok (.lastore, 1) := by decide +kernel
theorem dL_alter_10 : decode cL_alter 10 = .ok (.goto 15, 3) := by decide +kernel
theorem dL_alter_13 : decode cL_alter 13 = .ok (.astore 4, 2) := by decide +kernel
theorem dL_alter_15 : decode cL_alter 15 = .ok (.iconst 1, 1) := by decide +kernel
theorem dL_alter_16 : decode cL_alter 16 = .ok (.ireturn, 1) := by decide +kernel
theorem dL_alter_17 : decode cL_alter 17 = .ok (.astore 4, 2) := by decide +kernel
theorem dL_alter_19 : decode cL_alter 19 = .ok (.iconst 2, 1) := by decide +kernel
theorem dL_alter_20 : decode cL_alter 20 = .ok (.ireturn, 1) := by decide +kernel
theorem dL_alter_21 : decode cL_alter 21 = .ok (.astore 4, 2) := by decide +kernel
theorem dL_alter_23 : decode cL_alter 23 = .ok (.iconst 3, 1) := by decide +kernel
theorem dL_alter_24 : decode cL_alter 24 = .ok (.ireturn, 1) := by decide +kernel
theorem dL_alter_25 : decode cL_alter 25 = .ok (.iconst 0, 1) := by decide +kernel
theorem dL_alter_26 : decode cL_alter 26 = .ok (.ireturn, 1) := by decide +kernel
theorem dL_sign_0 : decode cL_sign 0 = .ok (.aload_n 2, 1) := by decide +kernel
theorem dL_sign_1 : decode cL_sign 1 = .ok (.iconst 0, 1) := by decide +kernel
theorem dL_sign_2 : decode cL_sign 2 = .ok (.aload_n 0, 1) := by decide +kernel
theorem dL_sign_3 : decode cL_sign 3 = .ok (.iload_n 1, 1) := by decide +kernel
theorem dL_sign_4 : decode cL_sign 4 = .ok (.invokevirtual 51, 3) := by decide +kernel
theorem dL_sign_7 : decode cL_sign 7 = .ok (.i2l, 1) := by decide +kernel
theorem dL_sign_8 : decode cL_sign 8 = .ok (.lastore, 1) := by decide +kernel
theorem dL_sign_9 : decode cL_sign 9 = .ok (.goto 6, 3) := by decide +kernel
theorem dL_sign_12 : decode cL_sign 12 = .ok (.astore_n 3, 1) := by decide +kernel
theorem dL_sign_13 : decode cL_sign 13 = .ok (.iconst 1, 1) := by decide +kernel
theorem dL_sign_14 : decode cL_sign 14 = .ok (.ireturn, 1) := by decide +kernel
theorem dL_sign_15 : decode cL_sign 15 = .ok (.iconst 0, 1) := by decide +kernel
theorem dL_sign_16 : decode cL_sign 16 = .ok (.ireturn, 1) := by decide +kernel
theorem dL_hop_0 : decode cL_hop 0 = .ok (.aload_n 2, 1) := by decide +kernel
theorem dL_hop_1 : decode cL_hop 1 = .ok (.iconst 0, 1) := by decide +kernel
theorem dL_hop_2 : decode cL_hop 2 = .ok (.aload_n 0, 1) := by decide +kernel
theorem dL_hop_3 : decode cL_hop 3 = .ok (.iload_n 1, 1) := by decide +kernel
theorem dL_hop_4 : decode cL_hop 4 = .ok (.invokevirtual 54, 3) := by decide +kernel
theorem dL_hop_7 : decode cL_hop 7 = .ok (.i2l, 1) := by decide +kernel
theorem dL_hop_8 : decode cL_hop 8 = .ok (.lastore, 1) := by decide +kernel
theorem dL_hop_9 : decode cL_hop 9 = .ok (.goto 9, 3) := by decide +kernel
theorem dL_hop_12 : decode cL_hop 12 = .ok (.astore_n 3, 1) := by decide +kernel
theorem dL_hop_13 : decode cL_hop 13 = .ok (.iconst 1, 1) := by decide +kernel
theorem dL_hop_14 : decode cL_hop 14 = .ok (.ireturn, 1) := by decide +kernel
theorem dL_hop_15 : decode cL_hop 15 = .ok (.astore_n 3, 1) := by decide +kernel
theorem dL_hop_16 : decode cL_hop 16 = .ok (.iconst 2, 1) := by decide +kernel
theorem dL_hop_17 : decode cL_hop 17 = .ok (.ireturn, 1) := by decide +kernel
theorem dL_hop_18 : decode cL_hop 18 = .ok (.iconst 0, 1) := by decide +kernel
theorem dL_hop_19 : decode cL_hop 19 = .ok (.ireturn, 1) := by decide +kernel
theorem dL_hear_0 : decode cL_hear 0 = .ok (.aload_n 3, 1) := by decide +kernel
theorem dL_hear_1 : decode cL_hear 1 = .ok (.iconst 0, 1) := by decide +kernel
theorem dL_hear_2 : decode cL_hear 2 = .ok (.aload_n 0, 1) := by decide +kernel
theorem dL_hear_3 : decode cL_hear 3 = .ok (.iload_n 1, 1) := by decide +kernel
theorem dL_hear_4 : decode cL_hear 4 = .ok (.iload_n 2, 1) := by decide +kernel
theorem dL_hear_5 : decode cL_hear 5 = .ok (.invokevirtual 57, 3) := by decide +kernel
theorem dL_hear_8 : decode cL_hear 8 = .ok (.i2l, 1) := by decide +kernel
theorem dL_hear_9 : decode cL_hear 9 = .ok (.lastore, 1) := by decide +kernel
theorem dL_hear_10 : decode cL_hear 10 = .ok (.goto 11, 3) := by decide +kernel
theorem dL_hear_13 : decode cL_hear 13 = .ok (.astore 4, 2) := by decide +kernel
theorem dL_hear_15 : decode cL_hear 15 = .ok (.iconst 1, 1) := by decide +kernel
theorem dL_hear_16 : decode cL_hear 16 = .ok (.ireturn, 1) := by decide +kernel
theorem dL_hear_17 : decode cL_hear 17 = .ok (.astore 4, 2) := by decide +kernel
theorem dL_hear_19 : decode cL_hear 19 = .ok (.iconst 2, 1) := by decide +kernel
theorem dL_hear_20 : decode cL_hear 20 = .ok (.ireturn, 1) := by decide +kernel
theorem dL_hear_21 : decode cL_hear 21 = .ok (.iconst 0, 1) := by decide +kernel
theorem dL_hear_22 : decode cL_hear 22 = .ok (.ireturn, 1) := by decide +kernel
theorem dL_withdraw_0 : decode cL_withdraw 0 = .ok (.aload_n 2, 1) := by decide +kernel
theorem dL_withdraw_1 : decode cL_withdraw 1 = .ok (.iconst 0, 1) := by decide +kernel
theorem dL_withdraw_2 : decode cL_withdraw 2 = .ok (.aload_n 0, 1) := by decide +kernel
theorem dL_withdraw_3 : decode cL_withdraw 3 = .ok (.iload_n 1, 1) := by decide +kernel
theorem dL_withdraw_4 : decode cL_withdraw 4 = .ok (.invokevirtual 60, 3) := by decide +kernel
theorem dL_withdraw_7 : decode cL_withdraw 7 = .ok (.i2l, 1) := by decide +kernel
theorem dL_withdraw_8 : decode cL_withdraw 8 = .ok (.lastore, 1) := by decide +kernel
theorem dL_withdraw_9 : decode cL_withdraw 9 = .ok (.goto 9, 3) := by decide +kernel
theorem dL_withdraw_12 : decode cL_withdraw 12 = .ok (.astore_n 3, 1) := by decide +kernel
theorem dL_withdraw_13 : decode cL_withdraw 13 = .ok (.iconst 1, 1) := by decide +kernel
theorem dL_withdraw_14 : decode cL_withdraw 14 = .ok (.ireturn, 1) := by decide +kernel
theorem dL_withdraw_15 : decode cL_withdraw 15 = .ok (.astore_n 3, 1) := by decide +kernel
theorem dL_withdraw_16 : decode cL_withdraw 16 = .ok (.iconst 2, 1) := by decide +kernel
theorem dL_withdraw_17 : decode cL_withdraw 17 = .ok (.ireturn, 1) := by decide +kernel
theorem dL_withdraw_18 : decode cL_withdraw 18 = .ok (.iconst 0, 1) := by decide +kernel
theorem dL_withdraw_19 : decode cL_withdraw 19 = .ok (.ireturn, 1) := by decide +kernel
theorem dL_tie_0 : decode cL_tie 0 = .ok (.aload 4, 2) := by decide +kernel
theorem dL_tie_2 : decode cL_tie 2 = .ok (.iconst 0, 1) := by decide +kernel
theorem dL_tie_3 : decode cL_tie 3 = .ok (.aload_n 0, 1) := by decide +kernel
theorem dL_tie_4 : decode cL_tie 4 = .ok (.iload_n 1, 1) := by decide +kernel
theorem dL_tie_5 : decode cL_tie 5 = .ok (.iload_n 2, 1) := by decide +kernel
theorem dL_tie_6 : decode cL_tie 6 = .ok (.iload_n 3, 1) := by decide +kernel
theorem dL_tie_7 : decode cL_tie 7 = .ok (.invokevirtual 63, 3) := by decide +kernel
theorem dL_tie_10 : decode cL_tie 10 = .ok (.i2l, 1) := by decide +kernel
theorem dL_tie_11 : decode cL_tie 11 = .ok (.lastore, 1) := by decide +kernel
theorem dL_tie_12 : decode cL_tie 12 = .ok (.goto 11, 3) := by decide +kernel
theorem dL_tie_15 : decode cL_tie 15 = .ok (.astore 5, 2) := by decide +kernel
theorem dL_tie_17 : decode cL_tie 17 = .ok (.iconst 1, 1) := by decide +kernel
theorem dL_tie_18 : decode cL_tie 18 = .ok (.ireturn, 1) := by decide +kernel
theorem dL_tie_19 : decode cL_tie 19 = .ok (.astore 5, 2) := by decide +kernel
theorem dL_tie_21 : decode cL_tie 21 = .ok (.iconst 2, 1) := by decide +kernel
theorem dL_tie_22 : decode cL_tie 22 = .ok (.ireturn, 1) := by decide +kernel
theorem dL_tie_23 : decode cL_tie 23 = .ok (.iconst 0, 1) := by decide +kernel
theorem dL_tie_24 : decode cL_tie 24 = .ok (.ireturn, 1) := by decide +kernel
theorem dL_judged_0 : decode cL_judged 0 = .ok (.aload_n 2, 1) := by decide +kernel
theorem dL_judged_1 : decode cL_judged 1 = .ok (.iconst 0, 1) := by decide +kernel
theorem dL_judged_2 : decode cL_judged 2 = .ok (.aload_n 0, 1) := by decide +kernel
theorem dL_judged_3 : decode cL_judged 3 = .ok (.iload_n 1, 1) := by decide +kernel
theorem dL_judged_4 : decode cL_judged 4 = .ok (.invokevirtual 67, 3) := by decide +kernel
theorem dL_judged_7 : decode cL_judged 7 = .ok (.i2l, 1) := by decide +kernel
theorem dL_judged_8 : decode cL_judged 8 = .ok (.lastore, 1) := by decide +kernel
theorem dL_judged_9 : decode cL_judged 9 = .ok (.goto 6, 3) := by decide +kernel
theorem dL_judged_12 : decode cL_judged 12 = .ok (.astore_n 3, 1) := by decide +kernel
theorem dL_judged_13 : decode cL_judged 13 = .ok (.iconst 1, 1) := by decide +kernel
theorem dL_judged_14 : decode cL_judged 14 = .ok (.ireturn, 1) := by decide +kernel
theorem dL_judged_15 : decode cL_judged 15 = .ok (.iconst 0, 1) := by decide +kernel
theorem dL_judged_16 : decode cL_judged 16 = .ok (.ireturn, 1) := by decide +kernel
theorem dL_has_0 : decode cL_has 0 = .ok (.aload 4, 2) := by decide +kernel
theorem dL_has_2 : decode cL_has 2 = .ok (.iconst 0, 1) := by decide +kernel
theorem dL_has_3 : decode cL_has 3 = .ok (.aload_n 0, 1) := by decide +kernel
theorem dL_has_4 : decode cL_has 4 = .ok (.iload_n 1, 1) := by decide +kernel
theorem dL_has_5 : decode cL_has 5 = .ok (.iload_n 2, 1) := by decide +kernel
theorem dL_has_6 : decode cL_has 6 = .ok (.iload_n 3, 1) := by decide +kernel
theorem dL_has_7 : decode cL_has 7 = .ok (.invokevirtual 70, 3) := by decide +kernel
theorem dL_has_10 : decode cL_has 10 = .ok (.ifCond .eq 7, 3) := by decide +kernel
theorem dL_has_13 : decode cL_has 13 = .ok (.lconst 1, 1) := by decide +kernel
theorem dL_has_14 : decode cL_has 14 = .ok (.goto 4, 3) := by decide +kernel
theorem dL_has_17 : decode cL_has 17 = .ok (.lconst 0, 1) := by decide +kernel
theorem dL_has_18 : decode cL_has 18 = .ok (.lastore, 1) := by decide +kernel
theorem dL_has_19 : decode cL_has 19 = .ok (.goto 11, 3) := by decide +kernel
theorem dL_has_22 : decode cL_has 22 = .ok (.astore 5, 2) := by decide +kernel
theorem dL_has_24 : decode cL_has 24 = .ok (.iconst 1, 1) := by decide +kernel
theorem dL_has_25 : decode cL_has 25 = .ok (.ireturn, 1) := by decide +kernel
theorem dL_has_26 : decode cL_has 26 = .ok (.astore 5, 2) := by decide +kernel
theorem dL_has_28 : decode cL_has 28 = .ok (.iconst 2, 1) := by decide +kernel
theorem dL_has_29 : decode cL_has 29 = .ok (.ireturn, 1) := by decide +kernel
theorem dL_has_30 : decode cL_has 30 = .ok (.iconst 0, 1) := by decide +kernel
theorem dL_has_31 : decode cL_has 31 = .ok (.ireturn, 1) := by decide +kernel
theorem dL_hasByChains_0 : decode cL_hasByChains 0 = .ok (.aload 4, 2) := by decide +kernel
theorem dL_hasByChains_2 : decode cL_hasByChains 2 = .ok (.iconst 0, 1) := by decide +kernel
theorem dL_hasByChains_3 : decode cL_hasByChains 3 = .ok (.aload_n 0, 1) := by decide +kernel
theorem dL_hasByChains_4 : decode cL_hasByChains 4 = .ok (.iload_n 1, 1) := by decide +kernel
theorem dL_hasByChains_5 : decode cL_hasByChains 5 = .ok (.iload_n 2, 1) := by decide +kernel
theorem dL_hasByChains_6 : decode cL_hasByChains 6 = .ok (.iload_n 3, 1) := by decide +kernel
theorem dL_hasByChains_7 : decode cL_hasByChains 7 = .ok (.invokevirtual 74, 3) := by decide +kernel
theorem dL_hasByChains_10 : decode cL_hasByChains 10 = .ok (.ifCond .eq 7, 3) := by decide +kernel
theorem dL_hasByChains_13 : decode cL_hasByChains 13 = .ok (.lconst 1, 1) := by decide +kernel
theorem dL_hasByChains_14 : decode cL_hasByChains 14 = .ok (.goto 4, 3) := by decide +kernel
theorem dL_hasByChains_17 : decode cL_hasByChains 17 = .ok (.lconst 0, 1) := by decide +kernel
theorem dL_hasByChains_18 : decode cL_hasByChains 18 = .ok (.lastore, 1) := by decide +kernel
theorem dL_hasByChains_19 : decode cL_hasByChains 19 = .ok (.goto 11, 3) := by decide +kernel
theorem dL_hasByChains_22 : decode cL_hasByChains 22 = .ok (.astore 5, 2) := by decide +kernel
theorem dL_hasByChains_24 : decode cL_hasByChains 24 = .ok (.iconst 1, 1) := by decide +kernel
theorem dL_hasByChains_25 : decode cL_hasByChains 25 = .ok (.ireturn, 1) := by decide +kernel
theorem dL_hasByChains_26 : decode cL_hasByChains 26 = .ok (.astore 5, 2) := by decide +kernel
theorem dL_hasByChains_28 : decode cL_hasByChains 28 = .ok (.iconst 2, 1) := by decide +kernel
theorem dL_hasByChains_29 : decode cL_hasByChains 29 = .ok (.ireturn, 1) := by decide +kernel
theorem dL_hasByChains_30 : decode cL_hasByChains 30 = .ok (.iconst 0, 1) := by decide +kernel
theorem dL_hasByChains_31 : decode cL_hasByChains 31 = .ok (.ireturn, 1) := by decide +kernel
theorem dL_state_0 : decode cL_state 0 = .ok (.aload 4, 2) := by decide +kernel
theorem dL_state_2 : decode cL_state 2 = .ok (.iconst 0, 1) := by decide +kernel
theorem dL_state_3 : decode cL_state 3 = .ok (.aload_n 0, 1) := by decide +kernel
theorem dL_state_4 : decode cL_state 4 = .ok (.iload_n 1, 1) := by decide +kernel
theorem dL_state_5 : decode cL_state 5 = .ok (.iload_n 2, 1) := by decide +kernel
theorem dL_state_6 : decode cL_state 6 = .ok (.iload_n 3, 1) := by decide +kernel
theorem dL_state_7 : decode cL_state 7 = .ok (.invokevirtual 77, 3) := by decide +kernel
theorem dL_state_10 : decode cL_state 10 = .ok (.i2l, 1) := by decide +kernel
theorem dL_state_11 : decode cL_state 11 = .ok (.lastore, 1) := by decide +kernel
theorem dL_state_12 : decode cL_state 12 = .ok (.goto 11, 3) := by decide +kernel
theorem dL_state_15 : decode cL_state 15 = .ok (.astore 5, 2) := by decide +kernel
theorem dL_state_17 : decode cL_state 17 = .ok (.iconst 1, 1) := by decide +kernel
theorem dL_state_18 : decode cL_state 18 = .ok (.ireturn, 1) := by decide +kernel
theorem dL_state_19 : decode cL_state 19 = .ok (.astore 5, 2) := by decide +kernel
theorem dL_state_21 : decode cL_state 21 = .ok (.iconst 2, 1) := by decide +kernel
theorem dL_state_22 : decode cL_state 22 = .ok (.ireturn, 1) := by decide +kernel
theorem dL_state_23 : decode cL_state 23 = .ok (.iconst 0, 1) := by decide +kernel
theorem dL_state_24 : decode cL_state 24 = .ok (.ireturn, 1) := by decide +kernel
theorem dL_path_0 : decode cL_path 0 = .ok (.aload_n 3, 1) := by decide +kernel
theorem dL_path_1 : decode cL_path 1 = .ok (.iconst 0, 1) := by decide +kernel
theorem dL_path_2 : decode cL_path 2 = .ok (.aload_n 0, 1) := by decide +kernel
theorem dL_path_3 : decode cL_path 3 = .ok (.iload_n 1, 1) := by decide +kernel
theorem dL_path_4 : decode cL_path 4 = .ok (.iload_n 2, 1) := by decide +kernel
theorem dL_path_5 : decode cL_path 5 = .ok (.invokevirtual 80, 3) := by decide +kernel
theorem dL_path_8 : decode cL_path 8 = .ok (.i2l, 1) := by decide +kernel
theorem dL_path_9 : decode cL_path 9 = .ok (.lastore, 1) := by decide +kernel
theorem dL_path_10 : decode cL_path 10 = .ok (.goto 7, 3) := by decide +kernel
theorem dL_path_13 : decode cL_path 13 = .ok (.astore 4, 2) := by decide +kernel
theorem dL_path_15 : decode cL_path 15 = .ok (.iconst 1, 1) := by decide +kernel
theorem dL_path_16 : decode cL_path 16 = .ok (.ireturn, 1) := by decide +kernel
theorem dL_path_17 : decode cL_path 17 = .ok (.iconst 0, 1) := by decide +kernel
theorem dL_path_18 : decode cL_path 18 = .ok (.ireturn, 1) := by decide +kernel
theorem dL_leak_0 : decode cL_leak 0 = .ok (.aload_n 2, 1) := by decide +kernel
theorem dL_leak_1 : decode cL_leak 1 = .ok (.iconst 0, 1) := by decide +kernel
theorem dL_leak_2 : decode cL_leak 2 = .ok (.aload_n 0, 1) := by decide +kernel
theorem dL_leak_3 : decode cL_leak 3 = .ok (.iload_n 1, 1) := by decide +kernel
theorem dL_leak_4 : decode cL_leak 4 = .ok (.invokevirtual 84, 3) := by decide +kernel
theorem dL_leak_7 : decode cL_leak 7 = .ok (.i2l, 1) := by decide +kernel
theorem dL_leak_8 : decode cL_leak 8 = .ok (.lastore, 1) := by decide +kernel
theorem dL_leak_9 : decode cL_leak 9 = .ok (.goto 6, 3) := by decide +kernel
theorem dL_leak_12 : decode cL_leak 12 = .ok (.astore_n 3, 1) := by decide +kernel
theorem dL_leak_13 : decode cL_leak 13 = .ok (.iconst 1, 1) := by decide +kernel
theorem dL_leak_14 : decode cL_leak 14 = .ok (.ireturn, 1) := by decide +kernel
theorem dL_leak_15 : decode cL_leak 15 = .ok (.iconst 0, 1) := by decide +kernel
theorem dL_leak_16 : decode cL_leak 16 = .ok (.ireturn, 1) := by decide +kernel
theorem dL_stopped_0 : decode cL_stopped 0 = .ok (.aload_n 3, 1) := by decide +kernel
theorem dL_stopped_1 : decode cL_stopped 1 = .ok (.iconst 0, 1) := by decide +kernel
theorem dL_stopped_2 : decode cL_stopped 2 = .ok (.aload_n 0, 1) := by decide +kernel
theorem dL_stopped_3 : decode cL_stopped 3 = .ok (.iload_n 1, 1) := by decide +kernel
theorem dL_stopped_4 : decode cL_stopped 4 = .ok (.iload_n 2, 1) := by decide +kernel
theorem dL_stopped_5 : decode cL_stopped 5 = .ok (.invokevirtual 87, 3) := by decide +kernel
theorem dL_stopped_8 : decode cL_stopped 8 = .ok (.i2l, 1) := by decide +kernel
theorem dL_stopped_9 : decode cL_stopped 9 = .ok (.lastore, 1) := by decide +kernel
theorem dL_stopped_10 : decode cL_stopped 10 = .ok (.goto 11, 3) := by decide +kernel
theorem dL_stopped_13 : decode cL_stopped 13 = .ok (.astore 4, 2) := by decide +kernel
theorem dL_stopped_15 : decode cL_stopped 15 = .ok (.iconst 1, 1) := by decide +kernel
theorem dL_stopped_16 : decode cL_stopped 16 = .ok (.ireturn, 1) := by decide +kernel
theorem dL_stopped_17 : decode cL_stopped 17 = .ok (.astore 4, 2) := by decide +kernel
theorem dL_stopped_19 : decode cL_stopped 19 = .ok (.iconst 2, 1) := by decide +kernel
theorem dL_stopped_20 : decode cL_stopped 20 = .ok (.ireturn, 1) := by decide +kernel
theorem dL_stopped_21 : decode cL_stopped 21 = .ok (.iconst 0, 1) := by decide +kernel
theorem dL_stopped_22 : decode cL_stopped 22 = .ok (.ireturn, 1) := by decide +kernel
theorem dL_allowed_0 : decode cL_allowed 0 = .ok (.aload_n 3, 1) := by decide +kernel
theorem dL_allowed_1 : decode cL_allowed 1 = .ok (.iconst 0, 1) := by decide +kernel
theorem dL_allowed_2 : decode cL_allowed 2 = .ok (.aload_n 0, 1) := by decide +kernel
theorem dL_allowed_3 : decode cL_allowed 3 = .ok (.iload_n 1, 1) := by decide +kernel
theorem dL_allowed_4 : decode cL_allowed 4 = .ok (.iload_n 2, 1) := by decide +kernel
theorem dL_allowed_5 : decode cL_allowed 5 = .ok (.invokevirtual 90, 3) := by decide +kernel
theorem dL_allowed_8 : decode cL_allowed 8 = .ok (.i2l, 1) := by decide +kernel
theorem dL_allowed_9 : decode cL_allowed 9 = .ok (.lastore, 1) := by decide +kernel
theorem dL_allowed_10 : decode cL_allowed 10 = .ok (.goto 7, 3) := by decide +kernel
theorem dL_allowed_13 : decode cL_allowed 13 = .ok (.astore 4, 2) := by decide +kernel
theorem dL_allowed_15 : decode cL_allowed 15 = .ok (.iconst 1, 1) := by decide +kernel
theorem dL_allowed_16 : decode cL_allowed 16 = .ok (.ireturn, 1) := by decide +kernel
theorem dL_allowed_17 : decode cL_allowed 17 = .ok (.iconst 0, 1) := by decide +kernel
theorem dL_allowed_18 : decode cL_allowed 18 = .ok (.ireturn, 1) := by decide +kernel
theorem dL_inferred_0 : decode cL_inferred 0 = .ok (.aload 4, 2) := by decide +kernel
theorem dL_inferred_2 : decode cL_inferred 2 = .ok (.iconst 0, 1) := by decide +kernel
theorem dL_inferred_3 : decode cL_inferred 3 = .ok (.aload_n 0, 1) := by decide +kernel
theorem dL_inferred_4 : decode cL_inferred 4 = .ok (.iload_n 1, 1) := by decide +kernel
theorem dL_inferred_5 : decode cL_inferred 5 = .ok (.iload_n 2, 1) := by decide +kernel
theorem dL_inferred_6 : decode cL_inferred 6 = .ok (.iload_n 3, 1) := by decide +kernel
theorem dL_inferred_7 : decode cL_inferred 7 = .ok (.invokevirtual 93, 3) := by decide +kernel
theorem dL_inferred_10 : decode cL_inferred 10 = .ok (.i2l, 1) := by decide +kernel
theorem dL_inferred_11 : decode cL_inferred 11 = .ok (.lastore, 1) := by decide +kernel
theorem dL_inferred_12 : decode cL_inferred 12 = .ok (.goto 7, 3) := by decide +kernel
theorem dL_inferred_15 : decode cL_inferred 15 = .ok (.astore 5, 2) := by decide +kernel
theorem dL_inferred_17 : decode cL_inferred 17 = .ok (.iconst 1, 1) := by decide +kernel
theorem dL_inferred_18 : decode cL_inferred 18 = .ok (.ireturn, 1) := by decide +kernel
theorem dL_inferred_19 : decode cL_inferred 19 = .ok (.iconst 0, 1) := by decide +kernel
theorem dL_inferred_20 : decode cL_inferred 20 = .ok (.ireturn, 1) := by decide +kernel
theorem dL_cone_0 : decode cL_cone 0 = .ok (.aload_n 2, 1) := by decide +kernel
theorem dL_cone_1 : decode cL_cone 1 = .ok (.iconst 0, 1) := by decide +kernel
theorem dL_cone_2 : decode cL_cone 2 = .ok (.aload_n 0, 1) := by decide +kernel
theorem dL_cone_3 : decode cL_cone 3 = .ok (.iload_n 1, 1) := by decide +kernel
theorem dL_cone_4 : decode cL_cone 4 = .ok (.invokevirtual 96, 3) := by decide +kernel
theorem dL_cone_7 : decode cL_cone 7 = .ok (.i2l, 1) := by decide +kernel
theorem dL_cone_8 : decode cL_cone 8 = .ok (.lastore, 1) := by decide +kernel
theorem dL_cone_9 : decode cL_cone 9 = .ok (.goto 6, 3) := by decide +kernel
theorem dL_cone_12 : decode cL_cone 12 = .ok (.astore_n 3, 1) := by decide +kernel
theorem dL_cone_13 : decode cL_cone 13 = .ok (.iconst 1, 1) := by decide +kernel
theorem dL_cone_14 : decode cL_cone 14 = .ok (.ireturn, 1) := by decide +kernel
theorem dL_cone_15 : decode cL_cone 15 = .ok (.iconst 0, 1) := by decide +kernel
theorem dL_cone_16 : decode cL_cone 16 = .ok (.ireturn, 1) := by decide +kernel
theorem dL_coneByPaths_0 : decode cL_coneByPaths 0 = .ok (.aload_n 2, 1) := by decide +kernel
theorem dL_coneByPaths_1 : decode cL_coneByPaths 1 = .ok (.iconst 0, 1) := by decide +kernel
theorem dL_coneByPaths_2 : decode cL_coneByPaths 2 = .ok (.aload_n 0, 1) := by decide +kernel
theorem dL_coneByPaths_3 : decode cL_coneByPaths 3 = .ok (.iload_n 1, 1) := by decide +kernel
theorem dL_coneByPaths_4 : decode cL_coneByPaths 4 = .ok (.invokevirtual 99, 3) := by decide +kernel
theorem dL_coneByPaths_7 : decode cL_coneByPaths 7 = .ok (.i2l, 1) := by decide +kernel
theorem dL_coneByPaths_8 : decode cL_coneByPaths 8 = .ok (.lastore, 1) := by decide +kernel
theorem dL_coneByPaths_9 : decode cL_coneByPaths 9 = .ok (.goto 6, 3) := by decide +kernel
theorem dL_coneByPaths_12 : decode cL_coneByPaths 12 = .ok (.astore_n 3, 1) := by decide +kernel
theorem dL_coneByPaths_13 : decode cL_coneByPaths 13 = .ok (.iconst 1, 1) := by decide +kernel
theorem dL_coneByPaths_14 : decode cL_coneByPaths 14 = .ok (.ireturn, 1) := by decide +kernel
theorem dL_coneByPaths_15 : decode cL_coneByPaths 15 = .ok (.iconst 0, 1) := by decide +kernel
theorem dL_coneByPaths_16 : decode cL_coneByPaths 16 = .ok (.ireturn, 1) := by decide +kernel
theorem dL_addresses_0 : decode cL_addresses 0 = .ok (.aload_n 2, 1) := by decide +kernel
theorem dL_addresses_1 : decode cL_addresses 1 = .ok (.iconst 0, 1) := by decide +kernel
theorem dL_addresses_2 : decode cL_addresses 2 = .ok (.aload_n 0, 1) := by decide +kernel
theorem dL_addresses_3 : decode cL_addresses 3 = .ok (.iload_n 1, 1) := by decide +kernel
theorem dL_addresses_4 : decode cL_addresses 4 = .ok (.invokevirtual 102, 3) := by decide +kernel
theorem dL_addresses_7 : decode cL_addresses 7 = .ok (.i2l, 1) := by decide +kernel
theorem dL_addresses_8 : decode cL_addresses 8 = .ok (.lastore, 1) := by decide +kernel
theorem dL_addresses_9 : decode cL_addresses 9 = .ok (.goto 6, 3) := by decide +kernel
theorem dL_addresses_12 : decode cL_addresses 12 = .ok (.astore_n 3, 1) := by decide +kernel
theorem dL_addresses_13 : decode cL_addresses 13 = .ok (.iconst 1, 1) := by decide +kernel
theorem dL_addresses_14 : decode cL_addresses 14 = .ok (.ireturn, 1) := by decide +kernel
theorem dL_addresses_15 : decode cL_addresses 15 = .ok (.iconst 0, 1) := by decide +kernel
theorem dL_addresses_16 : decode cL_addresses 16 = .ok (.ireturn, 1) := by decide +kernel
theorem dL_law_0 : decode cL_law 0 = .ok (.new 8, 3) := by decide +kernel
theorem dL_law_3 : decode cL_law 3 = .ok (.dup, 1) := by decide +kernel
theorem dL_law_4 : decode cL_law 4 = .ok (.invokespecial 105, 3) := by decide +kernel
theorem dL_law_7 : decode cL_law 7 = .ok (.astore_n 1, 1) := by decide +kernel
theorem dL_law_8 : decode cL_law 8 = .ok (.new 106, 3) := by decide +kernel
theorem dL_law_11 : decode cL_law 11 = .ok (.dup, 1) := by decide +kernel
theorem dL_law_12 : decode cL_law 12 = .ok (.invokespecial 108, 3) := by decide +kernel
theorem dL_law_15 : decode cL_law 15 = .ok (.astore_n 2, 1) := by decide +kernel
theorem dL_law_16 : decode cL_law 16 = .ok (.iconst 1, 1) := by decide +kernel
theorem dL_law_17 : decode cL_law 17 = .ok (.newarray .long, 2) := by decide +kernel
theorem dL_law_19 : decode cL_law 19 = .ok (.astore_n 3, 1) := by decide +kernel
theorem dL_law_20 : decode cL_law 20 = .ok (.iconst 0, 1) := by decide +kernel
theorem dL_law_21 : decode cL_law 21 = .ok (.istore 4, 2) := by decide +kernel
theorem dL_law_23 : decode cL_law 23 = .ok (.iload 4, 2) := by decide +kernel
theorem dL_law_25 : decode cL_law 25 = .ok (.aload_n 0, 1) := by decide +kernel
theorem dL_law_26 : decode cL_law 26 = .ok (.arraylength, 1) := by decide +kernel
theorem dL_law_27 : decode cL_law 27 = .ok (.bipush 7, 2) := by decide +kernel
theorem dL_law_29 : decode cL_law 29 = .ok (.isub, 1) := by decide +kernel
theorem dL_law_30 : decode cL_law 30 = .ok (.if_icmp .gt 2124, 3) := by decide +kernel
theorem dL_law_33 : decode cL_law 33 = .ok (.aload_n 0, 1) := by decide +kernel
theorem dL_law_34 : decode cL_law 34 = .ok (.iload 4, 2) := by decide +kernel
theorem dL_law_36 : decode cL_law 36 = .ok (.iaload, 1) := by decide +kernel
theorem dL_law_37 : decode cL_law 37 = .ok (.bipush 31, 2) := by decide +kernel
theorem dL_law_39 : decode cL_law 39 = .ok (.iand, 1) := by decide +kernel
theorem dL_law_40 : decode cL_law 40 = .ok (.tableswitch 2108 0 31 #[144, 200, 268, 324, 392, 448, 552, 670, 762, 825, 893, 949, 1005, 1073, 1129, 1209, 1222, 1235, 1291, 1378, 1465, 1545, 1558, 1642, 1698, 1766, 1834, 1847, 1860, 1940, 1996, 2052], 144) := by decide +kernel
theorem dL_law_184 : decode cL_law 184 = .ok (.aload_n 1, 1) := by decide +kernel
theorem dL_law_185 : decode cL_law 185 = .ok (.aload_n 0, 1) := by decide +kernel
theorem dL_law_186 : decode cL_law 186 = .ok (.iload 4, 2) := by decide +kernel
theorem dL_law_188 : decode cL_law 188 = .ok (.iconst 1, 1) := by decide +kernel
theorem dL_law_189 : decode cL_law 189 = .ok (.iadd, 1) := by decide +kernel
theorem dL_law_190 : decode cL_law 190 = .ok (.iaload, 1) := by decide +kernel
theorem dL_law_191 : decode cL_law 191 = .ok (.aload_n 3, 1) := by decide +kernel
theorem dL_law_192 : decode cL_law 192 = .ok (.invokestatic 109, 3) := by decide +kernel
theorem dL_law_195 : decode cL_law 195 = .ok (.istore 5, 2) := by decide +kernel
theorem dL_law_197 : decode cL_law 197 = .ok (.aload_n 2, 1) := by decide +kernel
theorem dL_law_198 : decode cL_law 198 = .ok (.aload_n 0, 1) := by decide +kernel
theorem dL_law_199 : decode cL_law 199 = .ok (.iload 4, 2) := by decide +kernel
theorem dL_law_201 : decode cL_law 201 = .ok (.iconst 1, 1) := by decide +kernel
theorem dL_law_202 : decode cL_law 202 = .ok (.iadd, 1) := by decide +kernel
theorem dL_law_203 : decode cL_law 203 = .ok (.iaload, 1) := by decide +kernel
theorem dL_law_204 : decode cL_law 204 = .ok (.invokevirtual 114, 3) := by decide +kernel
theorem dL_law_207 : decode cL_law 207 = .ok (.istore 6, 2) := by decide +kernel
theorem dL_law_209 : decode cL_law 209 = .ok (.aload_n 2, 1) := by decide +kernel
theorem dL_law_210 : decode cL_law 210 = .ok (.invokevirtual 115, 3) := by decide +kernel
theorem dL_law_213 : decode cL_law 213 = .ok (.iload 5, 2) := by decide +kernel
theorem dL_law_215 : decode cL_law 215 = .ok (.if_icmp .eq 5, 3) := by decide +kernel
