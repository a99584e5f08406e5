/-! decode rows, by program -/
theorem d_M_nearest_0 : decode c_M_nearest 0 = .ok (.aload_n 0, 1) := by decide +kernel
theorem d_M_nearest_1 : decode c_M_nearest 1 = .ok (.iconst 0, 1) := by decide +kernel
theorem d_M_nearest_2 : decode c_M_nearest 2 = .ok (.putfield 29, 3) := by decide +kernel
theorem d_M_nearest_5 : decode c_M_nearest 5 = .ok (.iload_n 3, 1) := by decide +kernel
theorem d_M_nearest_6 : decode c_M_nearest 6 = .ok (.iconst 1, 1) := by decide +kernel
theorem d_M_nearest_7 : decode c_M_nearest 7 = .ok (.sipush 4096, 3) := by decide +kernel
theorem d_M_nearest_10 : decode c_M_nearest 10 = .ok (.invokestatic 35, 3) := by decide +kernel
theorem d_M_nearest_13 : decode c_M_nearest 13 = .ok (.ifCond .eq 17, 3) := by decide +kernel
theorem d_M_nearest_16 : decode c_M_nearest 16 = .ok (.iload_n 1, 1) := by decide +kernel
theorem d_M_nearest_17 : decode c_M_nearest 17 = .ok (.invokestatic 39, 3) := by decide +kernel
theorem d_M_nearest_20 : decode c_M_nearest 20 = .ok (.ifCond .ne 10, 3) := by decide +kernel
theorem d_M_nearest_23 : decode c_M_nearest 23 = .ok (.iload_n 2, 1) := by decide +kernel
theorem d_M_nearest_24 : decode c_M_nearest 24 = .ok (.invokestatic 39, 3) := by decide +kernel
theorem d_M_nearest_27 : decode c_M_nearest 27 = .ok (.ifCond .eq 9, 3) := by decide +kernel
theorem d_M_nearest_30 : decode c_M_nearest 30 = .ok (.aload_n 0, 1) := by decide +kernel
theorem d_M_nearest_31 : decode c_M_nearest 31 = .ok (.iconst 1, 1) := by decide +kernel
theorem d_M_nearest_32 : decode c_M_nearest 32 = .ok (.invokevirtual 43, 3) := by decide +kernel
theorem d_M_nearest_35 : decode c_M_nearest 35 = .ok (.ireturn, 1) := by decide +kernel
theorem d_M_nearest_36 : decode c_M_nearest 36 = .ok (.aload_n 0, 1) := by decide +kernel
theorem d_M_nearest_37 : decode c_M_nearest 37 = .ok (.iconst 0, 1) := by decide +kernel
theorem d_M_nearest_38 : decode c_M_nearest 38 = .ok (.putfield 55, 3) := by decide +kernel
theorem d_M_nearest_41 : decode c_M_nearest 41 = .ok (.ldc2_w 72, 3) := by decide +kernel
theorem d_M_nearest_44 : decode c_M_nearest 44 = .ok (.lstore 4, 2) := by decide +kernel
theorem d_M_nearest_46 : decode c_M_nearest 46 = .ok (.iconst (-1), 1) := by decide +kernel
theorem d_M_nearest_47 : decode c_M_nearest 47 = .ok (.istore 6, 2) := by decide +kernel
theorem d_M_nearest_49 : decode c_M_nearest 49 = .ok (.iconst 1, 1) := by decide +kernel
theorem d_M_nearest_50 : decode c_M_nearest 50 = .ok (.istore 7, 2) := by decide +kernel
theorem d_M_nearest_52 : decode c_M_nearest 52 = .ok (.iload 7, 2) := by decide +kernel
theorem d_M_nearest_54 : decode c_M_nearest 54 = .ok (.ifCond .eq 159, 3) := by decide +kernel
theorem d_M_nearest_57 : decode c_M_nearest 57 = .ok (.aload_n 0, 1) := by decide +kernel
theorem d_M_nearest_58 : decode c_M_nearest 58 = .ok (.getfield 55, 3) := by decide +kernel
theorem d_M_nearest_61 : decode c_M_nearest 61 = .ok (.iload_n 3, 1) := by decide +kernel
theorem d_M_nearest_62 : decode c_M_nearest 62 = .ok (.if_icmp .ge 151, 3) := by decide +kernel
theorem d_M_nearest_65 : decode c_M_nearest 65 = .ok (.iconst (-1), 1) := by decide +kernel
theorem d_M_nearest_66 : decode c_M_nearest 66 = .ok (.istore 8, 2) := by decide +kernel
theorem d_M_nearest_68 : decode c_M_nearest 68 = .ok (.lconst 0, 1) := by decide +kernel
theorem d_M_nearest_69 : decode c_M_nearest 69 = .ok (.lstore 9, 2) := by decide +kernel
theorem d_M_nearest_71 : decode c_M_nearest 71 = .ok (.iconst 0, 1) := by decide +kernel
theorem d_M_nearest_72 : decode c_M_nearest 72 = .ok (.istore 11, 2) := by decide +kernel
theorem d_M_nearest_74 : decode c_M_nearest 74 = .ok (.iload 11, 2) := by decide +kernel
theorem d_M_nearest_76 : decode c_M_nearest 76 = .ok (.sipush 4096, 3) := by decide +kernel
theorem d_M_nearest_79 : decode c_M_nearest 79 = .ok (.if_icmp .ge 85, 3) := by decide +kernel
theorem d_M_nearest_82 : decode c_M_nearest 82 = .ok (.aload_n 0, 1) := by decide +kernel
theorem d_M_nearest_83 : decode c_M_nearest 83 = .ok (.getfield 7, 3) := by decide +kernel
theorem d_M_nearest_86 : decode c_M_nearest 86 = .ok (.iload 11, 2) := by decide +kernel
theorem d_M_nearest_88 : decode c_M_nearest 88 = .ok (.baload, 1) := by decide +kernel
theorem d_M_nearest_89 : decode c_M_nearest 89 = .ok (.ifCond .eq 69, 3) := by decide +kernel
theorem d_M_nearest_92 : decode c_M_nearest 92 = .ok (.aload_n 0, 1) := by decide +kernel
theorem d_M_nearest_93 : decode c_M_nearest 93 = .ok (.iload 11, 2) := by decide +kernel
theorem d_M_nearest_95 : decode c_M_nearest 95 = .ok (.iload_n 1, 1) := by decide +kernel
theorem d_M_nearest_96 : decode c_M_nearest 96 = .ok (.iload_n 2, 1) := by decide +kernel
theorem d_M_nearest_97 : decode c_M_nearest 97 = .ok (.invokevirtual 74, 3) := by decide +kernel
theorem d_M_nearest_100 : decode c_M_nearest 100 = .ok (.lstore 12, 2) := by decide +kernel
theorem d_M_nearest_102 : decode c_M_nearest 102 = .ok (.lload 12, 2) := by decide +kernel
theorem d_M_nearest_104 : decode c_M_nearest 104 = .ok (.lload 4, 2) := by decide +kernel
theorem d_M_nearest_106 : decode c_M_nearest 106 = .ok (.lcmp, 1) := by decide +kernel
theorem d_M_nearest_107 : decode c_M_nearest 107 = .ok (.ifCond .gt 18, 3) := by decide +kernel
theorem d_M_nearest_110 : decode c_M_nearest 110 = .ok (.lload 12, 2) := by decide +kernel
theorem d_M_nearest_112 : decode c_M_nearest 112 = .ok (.lload 4, 2) := by decide +kernel
theorem d_M_nearest_114 : decode c_M_nearest 114 = .ok (.lcmp, 1) := by decide +kernel
theorem d_M_nearest_115 : decode c_M_nearest 115 = .ok (.ifCond .ne 14, 3) := by decide +kernel
theorem d_M_nearest_118 : decode c_M_nearest 118 = .ok (.iload 11, 2) := by decide +kernel
theorem d_M_nearest_120 : decode c_M_nearest 120 = .ok (.iload 6, 2) := by decide +kernel
theorem d_M_nearest_122 : decode c_M_nearest 122 = .ok (.if_icmp .le 7, 3) := by decide +kernel
theorem d_M_nearest_125 : decode c_M_nearest 125 = .ok (.iconst 1, 1) := by decide +kernel
theorem d_M_nearest_126 : decode c_M_nearest 126 = .ok (.goto 4, 3) := by decide +kernel
theorem d_M_nearest_129 : decode c_M_nearest 129 = .ok (.iconst 0, 1) := by decide +kernel
theorem d_M_nearest_130 : decode c_M_nearest 130 = .ok (.istore 14, 2) := by decide +kernel
theorem d_M_nearest_132 : decode c_M_nearest 132 = .ok (.iload 14, 2) := by decide +kernel
theorem d_M_nearest_134 : decode c_M_nearest 134 = .ok (.ifCond .eq 24, 3) := by decide +kernel
theorem d_M_nearest_137 : decode c_M_nearest 137 = .ok (.iload 8, 2) := by decide +kernel
theorem d_M_nearest_139 : decode c_M_nearest 139 = .ok (.ifCond .lt 11, 3) := by decide +kernel
theorem d_M_nearest_142 : decode c_M_nearest 142 = .ok (.lload 12, 2) := by decide +kernel
theorem d_M_nearest_144 : decode c_M_nearest 144 = .ok (.lload 9, 2) := by decide +kernel
theorem d_M_nearest_146 : decode c_M_nearest 146 = .ok (.lcmp, 1) := by decide +kernel
theorem d_M_nearest_147 : decode c_M_nearest 147 = .ok (.ifCond .ge 11, 3) := by decide +kernel
theorem d_M_nearest_150 : decode c_M_nearest 150 = .ok (.iload 11, 2) := by decide +kernel
theorem d_M_nearest_152 : decode c_M_nearest 152 = .ok (.istore 8, 2) := by decide +kernel
theorem d_M_nearest_154 : decode c_M_nearest 154 = .ok (.lload 12, 2) := by decide +kernel
theorem d_M_nearest_156 : decode c_M_nearest 156 = .ok (.lstore 9, 2) := by decide +kernel
theorem d_M_nearest_158 : decode c_M_nearest 158 = .ok (.iinc 11 1, 3) := by decide +kernel
theorem d_M_nearest_161 : decode c_M_nearest 161 = .ok (.goto (-87), 3) := by decide +kernel
theorem d_M_nearest_164 : decode c_M_nearest 164 = .ok (.iload 8, 2) := by decide +kernel
theorem d_M_nearest_166 : decode c_M_nearest 166 = .ok (.ifCond .lt 7, 3) := by decide +kernel
theorem d_M_nearest_169 : decode c_M_nearest 169 = .ok (.iconst 1, 1) := by decide +kernel
theorem d_M_nearest_170 : decode c_M_nearest 170 = .ok (.goto 4, 3) := by decide +kernel
theorem d_M_nearest_173 : decode c_M_nearest 173 = .ok (.iconst 0, 1) := by decide +kernel
theorem d_M_nearest_174 : decode c_M_nearest 174 = .ok (.istore 7, 2) := by decide +kernel
theorem d_M_nearest_176 : decode c_M_nearest 176 = .ok (.iload 7, 2) := by decide +kernel
theorem d_M_nearest_178 : decode c_M_nearest 178 = .ok (.ifCond .eq 32, 3) := by decide +kernel
theorem d_M_nearest_181 : decode c_M_nearest 181 = .ok (.aload_n 0, 1) := by decide +kernel
theorem d_M_nearest_182 : decode c_M_nearest 182 = .ok (.getfield 26, 3) := by decide +kernel
theorem d_M_nearest_185 : decode c_M_nearest 185 = .ok (.aload_n 0, 1) := by decide +kernel
theorem d_M_nearest_186 : decode c_M_nearest 186 = .ok (.getfield 55, 3) := by decide +kernel
theorem d_M_nearest_189 : decode c_M_nearest 189 = .ok (.iload 8, 2) := by decide +kernel
theorem d_M_nearest_191 : decode c_M_nearest 191 = .ok (.iastore, 1) := by decide +kernel
theorem d_M_nearest_192 : decode c_M_nearest 192 = .ok (.aload_n 0, 1) := by decide +kernel
theorem d_M_nearest_193 : decode c_M_nearest 193 = .ok (.dup, 1) := by decide +kernel
theorem d_M_nearest_194 : decode c_M_nearest 194 = .ok (.getfield 55, 3) := by decide +kernel
theorem d_M_nearest_197 : decode c_M_nearest 197 = .ok (.iconst 1, 1) := by decide +kernel
theorem d_M_nearest_198 : decode c_M_nearest 198 = .ok (.iadd, 1) := by decide +kernel
theorem d_M_nearest_199 : decode c_M_nearest 199 = .ok (.putfield 55, 3) := by decide +kernel
theorem d_M_nearest_202 : decode c_M_nearest 202 = .ok (.lload 9, 2) := by decide +kernel
theorem d_M_nearest_204 : decode c_M_nearest 204 = .ok (.lstore 4, 2) := by decide +kernel
theorem d_M_nearest_206 : decode c_M_nearest 206 = .ok (.iload 8, 2) := by decide +kernel
theorem d_M_nearest_208 : decode c_M_nearest 208 = .ok (.istore 6, 2) := by decide +kernel
theorem d_M_nearest_210 : decode c_M_nearest 210 = .ok (.goto (-158), 3) := by decide +kernel
theorem d_M_nearest_213 : decode c_M_nearest 213 = .ok (.aload_n 0, 1) := by decide +kernel
theorem d_M_nearest_214 : decode c_M_nearest 214 = .ok (.getfield 55, 3) := by decide +kernel
theorem d_M_nearest_217 : decode c_M_nearest 217 = .ok (.ireturn, 1) := by decide +kernel
theorem d_M_away_0 : decode c_M_away 0 = .ok (.iload_n 2, 1) := by decide +kernel
theorem d_M_away_1 : decode c_M_away 1 = .ok (.i2l, 1) := by decide +kernel
theorem d_M_away_2 : decode c_M_away 2 = .ok (.aload_n 0, 1) := by decide +kernel
theorem d_M_away_3 : decode c_M_away 3 = .ok (.getfield 13, 3) := by decide +kernel
theorem d_M_away_6 : decode c_M_away 6 = .ok (.iload_n 1, 1) := by decide +kernel
theorem d_M_away_7 : decode c_M_away 7 = .ok (.iaload, 1) := by decide +kernel
theorem d_M_away_8 : decode c_M_away 8 = .ok (.i2l, 1) := by decide +kernel
theorem d_M_away_9 : decode c_M_away 9 = .ok (.aload_n 0, 1) := by decide +kernel
theorem d_M_away_10 : decode c_M_away 10 = .ok (.getfield 20, 3) := by decide +kernel
theorem d_M_away_13 : decode c_M_away 13 = .ok (.iload_n 1, 1) := by decide +kernel
theorem d_M_away_14 : decode c_M_away 14 = .ok (.iaload, 1) := by decide +kernel
theorem d_M_away_15 : decode c_M_away 15 = .ok (.i2l, 1) := by decide +kernel
theorem d_M_away_16 : decode c_M_away 16 = .ok (.invokestatic 68, 3) := by decide +kernel
theorem d_M_away_19 : decode c_M_away 19 = .ok (.lstore 4, 2) := by decide +kernel
theorem d_M_away_21 : decode c_M_away 21 = .ok (.iload_n 3, 1) := by decide +kernel
theorem d_M_away_22 : decode c_M_away 22 = .ok (.i2l, 1) := by decide +kernel
theorem d_M_away_23 : decode c_M_away 23 = .ok (.aload_n 0, 1) := by decide +kernel
theorem d_M_away_24 : decode c_M_away 24 = .ok (.getfield 17, 3) := by decide +kernel
theorem d_M_away_27 : decode c_M_away 27 = .ok (.iload_n 1, 1) := by decide +kernel
theorem d_M_away_28 : decode c_M_away 28 = .ok (.iaload, 1) := by decide +kernel
theorem d_M_away_29 : decode c_M_away 29 = .ok (.i2l, 1) := by decide +kernel
theorem d_M_away_30 : decode c_M_away 30 = .ok (.aload_n 0, 1) := by decide +kernel
theorem d_M_away_31 : decode c_M_away 31 = .ok (.getfield 23, 3) := by decide +kernel
theorem d_M_away_34 : decode c_M_away 34 = .ok (.iload_n 1, 1) := by decide +kernel
theorem d_M_away_35 : decode c_M_away 35 = .ok (.iaload, 1) := by decide +kernel
theorem d_M_away_36 : decode c_M_away 36 = .ok (.i2l, 1) := by decide +kernel
theorem d_M_away_37 : decode c_M_away 37 = .ok (.invokestatic 68, 3) := by decide +kernel
theorem d_M_away_40 : decode c_M_away 40 = .ok (.lstore 6, 2) := by decide +kernel
theorem d_M_away_42 : decode c_M_away 42 = .ok (.lload 4, 2) := by decide +kernel
theorem d_M_away_44 : decode c_M_away 44 = .ok (.lload 4, 2) := by decide +kernel
theorem d_M_away_46 : decode c_M_away 46 = .ok (.lmul, 1) := by decide +kernel
theorem d_M_away_47 : decode c_M_away 47 = .ok (.lload 6, 2) := by decide +kernel
theorem d_M_away_49 : decode c_M_away 49 = .ok (.lload 6, 2) := by decide +kernel
theorem d_M_away_51 : decode c_M_away 51 = .ok (.lmul, 1) := by decide +kernel
theorem d_M_away_52 : decode c_M_away 52 = .ok (.ladd, 1) := by decide +kernel
theorem d_M_away_53 : decode c_M_away 53 = .ok (.lreturn, 1) := by decide +kernel
theorem d_M_gap_0 : decode c_M_gap 0 = .ok (.lload_n 0, 1) := by decide +kernel
theorem d_M_gap_1 : decode c_M_gap 1 = .ok (.lload_n 2, 1) := by decide +kernel
theorem d_M_gap_2 : decode c_M_gap 2 = .ok (.lcmp, 1) := by decide +kernel
theorem d_M_gap_3 : decode c_M_gap 3 = .ok (.ifCond .ge 9, 3) := by decide +kernel
theorem d_M_gap_6 : decode c_M_gap 6 = .ok (.lload_n 2, 1) := by decide +kernel
theorem d_M_gap_7 : decode c_M_gap 7 = .ok (.lload_n 0, 1) := by decide +kernel
theorem d_M_gap_8 : decode c_M_gap 8 = .ok (.lsub, 1) := by decide +kernel
theorem d_M_gap_9 : decode c_M_gap 9 = .ok (.goto 18, 3) := by decide +kernel
theorem d_M_gap_12 : decode c_M_gap 12 = .ok (.lload_n 0, 1) := by decide +kernel
theorem d_M_gap_13 : decode c_M_gap 13 = .ok (.lload 4, 2) := by decide +kernel
theorem d_M_gap_15 : decode c_M_gap 15 = .ok (.lcmp, 1) := by decide +kernel
theorem d_M_gap_16 : decode c_M_gap 16 = .ok (.ifCond .le 10, 3) := by decide +kernel
theorem d_M_gap_19 : decode c_M_gap 19 = .ok (.lload_n 0, 1) := by decide +kernel
theorem d_M_gap_20 : decode c_M_gap 20 = .ok (.lload 4, 2) := by decide +kernel
theorem d_M_gap_22 : decode c_M_gap 22 = .ok (.lsub, 1) := by decide +kernel
theorem d_M_gap_23 : decode c_M_gap 23 = .ok (.goto 4, 3) := by decide +kernel
theorem d_M_gap_26 : decode c_M_gap 26 = .ok (.lconst 0, 1) := by decide +kernel
theorem d_M_gap_27 : decode c_M_gap 27 = .ok (.lreturn, 1) := by decide +kernel
theorem d_M_pairs_0 : decode c_M_pairs 0 = .ok (.aload_n 0, 1) := by decide +kernel
theorem d_M_pairs_1 : decode c_M_pairs 1 = .ok (.iconst 0, 1) := by decide +kernel
theorem d_M_pairs_2 : decode c_M_pairs 2 = .ok (.putfield 29, 3) := by decide +kernel
theorem d_M_pairs_5 : decode c_M_pairs 5 = .ok (.aload_n 0, 1) := by decide +kernel
theorem d_M_pairs_6 : decode c_M_pairs 6 = .ok (.iconst 0, 1) := by decide +kernel
theorem d_M_pairs_7 : decode c_M_pairs 7 = .ok (.putfield 55, 3) := by decide +kernel
theorem d_M_pairs_10 : decode c_M_pairs 10 = .ok (.iconst 0, 1) := by decide +kernel
theorem d_M_pairs_11 : decode c_M_pairs 11 = .ok (.istore_n 1, 1) := by decide +kernel
theorem d_M_pairs_12 : decode c_M_pairs 12 = .ok (.iconst 0, 1) := by decide +kernel
theorem d_M_pairs_13 : decode c_M_pairs 13 = .ok (.istore_n 2, 1) := by decide +kernel
theorem d_M_pairs_14 : decode c_M_pairs 14 = .ok (.iload_n 2, 1) := by decide +kernel
theorem d_M_pairs_15 : decode c_M_pairs 15 = .ok (.sipush 4096, 3) := by decide +kernel
theorem d_M_pairs_18 : decode c_M_pairs 18 = .ok (.if_icmp .ge 118, 3) := by decide +kernel
theorem d_M_pairs_21 : decode c_M_pairs 21 = .ok (.iload_n 2, 1) := by decide +kernel
theorem d_M_pairs_22 : decode c_M_pairs 22 = .ok (.iconst 1, 1) := by decide +kernel
theorem d_M_pairs_23 : decode c_M_pairs 23 = .ok (.iadd, 1) := by decide +kernel
theorem d_M_pairs_24 : decode c_M_pairs 24 = .ok (.istore_n 3, 1) := by decide +kernel
theorem d_M_pairs_25 : decode c_M_pairs 25 = .ok (.aload_n 0, 1) := by decide +kernel
theorem d_M_pairs_26 : decode c_M_pairs 26 = .ok (.getfield 7, 3) := by decide +kernel
theorem d_M_pairs_29 : decode c_M_pairs 29 = .ok (.iload_n 2, 1) := by decide +kernel
theorem d_M_pairs_30 : decode c_M_pairs 30 = .ok (.baload, 1) := by decide +kernel
theorem d_M_pairs_31 : decode c_M_pairs 31 = .ok (.ifCond .eq 99, 3) := by decide +kernel
theorem d_M_pairs_34 : decode c_M_pairs 34 = .ok (.iload_n 3, 1) := by decide +kernel
theorem d_M_pairs_35 : decode c_M_pairs 35 = .ok (.sipush 4096, 3) := by decide +kernel
theorem d_M_pairs_38 : decode c_M_pairs 38 = .ok (.if_icmp .ge 92, 3) := by decide +kernel
theorem d_M_pairs_41 : decode c_M_pairs 41 = .ok (.aload_n 0, 1) := by decide +kernel
theorem d_M_pairs_42 : decode c_M_pairs 42 = .ok (.getfield 7, 3) := by decide +kernel
theorem d_M_pairs_45 : decode c_M_pairs 45 = .ok (.iload_n 3, 1) := by decide +kernel
theorem d_M_pairs_46 : decode c_M_pairs 46 = .ok (.baload, 1) := by decide +kernel
theorem d_M_pairs_47 : decode c_M_pairs 47 = .ok (.ifCond .eq 77, 3) := by decide +kernel
theorem d_M_pairs_50 : decode c_M_pairs 50 = .ok (.aload_n 0, 1) := by decide +kernel
theorem d_M_pairs_51 : decode c_M_pairs 51 = .ok (.iload_n 3, 1) := by decide +kernel
theorem d_M_pairs_52 : decode c_M_pairs 52 = .ok (.aload_n 0, 1) := by decide +kernel
theorem d_M_pairs_53 : decode c_M_pairs 53 = .ok (.getfield 13, 3) := by decide +kernel
theorem d_M_pairs_56 : decode c_M_pairs 56 = .ok (.iload_n 2, 1) := by decide +kernel
theorem d_M_pairs_57 : decode c_M_pairs 57 = .ok (.iaload, 1) := by decide +kernel
theorem d_M_pairs_58 : decode c_M_pairs 58 = .ok (.aload_n 0, 1) := by decide +kernel
theorem d_M_pairs_59 : decode c_M_pairs 59 = .ok (.getfield 17, 3) := by decide +kernel
theorem d_M_pairs_62 : decode c_M_pairs 62 = .ok (.iload_n 2, 1) := by decide +kernel
theorem d_M_pairs_63 : decode c_M_pairs 63 = .ok (.iaload, 1) := by decide +kernel
theorem d_M_pairs_64 : decode c_M_pairs 64 = .ok (.aload_n 0, 1) := by decide +kernel
theorem d_M_pairs_65 : decode c_M_pairs 65 = .ok (.getfield 20, 3) := by decide +kernel
theorem d_M_pairs_68 : decode c_M_pairs 68 = .ok (.iload_n 2, 1) := by decide +kernel
theorem d_M_pairs_69 : decode c_M_pairs 69 = .ok (.iaload, 1) := by decide +kernel
theorem d_M_pairs_70 : decode c_M_pairs 70 = .ok (.aload_n 0, 1) := by decide +kernel
theorem d_M_pairs_71 : decode c_M_pairs 71 = .ok (.getfield 23, 3) := by decide +kernel
theorem d_M_pairs_74 : decode c_M_pairs 74 = .ok (.iload_n 2, 1) := by decide +kernel
theorem d_M_pairs_75 : decode c_M_pairs 75 = .ok (.iaload, 1) := by decide +kernel
theorem d_M_pairs_76 : decode c_M_pairs 76 = .ok (.invokevirtual 58, 3) := by decide +kernel
theorem d_M_pairs_79 : decode c_M_pairs 79 = .ok (.ifCond .eq 45, 3) := by decide +kernel
theorem d_M_pairs_82 : decode c_M_pairs 82 = .ok (.iload_n 1, 1) := by decide +kernel
theorem d_M_pairs_83 : decode c_M_pairs 83 = .ok (.sipush 2048, 3) := by decide +kernel
theorem d_M_pairs_86 : decode c_M_pairs 86 = .ok (.if_icmp .ge 35, 3) := by decide +kernel
theorem d_M_pairs_89 : decode c_M_pairs 89 = .ok (.aload_n 0, 1) := by decide +kernel
theorem d_M_pairs_90 : decode c_M_pairs 90 = .ok (.getfield 26, 3) := by decide +kernel
theorem d_M_pairs_93 : decode c_M_pairs 93 = .ok (.aload_n 0, 1) := by decide +kernel
theorem d_M_pairs_94 : decode c_M_pairs 94 = .ok (.getfield 55, 3) := by decide +kernel
theorem d_M_pairs_97 : decode c_M_pairs 97 = .ok (.iload_n 2, 1) := by decide +kernel
theorem d_M_pairs_98 : decode c_M_pairs 98 = .ok (.iastore, 1) := by decide +kernel
theorem d_M_pairs_99 : decode c_M_pairs 99 = .ok (.aload_n 0, 1) := by decide +kernel
theorem d_M_pairs_100 : decode c_M_pairs 100 = .ok (.getfield 26, 3) := by decide +kernel
theorem d_M_pairs_103 : decode c_M_pairs 103 = .ok (.aload_n 0, 1) := by decide +kernel
theorem d_M_pairs_104 : decode c_M_pairs 104 = .ok (.getfield 55, 3) := by decide +kernel
theorem d_M_pairs_107 : decode c_M_pairs 107 = .ok (.iconst 1, 1) := by decide +kernel
theorem d_M_pairs_108 : decode c_M_pairs 108 = .ok (.iadd, 1) := by decide +kernel
theorem d_M_pairs_109 : decode c_M_pairs 109 = .ok (.iload_n 3, 1) := by decide +kernel
theorem d_M_pairs_110 : decode c_M_pairs 110 = .ok (.iastore, 1) := by decide +kernel
theorem d_M_pairs_111 : decode c_M_pairs 111 = .ok (.aload_n 0, 1) := by decide +kernel
theorem d_M_pairs_112 : decode c_M_pairs 112 = .ok (.dup, 1) := by decide +kernel
theorem d_M_pairs_113 : decode c_M_pairs 113 = .ok (.getfield 55, 3) := by decide +kernel
theorem d_M_pairs_116 : decode c_M_pairs 116 = .ok (.iconst 2, 1) := by decide +kernel
theorem d_M_pairs_117 : decode c_M_pairs 117 = .ok (.iadd, 1) := by decide +kernel
theorem d_M_pairs_118 : decode c_M_pairs 118 = .ok (.putfield 55, 3) := by decide +kernel
theorem d_M_pairs_121 : decode c_M_pairs 121 = .ok (.iinc 1 1, 3) := by decide +kernel
theorem d_M_pairs_124 : decode c_M_pairs 124 = .ok (.iinc 3 1, 3) := by decide +kernel
theorem d_M_pairs_127 : decode c_M_pairs 127 = .ok (.goto (-102), 3) := by decide +kernel
theorem d_M_pairs_130 : decode c_M_pairs 130 = .ok (.iinc 2 1, 3) := by decide +kernel
theorem d_M_pairs_133 : decode c_M_pairs 133 = .ok (.goto (-119), 3) := by decide +kernel
theorem d_M_pairs_136 : decode c_M_pairs 136 = .ok (.iload_n 1, 1) := by decide +kernel
theorem d_M_pairs_137 : decode c_M_pairs 137 = .ok (.ireturn, 1) := by decide +kernel
theorem d_M_distance_0 : decode c_M_distance 0 = .ok (.aload_n 0, 1) := by decide +kernel
theorem d_M_distance_1 : decode c_M_distance 1 = .ok (.iconst 0, 1) := by decide +kernel
theorem d_M_distance_2 : decode c_M_distance 2 = .ok (.putfield 29, 3) := by decide +kernel
theorem d_M_distance_5 : decode c_M_distance 5 = .ok (.aload_n 0, 1) := by decide +kernel
theorem d_M_distance_6 : decode c_M_distance 6 = .ok (.iload_n 1, 1) := by decide +kernel
theorem d_M_distance_7 : decode c_M_distance 7 = .ok (.invokevirtual 78, 3) := by decide +kernel
theorem d_M_distance_10 : decode c_M_distance 10 = .ok (.ifCond .ne 10, 3) := by decide +kernel
theorem d_M_distance_13 : decode c_M_distance 13 = .ok (.aload_n 0, 1) := by decide +kernel
theorem d_M_distance_14 : decode c_M_distance 14 = .ok (.iconst 1, 1) := by decide +kernel
theorem d_M_distance_15 : decode c_M_distance 15 = .ok (.invokevirtual 43, 3) := by decide +kernel
theorem d_M_distance_18 : decode c_M_distance 18 = .ok (.i2l, 1) := by decide +kernel
theorem d_M_distance_19 : decode c_M_distance 19 = .ok (.lreturn, 1) := by decide +kernel
theorem d_M_distance_20 : decode c_M_distance 20 = .ok (.iload_n 2, 1) := by decide +kernel
theorem d_M_distance_21 : decode c_M_distance 21 = .ok (.invokestatic 39, 3) := by decide +kernel
theorem d_M_distance_24 : decode c_M_distance 24 = .ok (.ifCond .ne 10, 3) := by decide +kernel
theorem d_M_distance_27 : decode c_M_distance 27 = .ok (.iload_n 3, 1) := by decide +kernel
theorem d_M_distance_28 : decode c_M_distance 28 = .ok (.invokestatic 39, 3) := by decide +kernel
theorem d_M_distance_31 : decode c_M_distance 31 = .ok (.ifCond .eq 12, 3) := by decide +kernel
theorem d_M_distance_34 : decode c_M_distance 34 = .ok (.aload_n 0, 1) := by decide +kernel
theorem d_M_distance_35 : decode c_M_distance 35 = .ok (.iconst 2, 1) := by decide +kernel
theorem d_M_distance_36 : decode c_M_distance 36 = .ok (.invokevirtual 43, 3) := by decide +kernel
theorem d_M_distance_39 : decode c_M_distance 39 = .ok (.i2l, 1) := by decide +kernel
theorem d_M_distance_40 : decode c_M_distance 40 = .ok (.goto 10, 3) := by decide +kernel
theorem d_M_distance_43 : decode c_M_distance 43 = .ok (.aload_n 0, 1) := by decide +kernel
theorem d_M_distance_44 : decode c_M_distance 44 = .ok (.iload_n 1, 1) := by decide +kernel
theorem d_M_distance_45 : decode c_M_distance 45 = .ok (.iload_n 2, 1) := by decide +kernel
theorem d_M_distance_46 : decode c_M_distance 46 = .ok (.iload_n 3, 1) := by decide +kernel
theorem d_M_distance_47 : decode c_M_distance 47 = .ok (.invokevirtual 74, 3) := by decide +kernel
theorem d_M_distance_50 : decode c_M_distance 50 = .ok (.lreturn, 1) := by decide +kernel
theorem d_M_isThere_0 : decode c_M_isThere 0 = .ok (.iload_n 1, 1) := by decide +kernel
theorem d_M_isThere_1 : decode c_M_isThere 1 = .ok (.iconst 0, 1) := by decide +kernel
theorem d_M_isThere_2 : decode c_M_isThere 2 = .ok (.sipush 4095, 3) := by decide +kernel
theorem d_M_isThere_5 : decode c_M_isThere 5 = .ok (.invokestatic 35, 3) := by decide +kernel
theorem d_M_isThere_8 : decode c_M_isThere 8 = .ok (.ifCond .eq 16, 3) := by decide +kernel
theorem d_M_isThere_11 : decode c_M_isThere 11 = .ok (.aload_n 0, 1) := by decide +kernel
theorem d_M_isThere_12 : decode c_M_isThere 12 = .ok (.getfield 7, 3) := by decide +kernel
theorem d_M_isThere_15 : decode c_M_isThere 15 = .ok (.iload_n 1, 1) := by decide +kernel
theorem d_M_isThere_16 : decode c_M_isThere 16 = .ok (.baload, 1) := by decide +kernel
theorem d_M_isThere_17 : decode c_M_isThere 17 = .ok (.ifCond .eq 7, 3) := by decide +kernel
theorem d_M_isThere_20 : decode c_M_isThere 20 = .ok (.iconst 1, 1) := by decide +kernel
theorem d_M_isThere_21 : decode c_M_isThere 21 = .ok (.goto 4, 3) := by decide +kernel
theorem d_M_isThere_24 : decode c_M_isThere 24 = .ok (.iconst 0, 1) := by decide +kernel
theorem d_M_isThere_25 : decode c_M_isThere 25 = .ok (.ireturn, 1) := by decide +kernel
