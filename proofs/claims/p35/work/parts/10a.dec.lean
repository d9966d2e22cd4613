theorem dL_cell_0 : decode cL_cell 0 = .ok (.iload_n 1, 1) := by decide +kernel
theorem dL_cell_1 : decode cL_cell 1 = .ok (.aload_n 0, 1) := by decide +kernel
theorem dL_cell_2 : decode cL_cell 2 = .ok (.arraylength, 1) := by decide +kernel
theorem dL_cell_3 : decode cL_cell 3 = .ok (.if_icmp .ge 9, 3) := by decide +kernel
theorem dL_cell_6 : decode cL_cell 6 = .ok (.aload_n 0, 1) := by decide +kernel
theorem dL_cell_7 : decode cL_cell 7 = .ok (.iload_n 1, 1) := by decide +kernel
theorem dL_cell_8 : decode cL_cell 8 = .ok (.iaload, 1) := by decide +kernel
theorem dL_cell_9 : decode cL_cell 9 = .ok (.goto 11, 3) := by decide +kernel
theorem dL_cell_12 : decode cL_cell 12 = .ok (.ldc 7, 2) := by decide +kernel
theorem dL_cell_14 : decode cL_cell 14 = .ok (.iload_n 1, 1) := by decide +kernel
theorem dL_cell_15 : decode cL_cell 15 = .ok (.imul, 1) := by decide +kernel
theorem dL_cell_16 : decode cL_cell 16 = .ok (.sipush 30703, 3) := by decide +kernel
theorem dL_cell_19 : decode cL_cell 19 = .ok (.iadd, 1) := by decide +kernel
theorem dL_cell_20 : decode cL_cell 20 = .ok (.ireturn, 1) := by decide +kernel
theorem dL_low_0 : decode cL_low 0 = .ok (.iload_n 0, 1) := by decide +kernel
theorem dL_low_1 : decode cL_low 1 = .ok (.ldc 8, 2) := by decide +kernel
theorem dL_low_3 : decode cL_low 3 = .ok (.iand, 1) := by decide +kernel
theorem dL_low_4 : decode cL_low 4 = .ok (.iload_n 1, 1) := by decide +kernel
theorem dL_low_5 : decode cL_low 5 = .ok (.irem, 1) := by decide +kernel
theorem dL_low_6 : decode cL_low 6 = .ok (.ireturn, 1) := by decide +kernel
theorem dL_find_0 : decode cL_find 0 = .ok (.iconst (-1), 1) := by decide +kernel
theorem dL_find_1 : decode cL_find 1 = .ok (.istore_n 3, 1) := by decide +kernel
theorem dL_find_2 : decode cL_find 2 = .ok (.iconst 0, 1) := by decide +kernel
theorem dL_find_3 : decode cL_find 3 = .ok (.istore 4, 2) := by decide +kernel
theorem dL_find_5 : decode cL_find 5 = .ok (.iconst 0, 1) := by decide +kernel
theorem dL_find_6 : decode cL_find 6 = .ok (.istore 5, 2) := by decide +kernel
theorem dL_find_8 : decode cL_find 8 = .ok (.iload 5, 2) := by decide +kernel
theorem dL_find_10 : decode cL_find 10 = .ok (.bipush 8, 2) := by decide +kernel
theorem dL_find_12 : decode cL_find 12 = .ok (.if_icmp .ge 62, 3) := by decide +kernel
theorem dL_find_15 : decode cL_find 15 = .ok (.aload_n 0, 1) := by decide +kernel
theorem dL_find_16 : decode cL_find 16 = .ok (.iload_n 2, 1) := by decide +kernel
theorem dL_find_17 : decode cL_find 17 = .ok (.iconst 4, 1) := by decide +kernel
theorem dL_find_18 : decode cL_find 18 = .ok (.irem, 1) := by decide +kernel
theorem dL_find_19 : decode cL_find 19 = .ok (.iload 5, 2) := by decide +kernel
theorem dL_find_21 : decode cL_find 21 = .ok (.invokevirtual 9, 3) := by decide +kernel
theorem dL_find_24 : decode cL_find 24 = .ok (.sipush 256, 3) := by decide +kernel
theorem dL_find_27 : decode cL_find 27 = .ok (.iload_n 1, 1) := by decide +kernel
theorem dL_find_28 : decode cL_find 28 = .ok (.imul, 1) := by decide +kernel
theorem dL_find_29 : decode cL_find 29 = .ok (.iload_n 2, 1) := by decide +kernel
theorem dL_find_30 : decode cL_find 30 = .ok (.iadd, 1) := by decide +kernel
theorem dL_find_31 : decode cL_find 31 = .ok (.if_icmp .ne 7, 3) := by decide +kernel
theorem dL_find_34 : decode cL_find 34 = .ok (.iconst 1, 1) := by decide +kernel
theorem dL_find_35 : decode cL_find 35 = .ok (.goto 4, 3) := by decide +kernel
theorem dL_find_38 : decode cL_find 38 = .ok (.iconst 0, 1) := by decide +kernel
theorem dL_find_39 : decode cL_find 39 = .ok (.istore 6, 2) := by decide +kernel
theorem dL_find_41 : decode cL_find 41 = .ok (.iload 6, 2) := by decide +kernel
theorem dL_find_43 : decode cL_find 43 = .ok (.ifCond .eq 8, 3) := by decide +kernel
theorem dL_find_46 : decode cL_find 46 = .ok (.iload 5, 2) := by decide +kernel
theorem dL_find_48 : decode cL_find 48 = .ok (.goto 4, 3) := by decide +kernel
theorem dL_find_51 : decode cL_find 51 = .ok (.iload_n 3, 1) := by decide +kernel
theorem dL_find_52 : decode cL_find 52 = .ok (.istore_n 3, 1) := by decide +kernel
theorem dL_find_53 : decode cL_find 53 = .ok (.iload 4, 2) := by decide +kernel
theorem dL_find_55 : decode cL_find 55 = .ok (.iload 6, 2) := by decide +kernel
theorem dL_find_57 : decode cL_find 57 = .ok (.ifCond .eq 7, 3) := by decide +kernel
theorem dL_find_60 : decode cL_find 60 = .ok (.iconst 1, 1) := by decide +kernel
theorem dL_find_61 : decode cL_find 61 = .ok (.goto 4, 3) := by decide +kernel
theorem dL_find_64 : decode cL_find 64 = .ok (.iconst 0, 1) := by decide +kernel
theorem dL_find_65 : decode cL_find 65 = .ok (.iadd, 1) := by decide +kernel
theorem dL_find_66 : decode cL_find 66 = .ok (.istore 4, 2) := by decide +kernel
theorem dL_find_68 : decode cL_find 68 = .ok (.iinc 5 1, 3) := by decide +kernel
theorem dL_find_71 : decode cL_find 71 = .ok (.goto (-63), 3) := by decide +kernel
theorem dL_find_74 : decode cL_find 74 = .ok (.iload 4, 2) := by decide +kernel
theorem dL_find_76 : decode cL_find 76 = .ok (.iconst 1, 1) := by decide +kernel
theorem dL_find_77 : decode cL_find 77 = .ok (.if_icmp .le 11, 3) := by decide +kernel
theorem dL_find_80 : decode cL_find 80 = .ok (.bipush 100, 2) := by decide +kernel
theorem dL_find_82 : decode cL_find 82 = .ok (.iload 4, 2) := by decide +kernel
theorem dL_find_84 : decode cL_find 84 = .ok (.imul, 1) := by decide +kernel
theorem dL_find_85 : decode cL_find 85 = .ok (.goto 4, 3) := by decide +kernel
theorem dL_find_88 : decode cL_find 88 = .ok (.iload_n 3, 1) := by decide +kernel
theorem dL_find_89 : decode cL_find 89 = .ok (.ireturn, 1) := by decide +kernel
theorem dL_all_0 : decode cL_all 0 = .ok (.aload_n 0, 1) := by decide +kernel
theorem dL_all_1 : decode cL_all 1 = .ok (.iconst 0, 1) := by decide +kernel
theorem dL_all_2 : decode cL_all 2 = .ok (.iconst 0, 1) := by decide +kernel
theorem dL_all_3 : decode cL_all 3 = .ok (.invokevirtual 15, 3) := by decide +kernel
theorem dL_all_6 : decode cL_all 6 = .ok (.aload_n 0, 1) := by decide +kernel
theorem dL_all_7 : decode cL_all 7 = .ok (.iconst 1, 1) := by decide +kernel
theorem dL_all_8 : decode cL_all 8 = .ok (.iconst 0, 1) := by decide +kernel
theorem dL_all_9 : decode cL_all 9 = .ok (.invokevirtual 15, 3) := by decide +kernel
theorem dL_all_12 : decode cL_all 12 = .ok (.iadd, 1) := by decide +kernel
theorem dL_all_13 : decode cL_all 13 = .ok (.aload_n 0, 1) := by decide +kernel
theorem dL_all_14 : decode cL_all 14 = .ok (.iconst 2, 1) := by decide +kernel
theorem dL_all_15 : decode cL_all 15 = .ok (.iconst 0, 1) := by decide +kernel
theorem dL_all_16 : decode cL_all 16 = .ok (.invokevirtual 15, 3) := by decide +kernel
theorem dL_all_19 : decode cL_all 19 = .ok (.iadd, 1) := by decide +kernel
theorem dL_all_20 : decode cL_all 20 = .ok (.aload_n 0, 1) := by decide +kernel
theorem dL_all_21 : decode cL_all 21 = .ok (.iconst 3, 1) := by decide +kernel
theorem dL_all_22 : decode cL_all 22 = .ok (.iconst 0, 1) := by decide +kernel
theorem dL_all_23 : decode cL_all 23 = .ok (.invokevirtual 15, 3) := by decide +kernel
theorem dL_all_26 : decode cL_all 26 = .ok (.iadd, 1) := by decide +kernel
theorem dL_all_27 : decode cL_all 27 = .ok (.ireturn, 1) := by decide +kernel
theorem dL_fits_0 : decode cL_fits 0 = .ok (.bipush 8, 2) := by decide +kernel
theorem dL_fits_2 : decode cL_fits 2 = .ok (.newarray .int, 2) := by decide +kernel
theorem dL_fits_4 : decode cL_fits 4 = .ok (.astore_n 1, 1) := by decide +kernel
theorem dL_fits_5 : decode cL_fits 5 = .ok (.iconst 4, 1) := by decide +kernel
theorem dL_fits_6 : decode cL_fits 6 = .ok (.newarray .int, 2) := by decide +kernel
theorem dL_fits_8 : decode cL_fits 8 = .ok (.astore_n 2, 1) := by decide +kernel
theorem dL_fits_9 : decode cL_fits 9 = .ok (.iconst 0, 1) := by decide +kernel
theorem dL_fits_10 : decode cL_fits 10 = .ok (.istore_n 3, 1) := by decide +kernel
theorem dL_fits_11 : decode cL_fits 11 = .ok (.iload_n 3, 1) := by decide +kernel
theorem dL_fits_12 : decode cL_fits 12 = .ok (.bipush 8, 2) := by decide +kernel
theorem dL_fits_14 : decode cL_fits 14 = .ok (.if_icmp .ge 148, 3) := by decide +kernel
theorem dL_fits_17 : decode cL_fits 17 = .ok (.aload_n 2, 1) := by decide +kernel
theorem dL_fits_18 : decode cL_fits 18 = .ok (.aload_n 0, 1) := by decide +kernel
theorem dL_fits_19 : decode cL_fits 19 = .ok (.iload_n 3, 1) := by decide +kernel
theorem dL_fits_20 : decode cL_fits 20 = .ok (.invokevirtual 19, 3) := by decide +kernel
theorem dL_fits_23 : decode cL_fits 23 = .ok (.dup2, 1) := by decide +kernel
theorem dL_fits_24 : decode cL_fits 24 = .ok (.iaload, 1) := by decide +kernel
theorem dL_fits_25 : decode cL_fits 25 = .ok (.iconst 1, 1) := by decide +kernel
theorem dL_fits_26 : decode cL_fits 26 = .ok (.iadd, 1) := by decide +kernel
theorem dL_fits_27 : decode cL_fits 27 = .ok (.iastore, 1) := by decide +kernel
theorem dL_fits_28 : decode cL_fits 28 = .ok (.iconst 0, 1) := by decide +kernel
theorem dL_fits_29 : decode cL_fits 29 = .ok (.istore 4, 2) := by decide +kernel
theorem dL_fits_31 : decode cL_fits 31 = .ok (.iload 4, 2) := by decide +kernel
theorem dL_fits_33 : decode cL_fits 33 = .ok (.iconst 4, 1) := by decide +kernel
theorem dL_fits_34 : decode cL_fits 34 = .ok (.if_icmp .ge 122, 3) := by decide +kernel
theorem dL_fits_37 : decode cL_fits 37 = .ok (.aload_n 0, 1) := by decide +kernel
theorem dL_fits_38 : decode cL_fits 38 = .ok (.iload 4, 2) := by decide +kernel
theorem dL_fits_40 : decode cL_fits 40 = .ok (.iload_n 3, 1) := by decide +kernel
theorem dL_fits_41 : decode cL_fits 41 = .ok (.invokevirtual 9, 3) := by decide +kernel
theorem dL_fits_44 : decode cL_fits 44 = .ok (.istore 5, 2) := by decide +kernel
theorem dL_fits_46 : decode cL_fits 46 = .ok (.iload 5, 2) := by decide +kernel
theorem dL_fits_48 : decode cL_fits 48 = .ok (.ifCond .lt 102, 3) := by decide +kernel
theorem dL_fits_51 : decode cL_fits 51 = .ok (.aload_n 1, 1) := by decide +kernel
theorem dL_fits_52 : decode cL_fits 52 = .ok (.iload 5, 2) := by decide +kernel
theorem dL_fits_54 : decode cL_fits 54 = .ok (.sipush 256, 3) := by decide +kernel
theorem dL_fits_57 : decode cL_fits 57 = .ok (.idiv, 1) := by decide +kernel
theorem dL_fits_58 : decode cL_fits 58 = .ok (.dup2, 1) := by decide +kernel
theorem dL_fits_59 : decode cL_fits 59 = .ok (.iaload, 1) := by decide +kernel
theorem dL_fits_60 : decode cL_fits 60 = .ok (.iconst 1, 1) := by decide +kernel
theorem dL_fits_61 : decode cL_fits 61 = .ok (.iadd, 1) := by decide +kernel
theorem dL_fits_62 : decode cL_fits 62 = .ok (.iastore, 1) := by decide +kernel
theorem dL_fits_63 : decode cL_fits 63 = .ok (.aload_n 1, 1) := by decide +kernel
theorem dL_fits_64 : decode cL_fits 64 = .ok (.iconst 4, 1) := by decide +kernel
theorem dL_fits_65 : decode cL_fits 65 = .ok (.iload 5, 2) := by decide +kernel
theorem dL_fits_67 : decode cL_fits 67 = .ok (.sipush 256, 3) := by decide +kernel
theorem dL_fits_70 : decode cL_fits 70 = .ok (.idiv, 1) := by decide +kernel
theorem dL_fits_71 : decode cL_fits 71 = .ok (.iadd, 1) := by decide +kernel
theorem dL_fits_72 : decode cL_fits 72 = .ok (.dup2, 1) := by decide +kernel
theorem dL_fits_73 : decode cL_fits 73 = .ok (.iaload, 1) := by decide +kernel
theorem dL_fits_74 : decode cL_fits 74 = .ok (.aload_n 0, 1) := by decide +kernel
theorem dL_fits_75 : decode cL_fits 75 = .ok (.iload_n 3, 1) := by decide +kernel
theorem dL_fits_76 : decode cL_fits 76 = .ok (.invokevirtual 19, 3) := by decide +kernel
theorem dL_fits_79 : decode cL_fits 79 = .ok (.iload 5, 2) := by decide +kernel
theorem dL_fits_81 : decode cL_fits 81 = .ok (.sipush 256, 3) := by decide +kernel
theorem dL_fits_84 : decode cL_fits 84 = .ok (.idiv, 1) := by decide +kernel
theorem dL_fits_85 : decode cL_fits 85 = .ok (.if_icmp .ne 7, 3) := by decide +kernel
theorem dL_fits_88 : decode cL_fits 88 = .ok (.iconst 0, 1) := by decide +kernel
theorem dL_fits_89 : decode cL_fits 89 = .ok (.goto 4, 3) := by decide +kernel
theorem dL_fits_92 : decode cL_fits 92 = .ok (.iconst 1, 1) := by decide +kernel
theorem dL_fits_93 : decode cL_fits 93 = .ok (.iadd, 1) := by decide +kernel
theorem dL_fits_94 : decode cL_fits 94 = .ok (.iastore, 1) := by decide +kernel
theorem dL_fits_95 : decode cL_fits 95 = .ok (.iload 5, 2) := by decide +kernel
theorem dL_fits_97 : decode cL_fits 97 = .ok (.sipush 256, 3) := by decide +kernel
theorem dL_fits_100 : decode cL_fits 100 = .ok (.irem, 1) := by decide +kernel
theorem dL_fits_101 : decode cL_fits 101 = .ok (.iconst 4, 1) := by decide +kernel
theorem dL_fits_102 : decode cL_fits 102 = .ok (.irem, 1) := by decide +kernel
theorem dL_fits_103 : decode cL_fits 103 = .ok (.iload 4, 2) := by decide +kernel
theorem dL_fits_105 : decode cL_fits 105 = .ok (.if_icmp .ne 43, 3) := by decide +kernel
theorem dL_fits_108 : decode cL_fits 108 = .ok (.aload_n 0, 1) := by decide +kernel
theorem dL_fits_109 : decode cL_fits 109 = .ok (.iload 5, 2) := by decide +kernel
theorem dL_fits_111 : decode cL_fits 111 = .ok (.sipush 256, 3) := by decide +kernel
theorem dL_fits_114 : decode cL_fits 114 = .ok (.idiv, 1) := by decide +kernel
theorem dL_fits_115 : decode cL_fits 115 = .ok (.iload 5, 2) := by decide +kernel
theorem dL_fits_117 : decode cL_fits 117 = .ok (.sipush 256, 3) := by decide +kernel
theorem dL_fits_120 : decode cL_fits 120 = .ok (.irem, 1) := by decide +kernel
theorem dL_fits_121 : decode cL_fits 121 = .ok (.invokestatic 23, 3) := by decide +kernel
theorem dL_fits_124 : decode cL_fits 124 = .ok (.iload_n 3, 1) := by decide +kernel
theorem dL_fits_125 : decode cL_fits 125 = .ok (.if_icmp .ne 23, 3) := by decide +kernel
theorem dL_fits_128 : decode cL_fits 128 = .ok (.aload_n 0, 1) := by decide +kernel
theorem dL_fits_129 : decode cL_fits 129 = .ok (.iload 5, 2) := by decide +kernel
theorem dL_fits_131 : decode cL_fits 131 = .ok (.sipush 256, 3) := by decide +kernel
theorem dL_fits_134 : decode cL_fits 134 = .ok (.idiv, 1) := by decide +kernel
theorem dL_fits_135 : decode cL_fits 135 = .ok (.iload 5, 2) := by decide +kernel
theorem dL_fits_137 : decode cL_fits 137 = .ok (.sipush 256, 3) := by decide +kernel
theorem dL_fits_140 : decode cL_fits 140 = .ok (.irem, 1) := by decide +kernel
theorem dL_fits_141 : decode cL_fits 141 = .ok (.invokevirtual 29, 3) := by decide +kernel
theorem dL_fits_144 : decode cL_fits 144 = .ok (.iconst 1, 1) := by decide +kernel
theorem dL_fits_145 : decode cL_fits 145 = .ok (.if_icmp .eq 5, 3) := by decide +kernel
theorem dL_fits_148 : decode cL_fits 148 = .ok (.iconst 0, 1) := by decide +kernel
theorem dL_fits_149 : decode cL_fits 149 = .ok (.ireturn, 1) := by decide +kernel
theorem dL_fits_150 : decode cL_fits 150 = .ok (.iinc 4 1, 3) := by decide +kernel
theorem dL_fits_153 : decode cL_fits 153 = .ok (.goto (-122), 3) := by decide +kernel
theorem dL_fits_156 : decode cL_fits 156 = .ok (.iinc 3 1, 3) := by decide +kernel
theorem dL_fits_159 : decode cL_fits 159 = .ok (.goto (-148), 3) := by decide +kernel
theorem dL_fits_162 : decode cL_fits 162 = .ok (.iconst 0, 1) := by decide +kernel
theorem dL_fits_163 : decode cL_fits 163 = .ok (.istore_n 3, 1) := by decide +kernel
theorem dL_fits_164 : decode cL_fits 164 = .ok (.iconst 0, 1) := by decide +kernel
theorem dL_fits_165 : decode cL_fits 165 = .ok (.istore 4, 2) := by decide +kernel
theorem dL_fits_167 : decode cL_fits 167 = .ok (.iconst 0, 1) := by decide +kernel
theorem dL_fits_168 : decode cL_fits 168 = .ok (.istore 5, 2) := by decide +kernel
theorem dL_fits_170 : decode cL_fits 170 = .ok (.iconst 0, 1) := by decide +kernel
theorem dL_fits_171 : decode cL_fits 171 = .ok (.istore 6, 2) := by decide +kernel
theorem dL_fits_173 : decode cL_fits 173 = .ok (.iload 6, 2) := by decide +kernel
theorem dL_fits_175 : decode cL_fits 175 = .ok (.iconst 4, 1) := by decide +kernel
theorem dL_fits_176 : decode cL_fits 176 = .ok (.if_icmp .ge 151, 3) := by decide +kernel
theorem dL_fits_179 : decode cL_fits 179 = .ok (.iload_n 3, 1) := by decide +kernel
theorem dL_fits_180 : decode cL_fits 180 = .ok (.aload_n 0, 1) := by decide +kernel
theorem dL_fits_181 : decode cL_fits 181 = .ok (.iload 6, 2) := by decide +kernel
theorem dL_fits_183 : decode cL_fits 183 = .ok (.invokevirtual 32, 3) := by decide +kernel
theorem dL_fits_186 : decode cL_fits 186 = .ok (.iadd, 1) := by decide +kernel
theorem dL_fits_187 : decode cL_fits 187 = .ok (.istore_n 3, 1) := by decide +kernel
theorem dL_fits_188 : decode cL_fits 188 = .ok (.iload 4, 2) := by decide +kernel
theorem dL_fits_190 : decode cL_fits 190 = .ok (.aload_n 0, 1) := by decide +kernel
theorem dL_fits_191 : decode cL_fits 191 = .ok (.iload 6, 2) := by decide +kernel
theorem dL_fits_193 : decode cL_fits 193 = .ok (.invokevirtual 32, 3) := by decide +kernel
theorem dL_fits_196 : decode cL_fits 196 = .ok (.aload_n 2, 1) := by decide +kernel
theorem dL_fits_197 : decode cL_fits 197 = .ok (.iload 6, 2) := by decide +kernel
theorem dL_fits_199 : decode cL_fits 199 = .ok (.iaload, 1) := by decide +kernel
theorem dL_fits_200 : decode cL_fits 200 = .ok (.if_icmp .le 17, 3) := by decide +kernel
theorem dL_fits_203 : decode cL_fits 203 = .ok (.aload_n 0, 1) := by decide +kernel
theorem dL_fits_204 : decode cL_fits 204 = .ok (.iload 6, 2) := by decide +kernel
theorem dL_fits_206 : decode cL_fits 206 = .ok (.invokevirtual 32, 3) := by decide +kernel
theorem dL_fits_209 : decode cL_fits 209 = .ok (.aload_n 2, 1) := by decide +kernel
theorem dL_fits_210 : decode cL_fits 210 = .ok (.iload 6, 2) := by decide +kernel
theorem dL_fits_212 : decode cL_fits 212 = .ok (.iaload, 1) := by decide +kernel
theorem dL_fits_213 : decode cL_fits 213 = .ok (.isub, 1) := by decide +kernel
theorem dL_fits_214 : decode cL_fits 214 = .ok (.goto 4, 3) := by decide +kernel
theorem dL_fits_217 : decode cL_fits 217 = .ok (.iconst 0, 1) := by decide +kernel
theorem dL_fits_218 : decode cL_fits 218 = .ok (.iadd, 1) := by decide +kernel
theorem dL_fits_219 : decode cL_fits 219 = .ok (.istore 4, 2) := by decide +kernel
theorem dL_fits_221 : decode cL_fits 221 = .ok (.iload 5, 2) := by decide +kernel
theorem dL_fits_223 : decode cL_fits 223 = .ok (.aload_n 0, 1) := by decide +kernel
theorem dL_fits_224 : decode cL_fits 224 = .ok (.iload 6, 2) := by decide +kernel
theorem dL_fits_226 : decode cL_fits 226 = .ok (.iconst 0, 1) := by decide +kernel
theorem dL_fits_227 : decode cL_fits 227 = .ok (.invokevirtual 35, 3) := by decide +kernel
theorem dL_fits_230 : decode cL_fits 230 = .ok (.aload_n 0, 1) := by decide +kernel
theorem dL_fits_231 : decode cL_fits 231 = .ok (.iload 6, 2) := by decide +kernel
theorem dL_fits_233 : decode cL_fits 233 = .ok (.iconst 1, 1) := by decide +kernel
theorem dL_fits_234 : decode cL_fits 234 = .ok (.invokevirtual 35, 3) := by decide +kernel
theorem dL_fits_237 : decode cL_fits 237 = .ok (.iadd, 1) := by decide +kernel
theorem dL_fits_238 : decode cL_fits 238 = .ok (.aload_n 0, 1) := by decide +kernel
theorem dL_fits_239 : decode cL_fits 239 = .ok (.iload 6, 2) := by decide +kernel
theorem dL_fits_241 : decode cL_fits 241 = .ok (.iconst 2, 1) := by decide +kernel
theorem dL_fits_242 : decode cL_fits 242 = .ok (.invokevirtual 35, 3) := by decide +kernel
theorem dL_fits_245 : decode cL_fits 245 = .ok (.iadd, 1) := by decide +kernel
theorem dL_fits_246 : decode cL_fits 246 = .ok (.iadd, 1) := by decide +kernel
theorem dL_fits_247 : decode cL_fits 247 = .ok (.istore 5, 2) := by decide +kernel
theorem dL_fits_249 : decode cL_fits 249 = .ok (.aload_n 0, 1) := by decide +kernel
theorem dL_fits_250 : decode cL_fits 250 = .ok (.iload 6, 2) := by decide +kernel
theorem dL_fits_252 : decode cL_fits 252 = .ok (.invokevirtual 38, 3) := by decide +kernel
theorem dL_fits_255 : decode cL_fits 255 = .ok (.aload_n 2, 1) := by decide +kernel
theorem dL_fits_256 : decode cL_fits 256 = .ok (.iload 6, 2) := by decide +kernel
theorem dL_fits_258 : decode cL_fits 258 = .ok (.iaload, 1) := by decide +kernel
theorem dL_fits_259 : decode cL_fits 259 = .ok (.if_icmp .ne 60, 3) := by decide +kernel
theorem dL_fits_262 : decode cL_fits 262 = .ok (.aload_n 0, 1) := by decide +kernel
theorem dL_fits_263 : decode cL_fits 263 = .ok (.iload 6, 2) := by decide +kernel
theorem dL_fits_265 : decode cL_fits 265 = .ok (.iconst 0, 1) := by decide +kernel
theorem dL_fits_266 : decode cL_fits 266 = .ok (.invokevirtual 15, 3) := by decide +kernel
theorem dL_fits_269 : decode cL_fits 269 = .ok (.aload_n 1, 1) := by decide +kernel
theorem dL_fits_270 : decode cL_fits 270 = .ok (.iload 6, 2) := by decide +kernel
theorem dL_fits_272 : decode cL_fits 272 = .ok (.iaload, 1) := by decide +kernel
theorem dL_fits_273 : decode cL_fits 273 = .ok (.if_icmp .ne 46, 3) := by decide +kernel
theorem dL_fits_276 : decode cL_fits 276 = .ok (.aload_n 0, 1) := by decide +kernel
theorem dL_fits_277 : decode cL_fits 277 = .ok (.iload 6, 2) := by decide +kernel
theorem dL_fits_279 : decode cL_fits 279 = .ok (.iconst 1, 1) := by decide +kernel
theorem dL_fits_280 : decode cL_fits 280 = .ok (.invokevirtual 15, 3) := by decide +kernel
theorem dL_fits_283 : decode cL_fits 283 = .ok (.aload_n 1, 1) := by decide +kernel
theorem dL_fits_284 : decode cL_fits 284 = .ok (.iconst 4, 1) := by decide +kernel
theorem dL_fits_285 : decode cL_fits 285 = .ok (.iload 6, 2) := by decide +kernel
theorem dL_fits_287 : decode cL_fits 287 = .ok (.iadd, 1) := by decide +kernel
theorem dL_fits_288 : decode cL_fits 288 = .ok (.iaload, 1) := by decide +kernel
theorem dL_fits_289 : decode cL_fits 289 = .ok (.if_icmp .ne 30, 3) := by decide +kernel
theorem dL_fits_292 : decode cL_fits 292 = .ok (.aload_n 0, 1) := by decide +kernel
theorem dL_fits_293 : decode cL_fits 293 = .ok (.iload 6, 2) := by decide +kernel
theorem dL_fits_295 : decode cL_fits 295 = .ok (.iconst 0, 1) := by decide +kernel
theorem dL_fits_296 : decode cL_fits 296 = .ok (.invokevirtual 41, 3) := by decide +kernel
theorem dL_fits_299 : decode cL_fits 299 = .ok (.ifCond .ne 20, 3) := by decide +kernel
theorem dL_fits_302 : decode cL_fits 302 = .ok (.aload_n 0, 1) := by decide +kernel
theorem dL_fits_303 : decode cL_fits 303 = .ok (.iload 6, 2) := by decide +kernel
theorem dL_fits_305 : decode cL_fits 305 = .ok (.bipush 8, 2) := by decide +kernel
theorem dL_fits_307 : decode cL_fits 307 = .ok (.invokevirtual 41, 3) := by decide +kernel
theorem dL_fits_310 : decode cL_fits 310 = .ok (.aload_n 0, 1) := by decide +kernel
theorem dL_fits_311 : decode cL_fits 311 = .ok (.iload 6, 2) := by decide +kernel
theorem dL_fits_313 : decode cL_fits 313 = .ok (.invokestatic 44, 3) := by decide +kernel
theorem dL_fits_316 : decode cL_fits 316 = .ok (.if_icmp .eq 5, 3) := by decide +kernel
theorem dL_fits_319 : decode cL_fits 319 = .ok (.iconst 0, 1) := by decide +kernel
theorem dL_fits_320 : decode cL_fits 320 = .ok (.ireturn, 1) := by decide +kernel
theorem dL_fits_321 : decode cL_fits 321 = .ok (.iinc 6 1, 3) := by decide +kernel
theorem dL_fits_324 : decode cL_fits 324 = .ok (.goto (-151), 3) := by decide +kernel
theorem dL_fits_327 : decode cL_fits 327 = .ok (.iload_n 3, 1) := by decide +kernel
theorem dL_fits_328 : decode cL_fits 328 = .ok (.bipush 8, 2) := by decide +kernel
theorem dL_fits_330 : decode cL_fits 330 = .ok (.if_icmp .ne 25, 3) := by decide +kernel
theorem dL_fits_333 : decode cL_fits 333 = .ok (.iload 4, 2) := by decide +kernel
theorem dL_fits_335 : decode cL_fits 335 = .ok (.aload_n 0, 1) := by decide +kernel
theorem dL_fits_336 : decode cL_fits 336 = .ok (.invokevirtual 48, 3) := by decide +kernel
theorem dL_fits_339 : decode cL_fits 339 = .ok (.if_icmp .ne 16, 3) := by decide +kernel
theorem dL_fits_342 : decode cL_fits 342 = .ok (.iload 5, 2) := by decide +kernel
theorem dL_fits_344 : decode cL_fits 344 = .ok (.aload_n 0, 1) := by decide +kernel
theorem dL_fits_345 : decode cL_fits 345 = .ok (.invokevirtual 52, 3) := by decide +kernel
theorem dL_fits_348 : decode cL_fits 348 = .ok (.if_icmp .ne 7, 3) := by decide +kernel
theorem dL_fits_351 : decode cL_fits 351 = .ok (.iconst 1, 1) := by decide +kernel
theorem dL_fits_352 : decode cL_fits 352 = .ok (.goto 4, 3) := by decide +kernel
theorem dL_fits_355 : decode cL_fits 355 = .ok (.iconst 0, 1) := by decide +kernel
theorem dL_fits_356 : decode cL_fits 356 = .ok (.ireturn, 1) := by decide +kernel
theorem dL_gains_0 : decode cL_gains 0 = .ok (.iconst 0, 1) := by decide +kernel
theorem dL_gains_1 : decode cL_gains 1 = .ok (.istore_n 2, 1) := by decide +kernel
theorem dL_gains_2 : decode cL_gains 2 = .ok (.iconst 0, 1) := by decide +kernel
theorem dL_gains_3 : decode cL_gains 3 = .ok (.istore_n 3, 1) := by decide +kernel
theorem dL_gains_4 : decode cL_gains 4 = .ok (.iload_n 3, 1) := by decide +kernel
theorem dL_gains_5 : decode cL_gains 5 = .ok (.bipush 8, 2) := by decide +kernel
theorem dL_gains_7 : decode cL_gains 7 = .ok (.if_icmp .ge 18, 3) := by decide +kernel
theorem dL_gains_10 : decode cL_gains 10 = .ok (.iload_n 2, 1) := by decide +kernel
theorem dL_gains_11 : decode cL_gains 11 = .ok (.aload_n 0, 1) := by decide +kernel
theorem dL_gains_12 : decode cL_gains 12 = .ok (.iload_n 1, 1) := by decide +kernel
theorem dL_gains_13 : decode cL_gains 13 = .ok (.iload_n 3, 1) := by decide +kernel
theorem dL_gains_14 : decode cL_gains 14 = .ok (.invokevirtual 55, 3) := by decide +kernel
theorem dL_gains_17 : decode cL_gains 17 = .ok (.iadd, 1) := by decide +kernel
theorem dL_gains_18 : decode cL_gains 18 = .ok (.istore_n 2, 1) := by decide +kernel
theorem dL_gains_19 : decode cL_gains 19 = .ok (.iinc 3 1, 3) := by decide +kernel
theorem dL_gains_22 : decode cL_gains 22 = .ok (.goto (-18), 3) := by decide +kernel
theorem dL_gains_25 : decode cL_gains 25 = .ok (.iload_n 2, 1) := by decide +kernel
theorem dL_gains_26 : decode cL_gains 26 = .ok (.ireturn, 1) := by decide +kernel
theorem dL_position_0 : decode cL_position 0 = .ok (.iconst 0, 1) := by decide +kernel
theorem dL_position_1 : decode cL_position 1 = .ok (.istore_n 3, 1) := by decide +kernel
theorem dL_position_2 : decode cL_position 2 = .ok (.iload_n 3, 1) := by decide +kernel
theorem dL_position_3 : decode cL_position 3 = .ok (.bipush 8, 2) := by decide +kernel
theorem dL_position_5 : decode cL_position 5 = .ok (.if_icmp .ge 22, 3) := by decide +kernel
theorem dL_position_8 : decode cL_position 8 = .ok (.aload_n 0, 1) := by decide +kernel
theorem dL_position_9 : decode cL_position 9 = .ok (.iload_n 1, 1) := by decide +kernel
theorem dL_position_10 : decode cL_position 10 = .ok (.iload_n 2, 1) := by decide +kernel
theorem dL_position_11 : decode cL_position 11 = .ok (.iconst 4, 1) := by decide +kernel
theorem dL_position_12 : decode cL_position 12 = .ok (.irem, 1) := by decide +kernel
theorem dL_position_13 : decode cL_position 13 = .ok (.iload_n 3, 1) := by decide +kernel
theorem dL_position_14 : decode cL_position 14 = .ok (.invokevirtual 58, 3) := by decide +kernel
theorem dL_position_17 : decode cL_position 17 = .ok (.iload_n 2, 1) := by decide +kernel
theorem dL_position_18 : decode cL_position 18 = .ok (.if_icmp .eq 9, 3) := by decide +kernel
theorem dL_position_21 : decode cL_position 21 = .ok (.iinc 3 1, 3) := by decide +kernel
theorem dL_position_24 : decode cL_position 24 = .ok (.goto (-22), 3) := by decide +kernel
theorem dL_position_27 : decode cL_position 27 = .ok (.iload_n 3, 1) := by decide +kernel
theorem dL_position_28 : decode cL_position 28 = .ok (.ireturn, 1) := by decide +kernel
theorem dL_accesses_0 : decode cL_accesses 0 = .ok (.iload_n 2, 1) := by decide +kernel
theorem dL_accesses_1 : decode cL_accesses 1 = .ok (.iconst 2, 1) := by decide +kernel
theorem dL_accesses_2 : decode cL_accesses 2 = .ok (.irem, 1) := by decide +kernel
theorem dL_accesses_3 : decode cL_accesses 3 = .ok (.ifCond .ne 7, 3) := by decide +kernel
theorem dL_accesses_6 : decode cL_accesses 6 = .ok (.iconst 1, 1) := by decide +kernel
theorem dL_accesses_7 : decode cL_accesses 7 = .ok (.goto 4, 3) := by decide +kernel
theorem dL_accesses_10 : decode cL_accesses 10 = .ok (.iconst 0, 1) := by decide +kernel
theorem dL_accesses_11 : decode cL_accesses 11 = .ok (.istore_n 3, 1) := by decide +kernel
theorem dL_accesses_12 : decode cL_accesses 12 = .ok (.aload_n 0, 1) := by decide +kernel
theorem dL_accesses_13 : decode cL_accesses 13 = .ok (.iload_n 1, 1) := by decide +kernel
theorem dL_accesses_14 : decode cL_accesses 14 = .ok (.iload_n 2, 1) := by decide +kernel
theorem dL_accesses_15 : decode cL_accesses 15 = .ok (.invokevirtual 29, 3) := by decide +kernel
theorem dL_accesses_18 : decode cL_accesses 18 = .ok (.istore 4, 2) := by decide +kernel
theorem dL_accesses_20 : decode cL_accesses 20 = .ok (.aload_n 0, 1) := by decide +kernel
theorem dL_accesses_21 : decode cL_accesses 21 = .ok (.iload_n 1, 1) := by decide +kernel
theorem dL_accesses_22 : decode cL_accesses 22 = .ok (.iload_n 2, 1) := by decide +kernel
theorem dL_accesses_23 : decode cL_accesses 23 = .ok (.invokevirtual 62, 3) := by decide +kernel
theorem dL_accesses_26 : decode cL_accesses 26 = .ok (.istore 5, 2) := by decide +kernel
theorem dL_accesses_28 : decode cL_accesses 28 = .ok (.aload_n 0, 1) := by decide +kernel
theorem dL_accesses_29 : decode cL_accesses 29 = .ok (.iload_n 1, 1) := by decide +kernel
theorem dL_accesses_30 : decode cL_accesses 30 = .ok (.iload_n 2, 1) := by decide +kernel
theorem dL_accesses_31 : decode cL_accesses 31 = .ok (.invokestatic 23, 3) := by decide +kernel
theorem dL_accesses_34 : decode cL_accesses 34 = .ok (.istore 6, 2) := by decide +kernel
theorem dL_accesses_36 : decode cL_accesses 36 = .ok (.iload_n 3, 1) := by decide +kernel
theorem dL_accesses_37 : decode cL_accesses 37 = .ok (.ifCond .eq 12, 3) := by decide +kernel
theorem dL_accesses_40 : decode cL_accesses 40 = .ok (.aload_n 0, 1) := by decide +kernel
theorem dL_accesses_41 : decode cL_accesses 41 = .ok (.iload_n 1, 1) := by decide +kernel
theorem dL_accesses_42 : decode cL_accesses 42 = .ok (.iload_n 2, 1) := by decide +kernel
theorem dL_accesses_43 : decode cL_accesses 43 = .ok (.invokestatic 65, 3) := by decide +kernel
theorem dL_accesses_46 : decode cL_accesses 46 = .ok (.goto 5, 3) := by decide +kernel
theorem dL_accesses_49 : decode cL_accesses 49 = .ok (.bipush 9, 2) := by decide +kernel
theorem dL_accesses_51 : decode cL_accesses 51 = .ok (.istore 7, 2) := by decide +kernel
theorem dL_accesses_53 : decode cL_accesses 53 = .ok (.iload 7, 2) := by decide +kernel
theorem dL_accesses_55 : decode cL_accesses 55 = .ok (.bipush 8, 2) := by decide +kernel
theorem dL_accesses_57 : decode cL_accesses 57 = .ok (.if_icmp .ge 13, 3) := by decide +kernel
theorem dL_accesses_60 : decode cL_accesses 60 = .ok (.aload_n 0, 1) := by decide +kernel
theorem dL_accesses_61 : decode cL_accesses 61 = .ok (.iload_n 1, 1) := by decide +kernel
theorem dL_accesses_62 : decode cL_accesses 62 = .ok (.iload 7, 2) := by decide +kernel
theorem dL_accesses_64 : decode cL_accesses 64 = .ok (.invokevirtual 55, 3) := by decide +kernel
theorem dL_accesses_67 : decode cL_accesses 67 = .ok (.goto 4, 3) := by decide +kernel
theorem dL_accesses_70 : decode cL_accesses 70 = .ok (.iconst 0, 1) := by decide +kernel
theorem dL_accesses_71 : decode cL_accesses 71 = .ok (.istore 8, 2) := by decide +kernel
theorem dL_accesses_73 : decode cL_accesses 73 = .ok (.aload_n 0, 1) := by decide +kernel
theorem dL_accesses_74 : decode cL_accesses 74 = .ok (.iload_n 1, 1) := by decide +kernel
theorem dL_accesses_75 : decode cL_accesses 75 = .ok (.invokestatic 44, 3) := by decide +kernel
theorem dL_accesses_78 : decode cL_accesses 78 = .ok (.istore 9, 2) := by decide +kernel
theorem dL_accesses_80 : decode cL_accesses 80 = .ok (.iload_n 3, 1) := by decide +kernel
theorem dL_accesses_81 : decode cL_accesses 81 = .ok (.ifCond .eq 15, 3) := by decide +kernel
theorem dL_accesses_84 : decode cL_accesses 84 = .ok (.aload_n 0, 1) := by decide +kernel
theorem dL_accesses_85 : decode cL_accesses 85 = .ok (.iload_n 1, 1) := by decide +kernel
theorem dL_accesses_86 : decode cL_accesses 86 = .ok (.iload_n 2, 1) := by decide +kernel
theorem dL_accesses_87 : decode cL_accesses 87 = .ok (.iconst 4, 1) := by decide +kernel
theorem dL_accesses_88 : decode cL_accesses 88 = .ok (.irem, 1) := by decide +kernel
theorem dL_accesses_89 : decode cL_accesses 89 = .ok (.iconst 0, 1) := by decide +kernel
theorem dL_accesses_90 : decode cL_accesses 90 = .ok (.invokevirtual 58, 3) := by decide +kernel
theorem dL_accesses_93 : decode cL_accesses 93 = .ok (.goto 4, 3) := by decide +kernel
theorem dL_accesses_96 : decode cL_accesses 96 = .ok (.iconst (-1), 1) := by decide +kernel
theorem dL_accesses_97 : decode cL_accesses 97 = .ok (.istore 10, 2) := by decide +kernel
theorem dL_accesses_99 : decode cL_accesses 99 = .ok (.aload_n 0, 1) := by decide +kernel
theorem dL_accesses_100 : decode cL_accesses 100 = .ok (.invokestatic 68, 3) := by decide +kernel
theorem dL_accesses_103 : decode cL_accesses 103 = .ok (.istore 11, 2) := by decide +kernel
theorem dL_accesses_105 : decode cL_accesses 105 = .ok (.aload_n 0, 1) := by decide +kernel
theorem dL_accesses_106 : decode cL_accesses 106 = .ok (.invokevirtual 52, 3) := by decide +kernel
theorem dL_accesses_109 : decode cL_accesses 109 = .ok (.istore 12, 2) := by decide +kernel
theorem dL_accesses_111 : decode cL_accesses 111 = .ok (.aload_n 0, 1) := by decide +kernel
theorem dL_accesses_112 : decode cL_accesses 112 = .ok (.iload_n 1, 1) := by decide +kernel
theorem dL_accesses_113 : decode cL_accesses 113 = .ok (.iload 4, 2) := by decide +kernel
theorem dL_accesses_115 : decode cL_accesses 115 = .ok (.invokevirtual 35, 3) := by decide +kernel
theorem dL_accesses_118 : decode cL_accesses 118 = .ok (.istore 13, 2) := by decide +kernel
theorem dL_accesses_120 : decode cL_accesses 120 = .ok (.iload 5, 2) := by decide +kernel
theorem dL_accesses_122 : decode cL_accesses 122 = .ok (.ifCond .ge 7, 3) := by decide +kernel
theorem dL_accesses_125 : decode cL_accesses 125 = .ok (.iconst 0, 1) := by decide +kernel
theorem dL_accesses_126 : decode cL_accesses 126 = .ok (.goto 14, 3) := by decide +kernel
theorem dL_accesses_129 : decode cL_accesses 129 = .ok (.aload_n 0, 1) := by decide +kernel
theorem dL_accesses_130 : decode cL_accesses 130 = .ok (.iload 5, 2) := by decide +kernel
theorem dL_accesses_132 : decode cL_accesses 132 = .ok (.sipush 256, 3) := by decide +kernel
theorem dL_accesses_135 : decode cL_accesses 135 = .ok (.idiv, 1) := by decide +kernel
theorem dL_accesses_136 : decode cL_accesses 136 = .ok (.iconst 3, 1) := by decide +kernel
theorem dL_accesses_137 : decode cL_accesses 137 = .ok (.invokevirtual 35, 3) := by decide +kernel
theorem dL_accesses_140 : decode cL_accesses 140 = .ok (.istore 14, 2) := by decide +kernel
theorem dL_accesses_142 : decode cL_accesses 142 = .ok (.aload_n 0, 1) := by decide +kernel
theorem dL_accesses_143 : decode cL_accesses 143 = .ok (.iload_n 1, 1) := by decide +kernel
theorem dL_accesses_144 : decode cL_accesses 144 = .ok (.iload_n 2, 1) := by decide +kernel
theorem dL_accesses_145 : decode cL_accesses 145 = .ok (.invokevirtual 72, 3) := by decide +kernel
theorem dL_accesses_148 : decode cL_accesses 148 = .ok (.iload 4, 2) := by decide +kernel
theorem dL_accesses_150 : decode cL_accesses 150 = .ok (.if_icmp .ne 28, 3) := by decide +kernel
theorem dL_accesses_153 : decode cL_accesses 153 = .ok (.aload_n 0, 1) := by decide +kernel
theorem dL_accesses_154 : decode cL_accesses 154 = .ok (.invokevirtual 52, 3) := by decide +kernel
theorem dL_accesses_157 : decode cL_accesses 157 = .ok (.iload 12, 2) := by decide +kernel
theorem dL_accesses_159 : decode cL_accesses 159 = .ok (.iconst 1, 1) := by decide +kernel
theorem dL_accesses_160 : decode cL_accesses 160 = .ok (.iadd, 1) := by decide +kernel
theorem dL_accesses_161 : decode cL_accesses 161 = .ok (.if_icmp .ne 17, 3) := by decide +kernel
theorem dL_accesses_164 : decode cL_accesses 164 = .ok (.aload_n 0, 1) := by decide +kernel
theorem dL_accesses_165 : decode cL_accesses 165 = .ok (.iload_n 1, 1) := by decide +kernel
theorem dL_accesses_166 : decode cL_accesses 166 = .ok (.iload 4, 2) := by decide +kernel
theorem dL_accesses_168 : decode cL_accesses 168 = .ok (.invokevirtual 35, 3) := by decide +kernel
theorem dL_accesses_171 : decode cL_accesses 171 = .ok (.iload 13, 2) := by decide +kernel
theorem dL_accesses_173 : decode cL_accesses 173 = .ok (.iconst 1, 1) := by decide +kernel
theorem dL_accesses_174 : decode cL_accesses 174 = .ok (.iadd, 1) := by decide +kernel
theorem dL_accesses_175 : decode cL_accesses 175 = .ok (.if_icmp .eq 5, 3) := by decide +kernel
theorem dL_accesses_178 : decode cL_accesses 178 = .ok (.iconst 0, 1) := by decide +kernel
theorem dL_accesses_179 : decode cL_accesses 179 = .ok (.ireturn, 1) := by decide +kernel
theorem dL_accesses_180 : decode cL_accesses 180 = .ok (.aload_n 0, 1) := by decide +kernel
theorem dL_accesses_181 : decode cL_accesses 181 = .ok (.iload_n 1, 1) := by decide +kernel
theorem dL_accesses_182 : decode cL_accesses 182 = .ok (.iload_n 2, 1) := by decide +kernel
theorem dL_accesses_183 : decode cL_accesses 183 = .ok (.invokestatic 23, 3) := by decide +kernel
theorem dL_accesses_186 : decode cL_accesses 186 = .ok (.istore 15, 2) := by decide +kernel
theorem dL_accesses_188 : decode cL_accesses 188 = .ok (.iload 4, 2) := by decide +kernel
theorem dL_accesses_190 : decode cL_accesses 190 = .ok (.iconst 1, 1) := by decide +kernel
theorem dL_accesses_191 : decode cL_accesses 191 = .ok (.if_icmp .ne 32, 3) := by decide +kernel
theorem dL_accesses_194 : decode cL_accesses 194 = .ok (.iload 6, 2) := by decide +kernel
theorem dL_accesses_196 : decode cL_accesses 196 = .ok (.ifCond .lt 23, 3) := by decide +kernel
theorem dL_accesses_199 : decode cL_accesses 199 = .ok (.iload 15, 2) := by decide +kernel
theorem dL_accesses_201 : decode cL_accesses 201 = .ok (.iload 6, 2) := by decide +kernel
theorem dL_accesses_203 : decode cL_accesses 203 = .ok (.if_icmp .ne 16, 3) := by decide +kernel
theorem dL_accesses_206 : decode cL_accesses 206 = .ok (.aload_n 0, 1) := by decide +kernel
theorem dL_accesses_207 : decode cL_accesses 207 = .ok (.invokestatic 68, 3) := by decide +kernel
theorem dL_accesses_210 : decode cL_accesses 210 = .ok (.iload 11, 2) := by decide +kernel
theorem dL_accesses_212 : decode cL_accesses 212 = .ok (.if_icmp .ne 7, 3) := by decide +kernel
theorem dL_accesses_215 : decode cL_accesses 215 = .ok (.iconst 1, 1) := by decide +kernel
theorem dL_accesses_216 : decode cL_accesses 216 = .ok (.goto 93, 3) := by decide +kernel
theorem dL_accesses_219 : decode cL_accesses 219 = .ok (.iconst 0, 1) := by decide +kernel
theorem dL_accesses_220 : decode cL_accesses 220 = .ok (.goto 89, 3) := by decide +kernel
theorem dL_accesses_223 : decode cL_accesses 223 = .ok (.iload 4, 2) := by decide +kernel
theorem dL_accesses_225 : decode cL_accesses 225 = .ok (.iconst 2, 1) := by decide +kernel
theorem dL_accesses_226 : decode cL_accesses 226 = .ok (.if_icmp .ne 38, 3) := by decide +kernel
theorem dL_accesses_229 : decode cL_accesses 229 = .ok (.iload 6, 2) := by decide +kernel
theorem dL_accesses_231 : decode cL_accesses 231 = .ok (.ifCond .ge 29, 3) := by decide +kernel
theorem dL_accesses_234 : decode cL_accesses 234 = .ok (.iload 15, 2) := by decide +kernel
theorem dL_accesses_236 : decode cL_accesses 236 = .ok (.ifCond .ge 24, 3) := by decide +kernel
theorem dL_accesses_239 : decode cL_accesses 239 = .ok (.aload_n 0, 1) := by decide +kernel
theorem dL_accesses_240 : decode cL_accesses 240 = .ok (.iload_n 1, 1) := by decide +kernel
theorem dL_accesses_241 : decode cL_accesses 241 = .ok (.invokevirtual 38, 3) := by decide +kernel
theorem dL_accesses_244 : decode cL_accesses 244 = .ok (.ifCond .ne 16, 3) := by decide +kernel
theorem dL_accesses_247 : decode cL_accesses 247 = .ok (.aload_n 0, 1) := by decide +kernel
theorem dL_accesses_248 : decode cL_accesses 248 = .ok (.invokestatic 68, 3) := by decide +kernel
theorem dL_accesses_251 : decode cL_accesses 251 = .ok (.iload 11, 2) := by decide +kernel
theorem dL_accesses_253 : decode cL_accesses 253 = .ok (.if_icmp .ne 7, 3) := by decide +kernel
theorem dL_accesses_256 : decode cL_accesses 256 = .ok (.iconst 1, 1) := by decide +kernel
theorem dL_accesses_257 : decode cL_accesses 257 = .ok (.goto 52, 3) := by decide +kernel
theorem dL_accesses_260 : decode cL_accesses 260 = .ok (.iconst 0, 1) := by decide +kernel
theorem dL_accesses_261 : decode cL_accesses 261 = .ok (.goto 48, 3) := by decide +kernel
theorem dL_accesses_264 : decode cL_accesses 264 = .ok (.iload 6, 2) := by decide +kernel
theorem dL_accesses_266 : decode cL_accesses 266 = .ok (.ifCond .ge 42, 3) := by decide +kernel
theorem dL_accesses_269 : decode cL_accesses 269 = .ok (.iload 15, 2) := by decide +kernel
theorem dL_accesses_271 : decode cL_accesses 271 = .ok (.ifCond .lt 37, 3) := by decide +kernel
theorem dL_accesses_274 : decode cL_accesses 274 = .ok (.aload_n 0, 1) := by decide +kernel
theorem dL_accesses_275 : decode cL_accesses 275 = .ok (.iload 15, 2) := by decide +kernel
theorem dL_accesses_277 : decode cL_accesses 277 = .ok (.invokevirtual 19, 3) := by decide +kernel
theorem dL_accesses_280 : decode cL_accesses 280 = .ok (.iload_n 1, 1) := by decide +kernel
theorem dL_accesses_281 : decode cL_accesses 281 = .ok (.if_icmp .ne 27, 3) := by decide +kernel
theorem dL_accesses_284 : decode cL_accesses 284 = .ok (.aload_n 0, 1) := by decide +kernel
theorem dL_accesses_285 : decode cL_accesses 285 = .ok (.invokestatic 68, 3) := by decide +kernel
theorem dL_accesses_288 : decode cL_accesses 288 = .ok (.iload 11, 2) := by decide +kernel
theorem dL_accesses_290 : decode cL_accesses 290 = .ok (.iload 5, 2) := by decide +kernel
theorem dL_accesses_292 : decode cL_accesses 292 = .ok (.ifCond .ge 7, 3) := by decide +kernel
theorem dL_accesses_295 : decode cL_accesses 295 = .ok (.iconst 1, 1) := by decide +kernel
theorem dL_accesses_296 : decode cL_accesses 296 = .ok (.goto 4, 3) := by decide +kernel
theorem dL_accesses_299 : decode cL_accesses 299 = .ok (.iconst 0, 1) := by decide +kernel
theorem dL_accesses_300 : decode cL_accesses 300 = .ok (.iadd, 1) := by decide +kernel
theorem dL_accesses_301 : decode cL_accesses 301 = .ok (.if_icmp .ne 7, 3) := by decide +kernel
theorem dL_accesses_304 : decode cL_accesses 304 = .ok (.iconst 1, 1) := by decide +kernel
theorem dL_accesses_305 : decode cL_accesses 305 = .ok (.goto 4, 3) := by decide +kernel
theorem dL_accesses_308 : decode cL_accesses 308 = .ok (.iconst 0, 1) := by decide +kernel
theorem dL_accesses_309 : decode cL_accesses 309 = .ok (.istore 16, 2) := by decide +kernel
theorem dL_accesses_311 : decode cL_accesses 311 = .ok (.iload 16, 2) := by decide +kernel
theorem dL_accesses_313 : decode cL_accesses 313 = .ok (.ifCond .eq 54, 3) := by decide +kernel
theorem dL_accesses_316 : decode cL_accesses 316 = .ok (.iload 5, 2) := by decide +kernel
theorem dL_accesses_318 : decode cL_accesses 318 = .ok (.ifCond .lt 45, 3) := by decide +kernel
theorem dL_accesses_321 : decode cL_accesses 321 = .ok (.iload 4, 2) := by decide +kernel
theorem dL_accesses_323 : decode cL_accesses 323 = .ok (.ifCond .ne 44, 3) := by decide +kernel
theorem dL_accesses_326 : decode cL_accesses 326 = .ok (.aload_n 0, 1) := by decide +kernel
theorem dL_accesses_327 : decode cL_accesses 327 = .ok (.iload 5, 2) := by decide +kernel
theorem dL_accesses_329 : decode cL_accesses 329 = .ok (.sipush 256, 3) := by decide +kernel
theorem dL_accesses_332 : decode cL_accesses 332 = .ok (.idiv, 1) := by decide +kernel
theorem dL_accesses_333 : decode cL_accesses 333 = .ok (.iconst 3, 1) := by decide +kernel
theorem dL_accesses_334 : decode cL_accesses 334 = .ok (.invokevirtual 35, 3) := by decide +kernel
theorem dL_accesses_337 : decode cL_accesses 337 = .ok (.iload 14, 2) := by decide +kernel
theorem dL_accesses_339 : decode cL_accesses 339 = .ok (.iconst 1, 1) := by decide +kernel
theorem dL_accesses_340 : decode cL_accesses 340 = .ok (.iadd, 1) := by decide +kernel
theorem dL_accesses_341 : decode cL_accesses 341 = .ok (.if_icmp .ne 26, 3) := by decide +kernel
theorem dL_accesses_344 : decode cL_accesses 344 = .ok (.aload_n 0, 1) := by decide +kernel
theorem dL_accesses_345 : decode cL_accesses 345 = .ok (.iload 5, 2) := by decide +kernel
theorem dL_accesses_347 : decode cL_accesses 347 = .ok (.sipush 256, 3) := by decide +kernel
theorem dL_accesses_350 : decode cL_accesses 350 = .ok (.idiv, 1) := by decide +kernel
theorem dL_accesses_351 : decode cL_accesses 351 = .ok (.iload 5, 2) := by decide +kernel
theorem dL_accesses_353 : decode cL_accesses 353 = .ok (.sipush 256, 3) := by decide +kernel
theorem dL_accesses_356 : decode cL_accesses 356 = .ok (.irem, 1) := by decide +kernel
theorem dL_accesses_357 : decode cL_accesses 357 = .ok (.invokestatic 23, 3) := by decide +kernel
theorem dL_accesses_360 : decode cL_accesses 360 = .ok (.ifCond .ge 7, 3) := by decide +kernel
theorem dL_accesses_363 : decode cL_accesses 363 = .ok (.iconst 1, 1) := by decide +kernel
theorem dL_accesses_364 : decode cL_accesses 364 = .ok (.goto 4, 3) := by decide +kernel
theorem dL_accesses_367 : decode cL_accesses 367 = .ok (.iconst 0, 1) := by decide +kernel
theorem dL_accesses_368 : decode cL_accesses 368 = .ok (.istore 16, 2) := by decide +kernel
theorem dL_accesses_370 : decode cL_accesses 370 = .ok (.iload_n 3, 1) := by decide +kernel
theorem dL_accesses_371 : decode cL_accesses 371 = .ok (.ifCond .eq 96, 3) := by decide +kernel
theorem dL_accesses_374 : decode cL_accesses 374 = .ok (.iload 16, 2) := by decide +kernel
theorem dL_accesses_376 : decode cL_accesses 376 = .ok (.ifCond .eq 88, 3) := by decide +kernel
theorem dL_accesses_379 : decode cL_accesses 379 = .ok (.aload_n 0, 1) := by decide +kernel
theorem dL_accesses_380 : decode cL_accesses 380 = .ok (.iload_n 1, 1) := by decide +kernel
theorem dL_accesses_381 : decode cL_accesses 381 = .ok (.iload_n 2, 1) := by decide +kernel
theorem dL_accesses_382 : decode cL_accesses 382 = .ok (.iconst 4, 1) := by decide +kernel
theorem dL_accesses_383 : decode cL_accesses 383 = .ok (.irem, 1) := by decide +kernel
theorem dL_accesses_384 : decode cL_accesses 384 = .ok (.iconst 0, 1) := by decide +kernel
theorem dL_accesses_385 : decode cL_accesses 385 = .ok (.invokevirtual 58, 3) := by decide +kernel
theorem dL_accesses_388 : decode cL_accesses 388 = .ok (.iload_n 2, 1) := by decide +kernel
theorem dL_accesses_389 : decode cL_accesses 389 = .ok (.if_icmp .ne 75, 3) := by decide +kernel
theorem dL_accesses_392 : decode cL_accesses 392 = .ok (.aload_n 0, 1) := by decide +kernel
theorem dL_accesses_393 : decode cL_accesses 393 = .ok (.iload_n 1, 1) := by decide +kernel
theorem dL_accesses_394 : decode cL_accesses 394 = .ok (.invokestatic 44, 3) := by decide +kernel
theorem dL_accesses_397 : decode cL_accesses 397 = .ok (.iload 9, 2) := by decide +kernel
theorem dL_accesses_399 : decode cL_accesses 399 = .ok (.iload 7, 2) := by decide +kernel
theorem dL_accesses_401 : decode cL_accesses 401 = .ok (.bipush 8, 2) := by decide +kernel
theorem dL_accesses_403 : decode cL_accesses 403 = .ok (.if_icmp .ge 7, 3) := by decide +kernel
theorem dL_accesses_406 : decode cL_accesses 406 = .ok (.iconst 1, 1) := by decide +kernel
theorem dL_accesses_407 : decode cL_accesses 407 = .ok (.goto 4, 3) := by decide +kernel
theorem dL_accesses_410 : decode cL_accesses 410 = .ok (.iconst 0, 1) := by decide +kernel
theorem dL_accesses_411 : decode cL_accesses 411 = .ok (.iadd, 1) := by decide +kernel
theorem dL_accesses_412 : decode cL_accesses 412 = .ok (.if_icmp .ne 52, 3) := by decide +kernel
theorem dL_accesses_415 : decode cL_accesses 415 = .ok (.iload 7, 2) := by decide +kernel
theorem dL_accesses_417 : decode cL_accesses 417 = .ok (.bipush 8, 2) := by decide +kernel
theorem dL_accesses_419 : decode cL_accesses 419 = .ok (.if_icmp .eq 17, 3) := by decide +kernel
theorem dL_accesses_422 : decode cL_accesses 422 = .ok (.aload_n 0, 1) := by decide +kernel
theorem dL_accesses_423 : decode cL_accesses 423 = .ok (.iload_n 1, 1) := by decide +kernel
theorem dL_accesses_424 : decode cL_accesses 424 = .ok (.iload 7, 2) := by decide +kernel
theorem dL_accesses_426 : decode cL_accesses 426 = .ok (.invokevirtual 55, 3) := by decide +kernel
theorem dL_accesses_429 : decode cL_accesses 429 = .ok (.iload 8, 2) := by decide +kernel
theorem dL_accesses_431 : decode cL_accesses 431 = .ok (.iconst 1, 1) := by decide +kernel
theorem dL_accesses_432 : decode cL_accesses 432 = .ok (.iadd, 1) := by decide +kernel
theorem dL_accesses_433 : decode cL_accesses 433 = .ok (.if_icmp .ne 31, 3) := by decide +kernel
theorem dL_accesses_436 : decode cL_accesses 436 = .ok (.iload 7, 2) := by decide +kernel
theorem dL_accesses_438 : decode cL_accesses 438 = .ok (.ifCond .eq 22, 3) := by decide +kernel
theorem dL_accesses_441 : decode cL_accesses 441 = .ok (.iload 10, 2) := by decide +kernel
theorem dL_accesses_443 : decode cL_accesses 443 = .ok (.ifCond .lt 17, 3) := by decide +kernel
theorem dL_accesses_446 : decode cL_accesses 446 = .ok (.aload_n 0, 1) := by decide +kernel
theorem dL_accesses_447 : decode cL_accesses 447 = .ok (.iload_n 1, 1) := by decide +kernel
theorem dL_accesses_448 : decode cL_accesses 448 = .ok (.iload_n 2, 1) := by decide +kernel
theorem dL_accesses_449 : decode cL_accesses 449 = .ok (.iconst 4, 1) := by decide +kernel
theorem dL_accesses_450 : decode cL_accesses 450 = .ok (.irem, 1) := by decide +kernel
theorem dL_accesses_451 : decode cL_accesses 451 = .ok (.iconst 1, 1) := by decide +kernel
theorem dL_accesses_452 : decode cL_accesses 452 = .ok (.invokevirtual 58, 3) := by decide +kernel
theorem dL_accesses_455 : decode cL_accesses 455 = .ok (.iload 10, 2) := by decide +kernel
theorem dL_accesses_457 : decode cL_accesses 457 = .ok (.if_icmp .ne 7, 3) := by decide +kernel
theorem dL_accesses_460 : decode cL_accesses 460 = .ok (.iconst 1, 1) := by decide +kernel
theorem dL_accesses_461 : decode cL_accesses 461 = .ok (.goto 4, 3) := by decide +kernel
theorem dL_accesses_464 : decode cL_accesses 464 = .ok (.iconst 0, 1) := by decide +kernel
theorem dL_accesses_465 : decode cL_accesses 465 = .ok (.istore 16, 2) := by decide +kernel
theorem dL_accesses_467 : decode cL_accesses 467 = .ok (.iload 16, 2) := by decide +kernel
theorem dL_accesses_469 : decode cL_accesses 469 = .ok (.ifCond .eq 21, 3) := by decide +kernel
theorem dL_accesses_472 : decode cL_accesses 472 = .ok (.iload_n 3, 1) := by decide +kernel
theorem dL_accesses_473 : decode cL_accesses 473 = .ok (.ifCond .ne 13, 3) := by decide +kernel
theorem dL_accesses_476 : decode cL_accesses 476 = .ok (.aload_n 0, 1) := by decide +kernel
theorem dL_accesses_477 : decode cL_accesses 477 = .ok (.iload_n 1, 1) := by decide +kernel
theorem dL_accesses_478 : decode cL_accesses 478 = .ok (.invokestatic 44, 3) := by decide +kernel
theorem dL_accesses_481 : decode cL_accesses 481 = .ok (.iload 9, 2) := by decide +kernel
theorem dL_accesses_483 : decode cL_accesses 483 = .ok (.if_icmp .ne 7, 3) := by decide +kernel
theorem dL_accesses_486 : decode cL_accesses 486 = .ok (.iconst 1, 1) := by decide +kernel
theorem dL_accesses_487 : decode cL_accesses 487 = .ok (.goto 4, 3) := by decide +kernel
theorem dL_accesses_490 : decode cL_accesses 490 = .ok (.iconst 0, 1) := by decide +kernel
theorem dL_accesses_491 : decode cL_accesses 491 = .ok (.ireturn, 1) := by decide +kernel
theorem dL_moves_0 : decode cL_moves 0 = .ok (.aload_n 0, 1) := by decide +kernel
theorem dL_moves_1 : decode cL_moves 1 = .ok (.invokevirtual 48, 3) := by decide +kernel
theorem dL_moves_4 : decode cL_moves 4 = .ok (.istore_n 1, 1) := by decide +kernel
theorem dL_moves_5 : decode cL_moves 5 = .ok (.aload_n 0, 1) := by decide +kernel
theorem dL_moves_6 : decode cL_moves 6 = .ok (.invokestatic 68, 3) := by decide +kernel
theorem dL_moves_9 : decode cL_moves 9 = .ok (.istore_n 2, 1) := by decide +kernel
theorem dL_moves_10 : decode cL_moves 10 = .ok (.bipush 8, 2) := by decide +kernel
theorem dL_moves_12 : decode cL_moves 12 = .ok (.newarray .int, 2) := by decide +kernel
theorem dL_moves_14 : decode cL_moves 14 = .ok (.astore_n 3, 1) := by decide +kernel
theorem dL_moves_15 : decode cL_moves 15 = .ok (.iconst 0, 1) := by decide +kernel
theorem dL_moves_16 : decode cL_moves 16 = .ok (.istore 4, 2) := by decide +kernel
theorem dL_moves_18 : decode cL_moves 18 = .ok (.iload 4, 2) := by decide +kernel
theorem dL_moves_20 : decode cL_moves 20 = .ok (.bipush 8, 2) := by decide +kernel
theorem dL_moves_22 : decode cL_moves 22 = .ok (.if_icmp .ge 19, 3) := by decide +kernel
theorem dL_moves_25 : decode cL_moves 25 = .ok (.aload_n 3, 1) := by decide +kernel
theorem dL_moves_26 : decode cL_moves 26 = .ok (.iload 4, 2) := by decide +kernel
theorem dL_moves_28 : decode cL_moves 28 = .ok (.aload_n 0, 1) := by decide +kernel
theorem dL_moves_29 : decode cL_moves 29 = .ok (.iload 4, 2) := by decide +kernel
theorem dL_moves_31 : decode cL_moves 31 = .ok (.invokevirtual 19, 3) := by decide +kernel
theorem dL_moves_34 : decode cL_moves 34 = .ok (.iastore, 1) := by decide +kernel
theorem dL_moves_35 : decode cL_moves 35 = .ok (.iinc 4 1, 3) := by decide +kernel
theorem dL_moves_38 : decode cL_moves 38 = .ok (.goto (-20), 3) := by decide +kernel
theorem dL_moves_41 : decode cL_moves 41 = .ok (.aload_n 0, 1) := by decide +kernel
theorem dL_moves_42 : decode cL_moves 42 = .ok (.invokevirtual 75, 3) := by decide +kernel
theorem dL_moves_45 : decode cL_moves 45 = .ok (.istore 4, 2) := by decide +kernel
theorem dL_moves_47 : decode cL_moves 47 = .ok (.iload 4, 2) := by decide +kernel
theorem dL_moves_49 : decode cL_moves 49 = .ok (.ifCond .ge 19, 3) := by decide +kernel
theorem dL_moves_52 : decode cL_moves 52 = .ok (.iload_n 1, 1) := by decide +kernel
theorem dL_moves_53 : decode cL_moves 53 = .ok (.ifCond .ne 13, 3) := by decide +kernel
theorem dL_moves_56 : decode cL_moves 56 = .ok (.iload 4, 2) := by decide +kernel
theorem dL_moves_58 : decode cL_moves 58 = .ok (.iconst (-1), 1) := by decide +kernel
theorem dL_moves_59 : decode cL_moves 59 = .ok (.if_icmp .ne 7, 3) := by decide +kernel
theorem dL_moves_62 : decode cL_moves 62 = .ok (.iconst 1, 1) := by decide +kernel
theorem dL_moves_63 : decode cL_moves 63 = .ok (.goto 4, 3) := by decide +kernel
theorem dL_moves_66 : decode cL_moves 66 = .ok (.iconst 0, 1) := by decide +kernel
theorem dL_moves_67 : decode cL_moves 67 = .ok (.ireturn, 1) := by decide +kernel
theorem dL_moves_68 : decode cL_moves 68 = .ok (.iconst 0, 1) := by decide +kernel
theorem dL_moves_69 : decode cL_moves 69 = .ok (.istore 5, 2) := by decide +kernel
theorem dL_moves_71 : decode cL_moves 71 = .ok (.iconst 0, 1) := by decide +kernel
theorem dL_moves_72 : decode cL_moves 72 = .ok (.istore 6, 2) := by decide +kernel
theorem dL_moves_74 : decode cL_moves 74 = .ok (.iload 6, 2) := by decide +kernel
theorem dL_moves_76 : decode cL_moves 76 = .ok (.bipush 8, 2) := by decide +kernel
theorem dL_moves_78 : decode cL_moves 78 = .ok (.if_icmp .ge 32, 3) := by decide +kernel
theorem dL_moves_81 : decode cL_moves 81 = .ok (.iload 5, 2) := by decide +kernel
theorem dL_moves_83 : decode cL_moves 83 = .ok (.aload_n 0, 1) := by decide +kernel
theorem dL_moves_84 : decode cL_moves 84 = .ok (.iload 6, 2) := by decide +kernel
theorem dL_moves_86 : decode cL_moves 86 = .ok (.invokevirtual 19, 3) := by decide +kernel
theorem dL_moves_89 : decode cL_moves 89 = .ok (.aload_n 3, 1) := by decide +kernel
theorem dL_moves_90 : decode cL_moves 90 = .ok (.iload 6, 2) := by decide +kernel
theorem dL_moves_92 : decode cL_moves 92 = .ok (.iaload, 1) := by decide +kernel
theorem dL_moves_93 : decode cL_moves 93 = .ok (.if_icmp .ne 7, 3) := by decide +kernel
theorem dL_moves_96 : decode cL_moves 96 = .ok (.iconst 0, 1) := by decide +kernel
theorem dL_moves_97 : decode cL_moves 97 = .ok (.goto 4, 3) := by decide +kernel
theorem dL_moves_100 : decode cL_moves 100 = .ok (.iconst 1, 1) := by decide +kernel
theorem dL_moves_101 : decode cL_moves 101 = .ok (.iadd, 1) := by decide +kernel
theorem dL_moves_102 : decode cL_moves 102 = .ok (.istore 5, 2) := by decide +kernel
theorem dL_moves_104 : decode cL_moves 104 = .ok (.iinc 6 1, 3) := by decide +kernel
theorem dL_moves_107 : decode cL_moves 107 = .ok (.goto (-33), 3) := by decide +kernel
theorem dL_moves_110 : decode cL_moves 110 = .ok (.iload 5, 2) := by decide +kernel
theorem dL_moves_112 : decode cL_moves 112 = .ok (.iconst 1, 1) := by decide +kernel
theorem dL_moves_113 : decode cL_moves 113 = .ok (.if_icmp .ne 80, 3) := by decide +kernel
theorem dL_moves_116 : decode cL_moves 116 = .ok (.aload_n 0, 1) := by decide +kernel
theorem dL_moves_117 : decode cL_moves 117 = .ok (.iload 4, 2) := by decide +kernel
theorem dL_moves_119 : decode cL_moves 119 = .ok (.invokevirtual 19, 3) := by decide +kernel
theorem dL_moves_122 : decode cL_moves 122 = .ok (.aload_n 3, 1) := by decide +kernel
theorem dL_moves_123 : decode cL_moves 123 = .ok (.iload 4, 2) := by decide +kernel
theorem dL_moves_125 : decode cL_moves 125 = .ok (.iaload, 1) := by decide +kernel
theorem dL_moves_126 : decode cL_moves 126 = .ok (.if_icmp .eq 67, 3) := by decide +kernel
theorem dL_moves_129 : decode cL_moves 129 = .ok (.aload_n 0, 1) := by decide +kernel
theorem dL_moves_130 : decode cL_moves 130 = .ok (.invokevirtual 48, 3) := by decide +kernel
theorem dL_moves_133 : decode cL_moves 133 = .ok (.iload_n 1, 1) := by decide +kernel
theorem dL_moves_134 : decode cL_moves 134 = .ok (.iconst 1, 1) := by decide +kernel
theorem dL_moves_135 : decode cL_moves 135 = .ok (.isub, 1) := by decide +kernel
theorem dL_moves_136 : decode cL_moves 136 = .ok (.if_icmp .ne 57, 3) := by decide +kernel
theorem dL_moves_139 : decode cL_moves 139 = .ok (.aload_n 0, 1) := by decide +kernel
theorem dL_moves_140 : decode cL_moves 140 = .ok (.invokestatic 68, 3) := by decide +kernel
theorem dL_moves_143 : decode cL_moves 143 = .ok (.iload_n 2, 1) := by decide +kernel
theorem dL_moves_144 : decode cL_moves 144 = .ok (.if_icmp .ne 49, 3) := by decide +kernel
theorem dL_moves_147 : decode cL_moves 147 = .ok (.aload_n 0, 1) := by decide +kernel
theorem dL_moves_148 : decode cL_moves 148 = .ok (.aload_n 3, 1) := by decide +kernel
theorem dL_moves_149 : decode cL_moves 149 = .ok (.iload 4, 2) := by decide +kernel
theorem dL_moves_151 : decode cL_moves 151 = .ok (.iaload, 1) := by decide +kernel
theorem dL_moves_152 : decode cL_moves 152 = .ok (.invokevirtual 38, 3) := by decide +kernel
theorem dL_moves_155 : decode cL_moves 155 = .ok (.aload_n 0, 1) := by decide +kernel
theorem dL_moves_156 : decode cL_moves 156 = .ok (.aload_n 3, 1) := by decide +kernel
theorem dL_moves_157 : decode cL_moves 157 = .ok (.iload 4, 2) := by decide +kernel
theorem dL_moves_159 : decode cL_moves 159 = .ok (.iaload, 1) := by decide +kernel
theorem dL_moves_160 : decode cL_moves 160 = .ok (.invokevirtual 32, 3) := by decide +kernel
theorem dL_moves_163 : decode cL_moves 163 = .ok (.if_icmp .lt 30, 3) := by decide +kernel
theorem dL_moves_166 : decode cL_moves 166 = .ok (.aload_n 0, 1) := by decide +kernel
theorem dL_moves_167 : decode cL_moves 167 = .ok (.aload_n 0, 1) := by decide +kernel
theorem dL_moves_168 : decode cL_moves 168 = .ok (.iload 4, 2) := by decide +kernel
theorem dL_moves_170 : decode cL_moves 170 = .ok (.invokevirtual 19, 3) := by decide +kernel
theorem dL_moves_173 : decode cL_moves 173 = .ok (.invokevirtual 38, 3) := by decide +kernel
theorem dL_moves_176 : decode cL_moves 176 = .ok (.aload_n 0, 1) := by decide +kernel
theorem dL_moves_177 : decode cL_moves 177 = .ok (.aload_n 0, 1) := by decide +kernel
theorem dL_moves_178 : decode cL_moves 178 = .ok (.iload 4, 2) := by decide +kernel
theorem dL_moves_180 : decode cL_moves 180 = .ok (.invokevirtual 19, 3) := by decide +kernel
theorem dL_moves_183 : decode cL_moves 183 = .ok (.invokevirtual 32, 3) := by decide +kernel
theorem dL_moves_186 : decode cL_moves 186 = .ok (.if_icmp .gt 7, 3) := by decide +kernel
theorem dL_moves_189 : decode cL_moves 189 = .ok (.iconst 1, 1) := by decide +kernel
theorem dL_moves_190 : decode cL_moves 190 = .ok (.goto 4, 3) := by decide +kernel
theorem dL_moves_193 : decode cL_moves 193 = .ok (.iconst 0, 1) := by decide +kernel
theorem dL_moves_194 : decode cL_moves 194 = .ok (.ireturn, 1) := by decide +kernel
