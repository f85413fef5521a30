theorem dX7_searches_93 : decode cX7_searches 93 = .ok (.goto 4, 3) := by decide +kernel
theorem dX7_searches_96 : decode cX7_searches 96 = .ok (.iconst 0, 1) := by decide +kernel
theorem dX7_searches_97 : decode cX7_searches 97 = .ok (.istore 6, 2) := by decide +kernel
theorem dX7_searches_99 : decode cX7_searches 99 = .ok (.iload 6, 2) := by decide +kernel
theorem dX7_searches_101 : decode cX7_searches 101 = .ok (.ifCond .eq 115, 3) := by decide +kernel
theorem dX7_searches_104 : decode cX7_searches 104 = .ok (.aload_n 0, 1) := by decide +kernel
theorem dX7_searches_105 : decode cX7_searches 105 = .ok (.iload 5, 2) := by decide +kernel
theorem dX7_searches_107 : decode cX7_searches 107 = .ok (.iload 4, 2) := by decide +kernel
theorem dX7_searches_109 : decode cX7_searches 109 = .ok (.invokevirtual 132, 3) := by decide +kernel
theorem dX7_searches_112 : decode cX7_searches 112 = .ok (.aload_n 0, 1) := by decide +kernel
theorem dX7_searches_113 : decode cX7_searches 113 = .ok (.iload 4, 2) := by decide +kernel
theorem dX7_searches_115 : decode cX7_searches 115 = .ok (.iconst 1, 1) := by decide +kernel
theorem dX7_searches_116 : decode cX7_searches 116 = .ok (.iadd, 1) := by decide +kernel
theorem dX7_searches_117 : decode cX7_searches 117 = .ok (.invokevirtual 167, 3) := by decide +kernel
theorem dX7_searches_120 : decode cX7_searches 120 = .ok (.bipush 7, 2) := by decide +kernel
theorem dX7_searches_122 : decode cX7_searches 122 = .ok (.iload 4, 2) := by decide +kernel
theorem dX7_searches_124 : decode cX7_searches 124 = .ok (.isub, 1) := by decide +kernel
theorem dX7_searches_125 : decode cX7_searches 125 = .ok (.iconst 1, 1) := by decide +kernel
theorem dX7_searches_126 : decode cX7_searches 126 = .ok (.isub, 1) := by decide +kernel
theorem dX7_searches_127 : decode cX7_searches 127 = .ok (.invokestatic 146, 3) := by decide +kernel
theorem dX7_searches_130 : decode cX7_searches 130 = .ok (.lmul, 1) := by decide +kernel
theorem dX7_searches_131 : decode cX7_searches 131 = .ok (.lstore 7, 2) := by decide +kernel
theorem dX7_searches_133 : decode cX7_searches 133 = .ok (.aload_n 0, 1) := by decide +kernel
theorem dX7_searches_134 : decode cX7_searches 134 = .ok (.iload 4, 2) := by decide +kernel
theorem dX7_searches_136 : decode cX7_searches 136 = .ok (.iconst 1, 1) := by decide +kernel
theorem dX7_searches_137 : decode cX7_searches 137 = .ok (.iadd, 1) := by decide +kernel
theorem dX7_searches_138 : decode cX7_searches 138 = .ok (.invokevirtual 163, 3) := by decide +kernel
theorem dX7_searches_141 : decode cX7_searches 141 = .ok (.aload_n 0, 1) := by decide +kernel
theorem dX7_searches_142 : decode cX7_searches 142 = .ok (.getfield 13, 3) := by decide +kernel
theorem dX7_searches_145 : decode cX7_searches 145 = .ok (.iconst 1, 1) := by decide +kernel
theorem dX7_searches_146 : decode cX7_searches 146 = .ok (.iaload, 1) := by decide +kernel
theorem dX7_searches_147 : decode cX7_searches 147 = .ok (.if_icmp .ne 69, 3) := by decide +kernel
theorem dX7_searches_150 : decode cX7_searches 150 = .ok (.lload 7, 2) := by decide +kernel
theorem dX7_searches_152 : decode cX7_searches 152 = .ok (.lload_n 2, 1) := by decide +kernel
theorem dX7_searches_153 : decode cX7_searches 153 = .ok (.lcmp, 1) := by decide +kernel
theorem dX7_searches_154 : decode cX7_searches 154 = .ok (.ifCond .gt 21, 3) := by decide +kernel
theorem dX7_searches_157 : decode cX7_searches 157 = .ok (.lload 7, 2) := by decide +kernel
theorem dX7_searches_159 : decode cX7_searches 159 = .ok (.lload_n 2, 1) := by decide +kernel
theorem dX7_searches_160 : decode cX7_searches 160 = .ok (.lcmp, 1) := by decide +kernel
theorem dX7_searches_161 : decode cX7_searches 161 = .ok (.ifCond .ne 55, 3) := by decide +kernel
theorem dX7_searches_164 : decode cX7_searches 164 = .ok (.iload 4, 2) := by decide +kernel
theorem dX7_searches_166 : decode cX7_searches 166 = .ok (.iconst 1, 1) := by decide +kernel
theorem dX7_searches_167 : decode cX7_searches 167 = .ok (.iadd, 1) := by decide +kernel
theorem dX7_searches_168 : decode cX7_searches 168 = .ok (.aload_n 0, 1) := by decide +kernel
theorem dX7_searches_169 : decode cX7_searches 169 = .ok (.getfield 156, 3) := by decide +kernel
theorem dX7_searches_172 : decode cX7_searches 172 = .ok (.if_icmp .ge 44, 3) := by decide +kernel
theorem dX7_searches_175 : decode cX7_searches 175 = .ok (.lload 7, 2) := by decide +kernel
theorem dX7_searches_177 : decode cX7_searches 177 = .ok (.lstore_n 2, 1) := by decide +kernel
theorem dX7_searches_178 : decode cX7_searches 178 = .ok (.aload_n 0, 1) := by decide +kernel
theorem dX7_searches_179 : decode cX7_searches 179 = .ok (.iload 4, 2) := by decide +kernel
theorem dX7_searches_181 : decode cX7_searches 181 = .ok (.iconst 1, 1) := by decide +kernel
theorem dX7_searches_182 : decode cX7_searches 182 = .ok (.iadd, 1) := by decide +kernel
theorem dX7_searches_183 : decode cX7_searches 183 = .ok (.putfield 156, 3) := by decide +kernel
theorem dX7_searches_186 : decode cX7_searches 186 = .ok (.iconst 0, 1) := by decide +kernel
theorem dX7_searches_187 : decode cX7_searches 187 = .ok (.istore 9, 2) := by decide +kernel
theorem dX7_searches_189 : decode cX7_searches 189 = .ok (.iload 9, 2) := by decide +kernel
theorem dX7_searches_191 : decode cX7_searches 191 = .ok (.iload 4, 2) := by decide +kernel
theorem dX7_searches_193 : decode cX7_searches 193 = .ok (.if_icmp .gt 23, 3) := by decide +kernel
theorem dX7_searches_196 : decode cX7_searches 196 = .ok (.aload_n 0, 1) := by decide +kernel
theorem dX7_searches_197 : decode cX7_searches 197 = .ok (.getfield 48, 3) := by decide +kernel
theorem dX7_searches_200 : decode cX7_searches 200 = .ok (.iload 9, 2) := by decide +kernel
theorem dX7_searches_202 : decode cX7_searches 202 = .ok (.aload_n 0, 1) := by decide +kernel
theorem dX7_searches_203 : decode cX7_searches 203 = .ok (.getfield 45, 3) := by decide +kernel
theorem dX7_searches_206 : decode cX7_searches 206 = .ok (.iload 9, 2) := by decide +kernel
theorem dX7_searches_208 : decode cX7_searches 208 = .ok (.iaload, 1) := by decide +kernel
theorem dX7_searches_209 : decode cX7_searches 209 = .ok (.iastore, 1) := by decide +kernel
theorem dX7_searches_210 : decode cX7_searches 210 = .ok (.iinc 9 1, 3) := by decide +kernel
theorem dX7_searches_213 : decode cX7_searches 213 = .ok (.goto (-24), 3) := by decide +kernel
theorem dX7_searches_216 : decode cX7_searches 216 = .ok (.iload 6, 2) := by decide +kernel
theorem dX7_searches_218 : decode cX7_searches 218 = .ok (.ifCond .eq 25, 3) := by decide +kernel
theorem dX7_searches_221 : decode cX7_searches 221 = .ok (.iload 4, 2) := by decide +kernel
theorem dX7_searches_223 : decode cX7_searches 223 = .ok (.iconst 1, 1) := by decide +kernel
theorem dX7_searches_224 : decode cX7_searches 224 = .ok (.iadd, 1) := by decide +kernel
theorem dX7_searches_225 : decode cX7_searches 225 = .ok (.iload_n 1, 1) := by decide +kernel
theorem dX7_searches_226 : decode cX7_searches 226 = .ok (.if_icmp .ge 17, 3) := by decide +kernel
theorem dX7_searches_229 : decode cX7_searches 229 = .ok (.iinc 4 1, 3) := by decide +kernel
theorem dX7_searches_232 : decode cX7_searches 232 = .ok (.aload_n 0, 1) := by decide +kernel
theorem dX7_searches_233 : decode cX7_searches 233 = .ok (.getfield 45, 3) := by decide +kernel
theorem dX7_searches_236 : decode cX7_searches 236 = .ok (.iload 4, 2) := by decide +kernel
theorem dX7_searches_238 : decode cX7_searches 238 = .ok (.iconst 0, 1) := by decide +kernel
theorem dX7_searches_239 : decode cX7_searches 239 = .ok (.iastore, 1) := by decide +kernel
theorem dX7_searches_240 : decode cX7_searches 240 = .ok (.goto 14, 3) := by decide +kernel
theorem dX7_searches_243 : decode cX7_searches 243 = .ok (.aload_n 0, 1) := by decide +kernel
theorem dX7_searches_244 : decode cX7_searches 244 = .ok (.getfield 45, 3) := by decide +kernel
theorem dX7_searches_247 : decode cX7_searches 247 = .ok (.iload 4, 2) := by decide +kernel
theorem dX7_searches_249 : decode cX7_searches 249 = .ok (.dup2, 1) := by decide +kernel
theorem dX7_searches_250 : decode cX7_searches 250 = .ok (.iaload, 1) := by decide +kernel
theorem dX7_searches_251 : decode cX7_searches 251 = .ok (.iconst 1, 1) := by decide +kernel
theorem dX7_searches_252 : decode cX7_searches 252 = .ok (.iadd, 1) := by decide +kernel
theorem dX7_searches_253 : decode cX7_searches 253 = .ok (.iastore, 1) := by decide +kernel
theorem dX7_searches_254 : decode cX7_searches 254 = .ok (.goto (-231), 3) := by decide +kernel
theorem dX7_searches_257 : decode cX7_searches 257 = .ok (.return_, 1) := by decide +kernel
theorem dX7_best_0 : decode cX7_best 0 = .ok (.iload_n 1, 1) := by decide +kernel
theorem dX7_best_1 : decode cX7_best 1 = .ok (.i2l, 1) := by decide +kernel
theorem dX7_best_2 : decode cX7_best 2 = .ok (.lconst 1, 1) := by decide +kernel
theorem dX7_best_3 : decode cX7_best 3 = .ok (.ldc2_w 170, 3) := by decide +kernel
theorem dX7_best_6 : decode cX7_best 6 = .ok (.invokestatic 62, 3) := by decide +kernel
theorem dX7_best_9 : decode cX7_best 9 = .ok (.ifCond .eq 8, 3) := by decide +kernel
theorem dX7_best_12 : decode cX7_best 12 = .ok (.iload_n 2, 1) := by decide +kernel
theorem dX7_best_13 : decode cX7_best 13 = .ok (.iconst (-1), 1) := by decide +kernel
theorem dX7_best_14 : decode cX7_best 14 = .ok (.if_icmp .ge 5, 3) := by decide +kernel
theorem dX7_best_17 : decode cX7_best 17 = .ok (.iconst (-1), 1) := by decide +kernel
theorem dX7_best_18 : decode cX7_best 18 = .ok (.ireturn, 1) := by decide +kernel
theorem dX7_best_19 : decode cX7_best 19 = .ok (.aload_n 0, 1) := by decide +kernel
theorem dX7_best_20 : decode cX7_best 20 = .ok (.iload_n 1, 1) := by decide +kernel
theorem dX7_best_21 : decode cX7_best 21 = .ok (.invokevirtual 172, 3) := by decide +kernel
theorem dX7_best_24 : decode cX7_best 24 = .ok (.aload_n 0, 1) := by decide +kernel
theorem dX7_best_25 : decode cX7_best 25 = .ok (.getfield 156, 3) := by decide +kernel
theorem dX7_best_28 : decode cX7_best 28 = .ok (.ifCond .eq 11, 3) := by decide +kernel
theorem dX7_best_31 : decode cX7_best 31 = .ok (.iload_n 2, 1) := by decide +kernel
theorem dX7_best_32 : decode cX7_best 32 = .ok (.aload_n 0, 1) := by decide +kernel
theorem dX7_best_33 : decode cX7_best 33 = .ok (.getfield 156, 3) := by decide +kernel
theorem dX7_best_36 : decode cX7_best 36 = .ok (.if_icmp .lt 8, 3) := by decide +kernel
theorem dX7_best_39 : decode cX7_best 39 = .ok (.bipush (-4), 2) := by decide +kernel
theorem dX7_best_41 : decode cX7_best 41 = .ok (.goto 20, 3) := by decide +kernel
theorem dX7_best_44 : decode cX7_best 44 = .ok (.iload_n 2, 1) := by decide +kernel
theorem dX7_best_45 : decode cX7_best 45 = .ok (.ifCond .ge 10, 3) := by decide +kernel
theorem dX7_best_48 : decode cX7_best 48 = .ok (.aload_n 0, 1) := by decide +kernel
theorem dX7_best_49 : decode cX7_best 49 = .ok (.getfield 156, 3) := by decide +kernel
theorem dX7_best_52 : decode cX7_best 52 = .ok (.goto 9, 3) := by decide +kernel
theorem dX7_best_55 : decode cX7_best 55 = .ok (.aload_n 0, 1) := by decide +kernel
theorem dX7_best_56 : decode cX7_best 56 = .ok (.getfield 48, 3) := by decide +kernel
theorem dX7_best_59 : decode cX7_best 59 = .ok (.iload_n 2, 1) := by decide +kernel
theorem dX7_best_60 : decode cX7_best 60 = .ok (.iaload, 1) := by decide +kernel
theorem dX7_best_61 : decode cX7_best 61 = .ok (.ireturn, 1) := by decide +kernel
theorem dX7_isBribed_0 : decode cX7_isBribed 0 = .ok (.iconst 2, 1) := by decide +kernel
theorem dX7_isBribed_1 : decode cX7_isBribed 1 = .ok (.istore_n 2, 1) := by decide +kernel
theorem dX7_isBribed_2 : decode cX7_isBribed 2 = .ok (.iconst 0, 1) := by decide +kernel
theorem dX7_isBribed_3 : decode cX7_isBribed 3 = .ok (.istore_n 3, 1) := by decide +kernel
theorem dX7_isBribed_4 : decode cX7_isBribed 4 = .ok (.iload_n 3, 1) := by decide +kernel
theorem dX7_isBribed_5 : decode cX7_isBribed 5 = .ok (.aload_n 0, 1) := by decide +kernel
theorem dX7_isBribed_6 : decode cX7_isBribed 6 = .ok (.getfield 26, 3) := by decide +kernel
theorem dX7_isBribed_9 : decode cX7_isBribed 9 = .ok (.iconst 0, 1) := by decide +kernel
theorem dX7_isBribed_10 : decode cX7_isBribed 10 = .ok (.iaload, 1) := by decide +kernel
theorem dX7_isBribed_11 : decode cX7_isBribed 11 = .ok (.if_icmp .ge 47, 3) := by decide +kernel
theorem dX7_isBribed_14 : decode cX7_isBribed 14 = .ok (.aload_n 0, 1) := by decide +kernel
theorem dX7_isBribed_15 : decode cX7_isBribed 15 = .ok (.getfield 29, 3) := by decide +kernel
theorem dX7_isBribed_18 : decode cX7_isBribed 18 = .ok (.iload_n 3, 1) := by decide +kernel
theorem dX7_isBribed_19 : decode cX7_isBribed 19 = .ok (.iaload, 1) := by decide +kernel
theorem dX7_isBribed_20 : decode cX7_isBribed 20 = .ok (.istore 4, 2) := by decide +kernel
theorem dX7_isBribed_22 : decode cX7_isBribed 22 = .ok (.iload_n 1, 1) := by decide +kernel
theorem dX7_isBribed_23 : decode cX7_isBribed 23 = .ok (.iload 4, 2) := by decide +kernel
theorem dX7_isBribed_25 : decode cX7_isBribed 25 = .ok (.ishr, 1) := by decide +kernel
theorem dX7_isBribed_26 : decode cX7_isBribed 26 = .ok (.iconst 1, 1) := by decide +kernel
theorem dX7_isBribed_27 : decode cX7_isBribed 27 = .ok (.iand, 1) := by decide +kernel
theorem dX7_isBribed_28 : decode cX7_isBribed 28 = .ok (.iconst 1, 1) := by decide +kernel
theorem dX7_isBribed_29 : decode cX7_isBribed 29 = .ok (.if_icmp .ne 7, 3) := by decide +kernel
theorem dX7_isBribed_32 : decode cX7_isBribed 32 = .ok (.iconst 4, 1) := by decide +kernel
theorem dX7_isBribed_33 : decode cX7_isBribed 33 = .ok (.goto 14, 3) := by decide +kernel
theorem dX7_isBribed_36 : decode cX7_isBribed 36 = .ok (.aload_n 0, 1) := by decide +kernel
theorem dX7_isBribed_37 : decode cX7_isBribed 37 = .ok (.getfield 20, 3) := by decide +kernel
theorem dX7_isBribed_40 : decode cX7_isBribed 40 = .ok (.iconst 5, 1) := by decide +kernel
theorem dX7_isBribed_41 : decode cX7_isBribed 41 = .ok (.iload 4, 2) := by decide +kernel
theorem dX7_isBribed_43 : decode cX7_isBribed 43 = .ok (.imul, 1) := by decide +kernel
theorem dX7_isBribed_44 : decode cX7_isBribed 44 = .ok (.iconst 2, 1) := by decide +kernel
theorem dX7_isBribed_45 : decode cX7_isBribed 45 = .ok (.iadd, 1) := by decide +kernel
theorem dX7_isBribed_46 : decode cX7_isBribed 46 = .ok (.iaload, 1) := by decide +kernel
theorem dX7_isBribed_47 : decode cX7_isBribed 47 = .ok (.iload_n 2, 1) := by decide +kernel
theorem dX7_isBribed_48 : decode cX7_isBribed 48 = .ok (.invokestatic 118, 3) := by decide +kernel
theorem dX7_isBribed_51 : decode cX7_isBribed 51 = .ok (.istore_n 2, 1) := by decide +kernel
theorem dX7_isBribed_52 : decode cX7_isBribed 52 = .ok (.iinc 3 1, 3) := by decide +kernel
theorem dX7_isBribed_55 : decode cX7_isBribed 55 = .ok (.goto (-51), 3) := by decide +kernel
theorem dX7_isBribed_58 : decode cX7_isBribed 58 = .ok (.iload_n 2, 1) := by decide +kernel
theorem dX7_isBribed_59 : decode cX7_isBribed 59 = .ok (.iconst 1, 1) := by decide +kernel
theorem dX7_isBribed_60 : decode cX7_isBribed 60 = .ok (.if_icmp .ne 7, 3) := by decide +kernel
theorem dX7_isBribed_63 : decode cX7_isBribed 63 = .ok (.iconst 1, 1) := by decide +kernel
theorem dX7_isBribed_64 : decode cX7_isBribed 64 = .ok (.goto 4, 3) := by decide +kernel
theorem dX7_isBribed_67 : decode cX7_isBribed 67 = .ok (.iconst 0, 1) := by decide +kernel
theorem dX7_isBribed_68 : decode cX7_isBribed 68 = .ok (.ireturn, 1) := by decide +kernel
theorem dX7_many_0 : decode cX7_many 0 = .ok (.iconst 0, 1) := by decide +kernel
theorem dX7_many_1 : decode cX7_many 1 = .ok (.istore_n 1, 1) := by decide +kernel
theorem dX7_many_2 : decode cX7_many 2 = .ok (.iconst 0, 1) := by decide +kernel
theorem dX7_many_3 : decode cX7_many 3 = .ok (.istore_n 2, 1) := by decide +kernel
theorem dX7_many_4 : decode cX7_many 4 = .ok (.iload_n 2, 1) := by decide +kernel
theorem dX7_many_5 : decode cX7_many 5 = .ok (.bipush 7, 2) := by decide +kernel
theorem dX7_many_7 : decode cX7_many 7 = .ok (.if_icmp .ge 17, 3) := by decide +kernel
theorem dX7_many_10 : decode cX7_many 10 = .ok (.iload_n 1, 1) := by decide +kernel
theorem dX7_many_11 : decode cX7_many 11 = .ok (.iload_n 0, 1) := by decide +kernel
theorem dX7_many_12 : decode cX7_many 12 = .ok (.iload_n 2, 1) := by decide +kernel
theorem dX7_many_13 : decode cX7_many 13 = .ok (.ishr, 1) := by decide +kernel
theorem dX7_many_14 : decode cX7_many 14 = .ok (.iconst 1, 1) := by decide +kernel
theorem dX7_many_15 : decode cX7_many 15 = .ok (.iand, 1) := by decide +kernel
theorem dX7_many_16 : decode cX7_many 16 = .ok (.iadd, 1) := by decide +kernel
theorem dX7_many_17 : decode cX7_many 17 = .ok (.istore_n 1, 1) := by decide +kernel
theorem dX7_many_18 : decode cX7_many 18 = .ok (.iinc 2 1, 3) := by decide +kernel
theorem dX7_many_21 : decode cX7_many 21 = .ok (.goto (-17), 3) := by decide +kernel
theorem dX7_many_24 : decode cX7_many 24 = .ok (.iload_n 1, 1) := by decide +kernel
theorem dX7_many_25 : decode cX7_many 25 = .ok (.ireturn, 1) := by decide +kernel
theorem dX7_bribes_0 : decode cX7_bribes 0 = .ok (.iload_n 1, 1) := by decide +kernel
theorem dX7_bribes_1 : decode cX7_bribes 1 = .ok (.i2l, 1) := by decide +kernel
theorem dX7_bribes_2 : decode cX7_bribes 2 = .ok (.lconst 0, 1) := by decide +kernel
theorem dX7_bribes_3 : decode cX7_bribes 3 = .ok (.lconst 1, 1) := by decide +kernel
theorem dX7_bribes_4 : decode cX7_bribes 4 = .ok (.invokestatic 62, 3) := by decide +kernel
theorem dX7_bribes_7 : decode cX7_bribes 7 = .ok (.ifCond .ne 5, 3) := by decide +kernel
theorem dX7_bribes_10 : decode cX7_bribes 10 = .ok (.iconst (-1), 1) := by decide +kernel
theorem dX7_bribes_11 : decode cX7_bribes 11 = .ok (.ireturn, 1) := by decide +kernel
theorem dX7_bribes_12 : decode cX7_bribes 12 = .ok (.iconst 0, 1) := by decide +kernel
theorem dX7_bribes_13 : decode cX7_bribes 13 = .ok (.istore_n 2, 1) := by decide +kernel
theorem dX7_bribes_14 : decode cX7_bribes 14 = .ok (.iconst 0, 1) := by decide +kernel
theorem dX7_bribes_15 : decode cX7_bribes 15 = .ok (.istore_n 3, 1) := by decide +kernel
theorem dX7_bribes_16 : decode cX7_bribes 16 = .ok (.iload_n 3, 1) := by decide +kernel
theorem dX7_bribes_17 : decode cX7_bribes 17 = .ok (.aload_n 0, 1) := by decide +kernel
theorem dX7_bribes_18 : decode cX7_bribes 18 = .ok (.getfield 26, 3) := by decide +kernel
theorem dX7_bribes_21 : decode cX7_bribes 21 = .ok (.iconst 0, 1) := by decide +kernel
theorem dX7_bribes_22 : decode cX7_bribes 22 = .ok (.iaload, 1) := by decide +kernel
theorem dX7_bribes_23 : decode cX7_bribes 23 = .ok (.if_icmp .ge 20, 3) := by decide +kernel
theorem dX7_bribes_26 : decode cX7_bribes 26 = .ok (.iload_n 2, 1) := by decide +kernel
theorem dX7_bribes_27 : decode cX7_bribes 27 = .ok (.iconst 1, 1) := by decide +kernel
theorem dX7_bribes_28 : decode cX7_bribes 28 = .ok (.aload_n 0, 1) := by decide +kernel
theorem dX7_bribes_29 : decode cX7_bribes 29 = .ok (.getfield 29, 3) := by decide +kernel
theorem dX7_bribes_32 : decode cX7_bribes 32 = .ok (.iload_n 3, 1) := by decide +kernel
theorem dX7_bribes_33 : decode cX7_bribes 33 = .ok (.iaload, 1) := by decide +kernel
theorem dX7_bribes_34 : decode cX7_bribes 34 = .ok (.ishl, 1) := by decide +kernel
theorem dX7_bribes_35 : decode cX7_bribes 35 = .ok (.ior, 1) := by decide +kernel
theorem dX7_bribes_36 : decode cX7_bribes 36 = .ok (.istore_n 2, 1) := by decide +kernel
theorem dX7_bribes_37 : decode cX7_bribes 37 = .ok (.iinc 3 1, 3) := by decide +kernel
theorem dX7_bribes_40 : decode cX7_bribes 40 = .ok (.goto (-24), 3) := by decide +kernel
theorem dX7_bribes_43 : decode cX7_bribes 43 = .ok (.aload_n 0, 1) := by decide +kernel
theorem dX7_bribes_44 : decode cX7_bribes 44 = .ok (.iconst (-1), 1) := by decide +kernel
theorem dX7_bribes_45 : decode cX7_bribes 45 = .ok (.putfield 175, 3) := by decide +kernel
theorem dX7_bribes_48 : decode cX7_bribes 48 = .ok (.iconst 0, 1) := by decide +kernel
theorem dX7_bribes_49 : decode cX7_bribes 49 = .ok (.istore_n 3, 1) := by decide +kernel
theorem dX7_bribes_50 : decode cX7_bribes 50 = .ok (.iload_n 3, 1) := by decide +kernel
theorem dX7_bribes_51 : decode cX7_bribes 51 = .ok (.sipush 128, 3) := by decide +kernel
theorem dX7_bribes_54 : decode cX7_bribes 54 = .ok (.if_icmp .ge 117, 3) := by decide +kernel
theorem dX7_bribes_57 : decode cX7_bribes 57 = .ok (.iload_n 3, 1) := by decide +kernel
theorem dX7_bribes_58 : decode cX7_bribes 58 = .ok (.iload_n 2, 1) := by decide +kernel
theorem dX7_bribes_59 : decode cX7_bribes 59 = .ok (.iconst (-1), 1) := by decide +kernel
theorem dX7_bribes_60 : decode cX7_bribes 60 = .ok (.ixor, 1) := by decide +kernel
theorem dX7_bribes_61 : decode cX7_bribes 61 = .ok (.iand, 1) := by decide +kernel
theorem dX7_bribes_62 : decode cX7_bribes 62 = .ok (.ifCond .ne 103, 3) := by decide +kernel
theorem dX7_bribes_65 : decode cX7_bribes 65 = .ok (.aload_n 0, 1) := by decide +kernel
theorem dX7_bribes_66 : decode cX7_bribes 66 = .ok (.iload_n 3, 1) := by decide +kernel
theorem dX7_bribes_67 : decode cX7_bribes 67 = .ok (.invokevirtual 178, 3) := by decide +kernel
theorem dX7_bribes_70 : decode cX7_bribes 70 = .ok (.ifCond .eq 95, 3) := by decide +kernel
theorem dX7_bribes_73 : decode cX7_bribes 73 = .ok (.iconst 0, 1) := by decide +kernel
theorem dX7_bribes_74 : decode cX7_bribes 74 = .ok (.istore 4, 2) := by decide +kernel
theorem dX7_bribes_76 : decode cX7_bribes 76 = .ok (.iconst 0, 1) := by decide +kernel
theorem dX7_bribes_77 : decode cX7_bribes 77 = .ok (.istore 5, 2) := by decide +kernel
theorem dX7_bribes_79 : decode cX7_bribes 79 = .ok (.iload 5, 2) := by decide +kernel
theorem dX7_bribes_81 : decode cX7_bribes 81 = .ok (.bipush 7, 2) := by decide +kernel
theorem dX7_bribes_83 : decode cX7_bribes 83 = .ok (.if_icmp .ge 32, 3) := by decide +kernel
theorem dX7_bribes_86 : decode cX7_bribes 86 = .ok (.iload 4, 2) := by decide +kernel
theorem dX7_bribes_88 : decode cX7_bribes 88 = .ok (.iload_n 3, 1) := by decide +kernel
theorem dX7_bribes_89 : decode cX7_bribes 89 = .ok (.iload 5, 2) := by decide +kernel
theorem dX7_bribes_91 : decode cX7_bribes 91 = .ok (.ishr, 1) := by decide +kernel
theorem dX7_bribes_92 : decode cX7_bribes 92 = .ok (.iconst 1, 1) := by decide +kernel
theorem dX7_bribes_93 : decode cX7_bribes 93 = .ok (.iand, 1) := by decide +kernel
theorem dX7_bribes_94 : decode cX7_bribes 94 = .ok (.aload_n 0, 1) := by decide +kernel
theorem dX7_bribes_95 : decode cX7_bribes 95 = .ok (.getfield 20, 3) := by decide +kernel
theorem dX7_bribes_98 : decode cX7_bribes 98 = .ok (.iconst 5, 1) := by decide +kernel
theorem dX7_bribes_99 : decode cX7_bribes 99 = .ok (.iload 5, 2) := by decide +kernel
theorem dX7_bribes_101 : decode cX7_bribes 101 = .ok (.imul, 1) := by decide +kernel
theorem dX7_bribes_102 : decode cX7_bribes 102 = .ok (.iconst 4, 1) := by decide +kernel
theorem dX7_bribes_103 : decode cX7_bribes 103 = .ok (.iadd, 1) := by decide +kernel
theorem dX7_bribes_104 : decode cX7_bribes 104 = .ok (.iaload, 1) := by decide +kernel
theorem dX7_bribes_105 : decode cX7_bribes 105 = .ok (.imul, 1) := by decide +kernel
theorem dX7_bribes_106 : decode cX7_bribes 106 = .ok (.iadd, 1) := by decide +kernel
theorem dX7_bribes_107 : decode cX7_bribes 107 = .ok (.istore 4, 2) := by decide +kernel
theorem dX7_bribes_109 : decode cX7_bribes 109 = .ok (.iinc 5 1, 3) := by decide +kernel
theorem dX7_bribes_112 : decode cX7_bribes 112 = .ok (.goto (-33), 3) := by decide +kernel
theorem dX7_bribes_115 : decode cX7_bribes 115 = .ok (.aload_n 0, 1) := by decide +kernel
theorem dX7_bribes_116 : decode cX7_bribes 116 = .ok (.getfield 175, 3) := by decide +kernel
theorem dX7_bribes_119 : decode cX7_bribes 119 = .ok (.ifCond .lt 35, 3) := by decide +kernel
theorem dX7_bribes_122 : decode cX7_bribes 122 = .ok (.iload 4, 2) := by decide +kernel
theorem dX7_bribes_124 : decode cX7_bribes 124 = .ok (.aload_n 0, 1) := by decide +kernel
theorem dX7_bribes_125 : decode cX7_bribes 125 = .ok (.getfield 175, 3) := by decide +kernel
theorem dX7_bribes_128 : decode cX7_bribes 128 = .ok (.if_icmp .lt 26, 3) := by decide +kernel
theorem dX7_bribes_131 : decode cX7_bribes 131 = .ok (.iload 4, 2) := by decide +kernel
theorem dX7_bribes_133 : decode cX7_bribes 133 = .ok (.aload_n 0, 1) := by decide +kernel
theorem dX7_bribes_134 : decode cX7_bribes 134 = .ok (.getfield 175, 3) := by decide +kernel
theorem dX7_bribes_137 : decode cX7_bribes 137 = .ok (.if_icmp .ne 28, 3) := by decide +kernel
theorem dX7_bribes_140 : decode cX7_bribes 140 = .ok (.iload_n 3, 1) := by decide +kernel
theorem dX7_bribes_141 : decode cX7_bribes 141 = .ok (.invokestatic 181, 3) := by decide +kernel
theorem dX7_bribes_144 : decode cX7_bribes 144 = .ok (.aload_n 0, 1) := by decide +kernel
theorem dX7_bribes_145 : decode cX7_bribes 145 = .ok (.getfield 184, 3) := by decide +kernel
theorem dX7_bribes_148 : decode cX7_bribes 148 = .ok (.invokestatic 181, 3) := by decide +kernel
theorem dX7_bribes_151 : decode cX7_bribes 151 = .ok (.if_icmp .ge 14, 3) := by decide +kernel
theorem dX7_bribes_154 : decode cX7_bribes 154 = .ok (.aload_n 0, 1) := by decide +kernel
theorem dX7_bribes_155 : decode cX7_bribes 155 = .ok (.iload 4, 2) := by decide +kernel
theorem dX7_bribes_157 : decode cX7_bribes 157 = .ok (.putfield 175, 3) := by decide +kernel
theorem dX7_bribes_160 : decode cX7_bribes 160 = .ok (.aload_n 0, 1) := by decide +kernel
theorem dX7_bribes_161 : decode cX7_bribes 161 = .ok (.iload_n 3, 1) := by decide +kernel
theorem dX7_bribes_162 : decode cX7_bribes 162 = .ok (.putfield 184, 3) := by decide +kernel
theorem dX7_bribes_165 : decode cX7_bribes 165 = .ok (.iinc 3 1, 3) := by decide +kernel
theorem dX7_bribes_168 : decode cX7_bribes 168 = .ok (.goto (-118), 3) := by decide +kernel
theorem dX7_bribes_171 : decode cX7_bribes 171 = .ok (.aload_n 0, 1) := by decide +kernel
theorem dX7_bribes_172 : decode cX7_bribes 172 = .ok (.getfield 175, 3) := by decide +kernel
theorem dX7_bribes_175 : decode cX7_bribes 175 = .ok (.ifCond .ge 8, 3) := by decide +kernel
theorem dX7_bribes_178 : decode cX7_bribes 178 = .ok (.bipush (-4), 2) := by decide +kernel
theorem dX7_bribes_180 : decode cX7_bribes 180 = .ok (.goto 18, 3) := by decide +kernel
theorem dX7_bribes_183 : decode cX7_bribes 183 = .ok (.iload_n 1, 1) := by decide +kernel
theorem dX7_bribes_184 : decode cX7_bribes 184 = .ok (.ifCond .ne 10, 3) := by decide +kernel
theorem dX7_bribes_187 : decode cX7_bribes 187 = .ok (.aload_n 0, 1) := by decide +kernel
theorem dX7_bribes_188 : decode cX7_bribes 188 = .ok (.getfield 175, 3) := by decide +kernel
theorem dX7_bribes_191 : decode cX7_bribes 191 = .ok (.goto 7, 3) := by decide +kernel
theorem dX7_bribes_194 : decode cX7_bribes 194 = .ok (.aload_n 0, 1) := by decide +kernel
theorem dX7_bribes_195 : decode cX7_bribes 195 = .ok (.getfield 184, 3) := by decide +kernel
theorem dX7_bribes_198 : decode cX7_bribes 198 = .ok (.ireturn, 1) := by decide +kernel
theorem dX7_parrot_0 : decode cX7_parrot 0 = .ok (.iload_n 1, 1) := by decide +kernel
theorem dX7_parrot_1 : decode cX7_parrot 1 = .ok (.i2l, 1) := by decide +kernel
theorem dX7_parrot_2 : decode cX7_parrot 2 = .ok (.lconst 1, 1) := by decide +kernel
theorem dX7_parrot_3 : decode cX7_parrot 3 = .ok (.ldc2_w 170, 3) := by decide +kernel
theorem dX7_parrot_6 : decode cX7_parrot 6 = .ok (.invokestatic 62, 3) := by decide +kernel
theorem dX7_parrot_9 : decode cX7_parrot 9 = .ok (.ifCond .eq 15, 3) := by decide +kernel
theorem dX7_parrot_12 : decode cX7_parrot 12 = .ok (.iload_n 2, 1) := by decide +kernel
theorem dX7_parrot_13 : decode cX7_parrot 13 = .ok (.i2l, 1) := by decide +kernel
theorem dX7_parrot_14 : decode cX7_parrot 14 = .ok (.lconst 0, 1) := by decide +kernel
theorem dX7_parrot_15 : decode cX7_parrot 15 = .ok (.ldc2_w 77, 3) := by decide +kernel
theorem dX7_parrot_18 : decode cX7_parrot 18 = .ok (.invokestatic 62, 3) := by decide +kernel
theorem dX7_parrot_21 : decode cX7_parrot 21 = .ok (.ifCond .ne 5, 3) := by decide +kernel
theorem dX7_parrot_24 : decode cX7_parrot 24 = .ok (.iconst (-1), 1) := by decide +kernel
theorem dX7_parrot_25 : decode cX7_parrot 25 = .ok (.ireturn, 1) := by decide +kernel
theorem dX7_parrot_26 : decode cX7_parrot 26 = .ok (.aload_n 0, 1) := by decide +kernel
theorem dX7_parrot_27 : decode cX7_parrot 27 = .ok (.getfield 26, 3) := by decide +kernel
theorem dX7_parrot_30 : decode cX7_parrot 30 = .ok (.iconst 0, 1) := by decide +kernel
theorem dX7_parrot_31 : decode cX7_parrot 31 = .ok (.iaload, 1) := by decide +kernel
theorem dX7_parrot_32 : decode cX7_parrot 32 = .ok (.iload_n 1, 1) := by decide +kernel
theorem dX7_parrot_33 : decode cX7_parrot 33 = .ok (.isub, 1) := by decide +kernel
theorem dX7_parrot_34 : decode cX7_parrot 34 = .ok (.istore_n 3, 1) := by decide +kernel
theorem dX7_parrot_35 : decode cX7_parrot 35 = .ok (.iload_n 3, 1) := by decide +kernel
theorem dX7_parrot_36 : decode cX7_parrot 36 = .ok (.ifCond .ge 6, 3) := by decide +kernel
theorem dX7_parrot_39 : decode cX7_parrot 39 = .ok (.bipush (-4), 2) := by decide +kernel
theorem dX7_parrot_41 : decode cX7_parrot 41 = .ok (.ireturn, 1) := by decide +kernel
theorem dX7_parrot_42 : decode cX7_parrot 42 = .ok (.iconst 0, 1) := by decide +kernel
theorem dX7_parrot_43 : decode cX7_parrot 43 = .ok (.istore 4, 2) := by decide +kernel
theorem dX7_parrot_45 : decode cX7_parrot 45 = .ok (.ldc2_w 154, 3) := by decide +kernel
theorem dX7_parrot_48 : decode cX7_parrot 48 = .ok (.lstore 5, 2) := by decide +kernel
theorem dX7_parrot_50 : decode cX7_parrot 50 = .ok (.iconst 0, 1) := by decide +kernel
theorem dX7_parrot_51 : decode cX7_parrot 51 = .ok (.istore 7, 2) := by decide +kernel
theorem dX7_parrot_53 : decode cX7_parrot 53 = .ok (.iload 7, 2) := by decide +kernel
theorem dX7_parrot_55 : decode cX7_parrot 55 = .ok (.iload_n 3, 1) := by decide +kernel
theorem dX7_parrot_56 : decode cX7_parrot 56 = .ok (.if_icmp .gt 96, 3) := by decide +kernel
theorem dX7_parrot_59 : decode cX7_parrot 59 = .ok (.aload_n 0, 1) := by decide +kernel
theorem dX7_parrot_60 : decode cX7_parrot 60 = .ok (.invokevirtual 129, 3) := by decide +kernel
theorem dX7_parrot_63 : decode cX7_parrot 63 = .ok (.iconst 0, 1) := by decide +kernel
theorem dX7_parrot_64 : decode cX7_parrot 64 = .ok (.istore 8, 2) := by decide +kernel
theorem dX7_parrot_66 : decode cX7_parrot 66 = .ok (.iload 8, 2) := by decide +kernel
theorem dX7_parrot_68 : decode cX7_parrot 68 = .ok (.iload_n 3, 1) := by decide +kernel
theorem dX7_parrot_69 : decode cX7_parrot 69 = .ok (.if_icmp .ge 36, 3) := by decide +kernel
theorem dX7_parrot_72 : decode cX7_parrot 72 = .ok (.aload_n 0, 1) := by decide +kernel
theorem dX7_parrot_73 : decode cX7_parrot 73 = .ok (.aload_n 0, 1) := by decide +kernel
theorem dX7_parrot_74 : decode cX7_parrot 74 = .ok (.getfield 29, 3) := by decide +kernel
theorem dX7_parrot_77 : decode cX7_parrot 77 = .ok (.iload 8, 2) := by decide +kernel
theorem dX7_parrot_79 : decode cX7_parrot 79 = .ok (.iload 7, 2) := by decide +kernel
theorem dX7_parrot_81 : decode cX7_parrot 81 = .ok (.if_icmp .ge 8, 3) := by decide +kernel
theorem dX7_parrot_84 : decode cX7_parrot 84 = .ok (.iload 8, 2) := by decide +kernel
theorem dX7_parrot_86 : decode cX7_parrot 86 = .ok (.goto 7, 3) := by decide +kernel
theorem dX7_parrot_89 : decode cX7_parrot 89 = .ok (.iload 8, 2) := by decide +kernel
theorem dX7_parrot_91 : decode cX7_parrot 91 = .ok (.iload_n 1, 1) := by decide +kernel
theorem dX7_parrot_92 : decode cX7_parrot 92 = .ok (.iadd, 1) := by decide +kernel
theorem dX7_parrot_93 : decode cX7_parrot 93 = .ok (.iaload, 1) := by decide +kernel
theorem dX7_parrot_94 : decode cX7_parrot 94 = .ok (.iload 8, 2) := by decide +kernel
theorem dX7_parrot_96 : decode cX7_parrot 96 = .ok (.invokevirtual 132, 3) := by decide +kernel
theorem dX7_parrot_99 : decode cX7_parrot 99 = .ok (.iinc 8 1, 3) := by decide +kernel
theorem dX7_parrot_102 : decode cX7_parrot 102 = .ok (.goto (-36), 3) := by decide +kernel
theorem dX7_parrot_105 : decode cX7_parrot 105 = .ok (.aload_n 0, 1) := by decide +kernel
theorem dX7_parrot_106 : decode cX7_parrot 106 = .ok (.iload_n 3, 1) := by decide +kernel
theorem dX7_parrot_107 : decode cX7_parrot 107 = .ok (.invokevirtual 167, 3) := by decide +kernel
theorem dX7_parrot_110 : decode cX7_parrot 110 = .ok (.lstore 8, 2) := by decide +kernel
theorem dX7_parrot_112 : decode cX7_parrot 112 = .ok (.lload 8, 2) := by decide +kernel
theorem dX7_parrot_114 : decode cX7_parrot 114 = .ok (.lload 5, 2) := by decide +kernel
theorem dX7_parrot_116 : decode cX7_parrot 116 = .ok (.lcmp, 1) := by decide +kernel
theorem dX7_parrot_117 : decode cX7_parrot 117 = .ok (.ifCond .le 8, 3) := by decide +kernel
theorem dX7_parrot_120 : decode cX7_parrot 120 = .ok (.iload 7, 2) := by decide +kernel
theorem dX7_parrot_122 : decode cX7_parrot 122 = .ok (.goto 5, 3) := by decide +kernel
theorem dX7_parrot_125 : decode cX7_parrot 125 = .ok (.iload 4, 2) := by decide +kernel
theorem dX7_parrot_127 : decode cX7_parrot 127 = .ok (.istore 4, 2) := by decide +kernel
theorem dX7_parrot_129 : decode cX7_parrot 129 = .ok (.lload 8, 2) := by decide +kernel
theorem dX7_parrot_131 : decode cX7_parrot 131 = .ok (.lload 5, 2) := by decide +kernel
theorem dX7_parrot_133 : decode cX7_parrot 133 = .ok (.lcmp, 1) := by decide +kernel
theorem dX7_parrot_134 : decode cX7_parrot 134 = .ok (.ifCond .le 8, 3) := by decide +kernel
theorem dX7_parrot_137 : decode cX7_parrot 137 = .ok (.lload 8, 2) := by decide +kernel
theorem dX7_parrot_139 : decode cX7_parrot 139 = .ok (.goto 5, 3) := by decide +kernel
theorem dX7_parrot_142 : decode cX7_parrot 142 = .ok (.lload 5, 2) := by decide +kernel
theorem dX7_parrot_144 : decode cX7_parrot 144 = .ok (.lstore 5, 2) := by decide +kernel
theorem dX7_parrot_146 : decode cX7_parrot 146 = .ok (.iinc 7 1, 3) := by decide +kernel
theorem dX7_parrot_149 : decode cX7_parrot 149 = .ok (.goto (-96), 3) := by decide +kernel
theorem dX7_parrot_152 : decode cX7_parrot 152 = .ok (.aload_n 0, 1) := by decide +kernel
theorem dX7_parrot_153 : decode cX7_parrot 153 = .ok (.lload 5, 2) := by decide +kernel
theorem dX7_parrot_155 : decode cX7_parrot 155 = .ok (.ldc2_w 89, 3) := by decide +kernel
theorem dX7_parrot_158 : decode cX7_parrot 158 = .ok (.iload_n 3, 1) := by decide +kernel
theorem dX7_parrot_159 : decode cX7_parrot 159 = .ok (.invokestatic 146, 3) := by decide +kernel
theorem dX7_parrot_162 : decode cX7_parrot 162 = .ok (.lmul, 1) := by decide +kernel
theorem dX7_parrot_163 : decode cX7_parrot 163 = .ok (.invokevirtual 150, 3) := by decide +kernel
theorem dX7_parrot_166 : decode cX7_parrot 166 = .ok (.iload_n 2, 1) := by decide +kernel
theorem dX7_parrot_167 : decode cX7_parrot 167 = .ok (.ifCond .ne 8, 3) := by decide +kernel
theorem dX7_parrot_170 : decode cX7_parrot 170 = .ok (.iload 4, 2) := by decide +kernel
theorem dX7_parrot_172 : decode cX7_parrot 172 = .ok (.goto 20, 3) := by decide +kernel
theorem dX7_parrot_175 : decode cX7_parrot 175 = .ok (.iload_n 2, 1) := by decide +kernel
theorem dX7_parrot_176 : decode cX7_parrot 176 = .ok (.iconst 1, 1) := by decide +kernel
theorem dX7_parrot_177 : decode cX7_parrot 177 = .ok (.if_icmp .ne 10, 3) := by decide +kernel
theorem dX7_parrot_180 : decode cX7_parrot 180 = .ok (.aload_n 0, 1) := by decide +kernel
theorem dX7_parrot_181 : decode cX7_parrot 181 = .ok (.getfield 136, 3) := by decide +kernel
theorem dX7_parrot_184 : decode cX7_parrot 184 = .ok (.goto 7, 3) := by decide +kernel
theorem dX7_parrot_187 : decode cX7_parrot 187 = .ok (.aload_n 0, 1) := by decide +kernel
theorem dX7_parrot_188 : decode cX7_parrot 188 = .ok (.getfield 140, 3) := by decide +kernel
theorem dX7_parrot_191 : decode cX7_parrot 191 = .ok (.l2i, 1) := by decide +kernel
theorem dX7_parrot_192 : decode cX7_parrot 192 = .ok (.ireturn, 1) := by decide +kernel
theorem dX7_tried_0 : decode cX7_tried 0 = .ok (.aload_n 0, 1) := by decide +kernel
theorem dX7_tried_1 : decode cX7_tried 1 = .ok (.getfield 35, 3) := by decide +kernel
theorem dX7_tried_4 : decode cX7_tried 4 = .ok (.iload_n 2, 1) := by decide +kernel
theorem dX7_tried_5 : decode cX7_tried 5 = .ok (.iaload, 1) := by decide +kernel
theorem dX7_tried_6 : decode cX7_tried 6 = .ok (.istore_n 3, 1) := by decide +kernel
theorem dX7_tried_7 : decode cX7_tried 7 = .ok (.iconst 0, 1) := by decide +kernel
theorem dX7_tried_8 : decode cX7_tried 8 = .ok (.istore 4, 2) := by decide +kernel
theorem dX7_tried_10 : decode cX7_tried 10 = .ok (.iload 4, 2) := by decide +kernel
theorem dX7_tried_12 : decode cX7_tried 12 = .ok (.aload_n 0, 1) := by decide +kernel
theorem dX7_tried_13 : decode cX7_tried 13 = .ok (.getfield 26, 3) := by decide +kernel
theorem dX7_tried_16 : decode cX7_tried 16 = .ok (.iconst 0, 1) := by decide +kernel
theorem dX7_tried_17 : decode cX7_tried 17 = .ok (.iaload, 1) := by decide +kernel
theorem dX7_tried_18 : decode cX7_tried 18 = .ok (.if_icmp .ge 100, 3) := by decide +kernel
theorem dX7_tried_21 : decode cX7_tried 21 = .ok (.ldc2_w 187, 3) := by decide +kernel
theorem dX7_tried_24 : decode cX7_tried 24 = .ok (.iload_n 1, 1) := by decide +kernel
theorem dX7_tried_25 : decode cX7_tried 25 = .ok (.i2l, 1) := by decide +kernel
theorem dX7_tried_26 : decode cX7_tried 26 = .ok (.lmul, 1) := by decide +kernel
theorem dX7_tried_27 : decode cX7_tried 27 = .ok (.ldc2_w 189, 3) := by decide +kernel
theorem dX7_tried_30 : decode cX7_tried 30 = .ok (.iload_n 2, 1) := by decide +kernel
theorem dX7_tried_31 : decode cX7_tried 31 = .ok (.i2l, 1) := by decide +kernel
theorem dX7_tried_32 : decode cX7_tried 32 = .ok (.lmul, 1) := by decide +kernel
theorem dX7_tried_33 : decode cX7_tried 33 = .ok (.ladd, 1) := by decide +kernel
theorem dX7_tried_34 : decode cX7_tried 34 = .ok (.ldc2_w 191, 3) := by decide +kernel
theorem dX7_tried_37 : decode cX7_tried 37 = .ok (.iload 4, 2) := by decide +kernel
theorem dX7_tried_39 : decode cX7_tried 39 = .ok (.i2l, 1) := by decide +kernel
theorem dX7_tried_40 : decode cX7_tried 40 = .ok (.lmul, 1) := by decide +kernel
theorem dX7_tried_41 : decode cX7_tried 41 = .ok (.ladd, 1) := by decide +kernel
theorem dX7_tried_42 : decode cX7_tried 42 = .ok (.lconst 1, 1) := by decide +kernel
theorem dX7_tried_43 : decode cX7_tried 43 = .ok (.ladd, 1) := by decide +kernel
theorem dX7_tried_44 : decode cX7_tried 44 = .ok (.lstore 5, 2) := by decide +kernel
theorem dX7_tried_46 : decode cX7_tried 46 = .ok (.aload_n 0, 1) := by decide +kernel
theorem dX7_tried_47 : decode cX7_tried 47 = .ok (.getfield 20, 3) := by decide +kernel
theorem dX7_tried_50 : decode cX7_tried 50 = .ok (.iconst 5, 1) := by decide +kernel
theorem dX7_tried_51 : decode cX7_tried 51 = .ok (.aload_n 0, 1) := by decide +kernel
theorem dX7_tried_52 : decode cX7_tried 52 = .ok (.getfield 29, 3) := by decide +kernel
theorem dX7_tried_55 : decode cX7_tried 55 = .ok (.iload 4, 2) := by decide +kernel
theorem dX7_tried_57 : decode cX7_tried 57 = .ok (.iaload, 1) := by decide +kernel
theorem dX7_tried_58 : decode cX7_tried 58 = .ok (.imul, 1) := by decide +kernel
theorem dX7_tried_59 : decode cX7_tried 59 = .ok (.iconst 2, 1) := by decide +kernel
theorem dX7_tried_60 : decode cX7_tried 60 = .ok (.iadd, 1) := by decide +kernel
theorem dX7_tried_61 : decode cX7_tried 61 = .ok (.iaload, 1) := by decide +kernel
theorem dX7_tried_62 : decode cX7_tried 62 = .ok (.iload_n 3, 1) := by decide +kernel
theorem dX7_tried_63 : decode cX7_tried 63 = .ok (.invokestatic 118, 3) := by decide +kernel
theorem dX7_tried_66 : decode cX7_tried 66 = .ok (.istore_n 3, 1) := by decide +kernel
theorem dX7_tried_67 : decode cX7_tried 67 = .ok (.lload 5, 2) := by decide +kernel
theorem dX7_tried_69 : decode cX7_tried 69 = .ok (.lload 5, 2) := by decide +kernel
theorem dX7_tried_71 : decode cX7_tried 71 = .ok (.lmul, 1) := by decide +kernel
theorem dX7_tried_72 : decode cX7_tried 72 = .ok (.ldc2_w 193, 3) := by decide +kernel
theorem dX7_tried_75 : decode cX7_tried 75 = .ok (.lrem, 1) := by decide +kernel
theorem dX7_tried_76 : decode cX7_tried 76 = .ok (.ldc2_w 89, 3) := by decide +kernel
theorem dX7_tried_79 : decode cX7_tried 79 = .ok (.lrem, 1) := by decide +kernel
theorem dX7_tried_80 : decode cX7_tried 80 = .ok (.aload_n 0, 1) := by decide +kernel
theorem dX7_tried_81 : decode cX7_tried 81 = .ok (.getfield 20, 3) := by decide +kernel
theorem dX7_tried_84 : decode cX7_tried 84 = .ok (.iconst 5, 1) := by decide +kernel
theorem dX7_tried_85 : decode cX7_tried 85 = .ok (.aload_n 0, 1) := by decide +kernel
theorem dX7_tried_86 : decode cX7_tried 86 = .ok (.getfield 29, 3) := by decide +kernel
theorem dX7_tried_89 : decode cX7_tried 89 = .ok (.iload 4, 2) := by decide +kernel
theorem dX7_tried_91 : decode cX7_tried 91 = .ok (.iaload, 1) := by decide +kernel
theorem dX7_tried_92 : decode cX7_tried 92 = .ok (.imul, 1) := by decide +kernel
theorem dX7_tried_93 : decode cX7_tried 93 = .ok (.iconst 3, 1) := by decide +kernel
theorem dX7_tried_94 : decode cX7_tried 94 = .ok (.iadd, 1) := by decide +kernel
theorem dX7_tried_95 : decode cX7_tried 95 = .ok (.iaload, 1) := by decide +kernel
theorem dX7_tried_96 : decode cX7_tried 96 = .ok (.i2l, 1) := by decide +kernel
theorem dX7_tried_97 : decode cX7_tried 97 = .ok (.lcmp, 1) := by decide +kernel
theorem dX7_tried_98 : decode cX7_tried 98 = .ok (.ifCond .lt 12, 3) := by decide +kernel
theorem dX7_tried_101 : decode cX7_tried 101 = .ok (.iload_n 3, 1) := by decide +kernel
theorem dX7_tried_102 : decode cX7_tried 102 = .ok (.iconst 1, 1) := by decide +kernel
theorem dX7_tried_103 : decode cX7_tried 103 = .ok (.iadd, 1) := by decide +kernel
theorem dX7_tried_104 : decode cX7_tried 104 = .ok (.bipush 10, 2) := by decide +kernel
theorem dX7_tried_106 : decode cX7_tried 106 = .ok (.irem, 1) := by decide +kernel
theorem dX7_tried_107 : decode cX7_tried 107 = .ok (.goto 4, 3) := by decide +kernel
theorem dX7_tried_110 : decode cX7_tried 110 = .ok (.iload_n 3, 1) := by decide +kernel
theorem dX7_tried_111 : decode cX7_tried 111 = .ok (.istore_n 3, 1) := by decide +kernel
theorem dX7_tried_112 : decode cX7_tried 112 = .ok (.iinc 4 1, 3) := by decide +kernel
theorem dX7_tried_115 : decode cX7_tried 115 = .ok (.goto (-105), 3) := by decide +kernel
theorem dX7_tried_118 : decode cX7_tried 118 = .ok (.iload_n 3, 1) := by decide +kernel
theorem dX7_tried_119 : decode cX7_tried 119 = .ok (.ireturn, 1) := by decide +kernel
theorem dX7_isSeed_0 : decode cX7_isSeed 0 = .ok (.iload_n 0, 1) := by decide +kernel
theorem dX7_isSeed_1 : decode cX7_isSeed 1 = .ok (.i2l, 1) := by decide +kernel
theorem dX7_isSeed_2 : decode cX7_isSeed 2 = .ok (.lconst 0, 1) := by decide +kernel
theorem dX7_isSeed_3 : decode cX7_isSeed 3 = .ok (.ldc2_w 195, 3) := by decide +kernel
theorem dX7_isSeed_6 : decode cX7_isSeed 6 = .ok (.invokestatic 62, 3) := by decide +kernel
theorem dX7_isSeed_9 : decode cX7_isSeed 9 = .ok (.ireturn, 1) := by decide +kernel
theorem dX7_trial_0 : decode cX7_trial 0 = .ok (.iload_n 1, 1) := by decide +kernel
theorem dX7_trial_1 : decode cX7_trial 1 = .ok (.invokestatic 197, 3) := by decide +kernel
theorem dX7_trial_4 : decode cX7_trial 4 = .ok (.ifCond .eq 7, 3) := by decide +kernel
theorem dX7_trial_7 : decode cX7_trial 7 = .ok (.iload_n 2, 1) := by decide +kernel
theorem dX7_trial_8 : decode cX7_trial 8 = .ok (.ifCond .ge 7, 3) := by decide +kernel
theorem dX7_trial_11 : decode cX7_trial 11 = .ok (.iconst (-1), 1) := by decide +kernel
theorem dX7_trial_12 : decode cX7_trial 12 = .ok (.goto 24, 3) := by decide +kernel
theorem dX7_trial_15 : decode cX7_trial 15 = .ok (.iload_n 2, 1) := by decide +kernel
theorem dX7_trial_16 : decode cX7_trial 16 = .ok (.aload_n 0, 1) := by decide +kernel
theorem dX7_trial_17 : decode cX7_trial 17 = .ok (.getfield 32, 3) := by decide +kernel
theorem dX7_trial_20 : decode cX7_trial 20 = .ok (.iconst 0, 1) := by decide +kernel
theorem dX7_trial_21 : decode cX7_trial 21 = .ok (.iaload, 1) := by decide +kernel
theorem dX7_trial_22 : decode cX7_trial 22 = .ok (.if_icmp .lt 8, 3) := by decide +kernel
theorem dX7_trial_25 : decode cX7_trial 25 = .ok (.bipush (-4), 2) := by decide +kernel
theorem dX7_trial_27 : decode cX7_trial 27 = .ok (.goto 9, 3) := by decide +kernel
theorem dX7_trial_30 : decode cX7_trial 30 = .ok (.aload_n 0, 1) := by decide +kernel
theorem dX7_trial_31 : decode cX7_trial 31 = .ok (.iload_n 1, 1) := by decide +kernel
theorem dX7_trial_32 : decode cX7_trial 32 = .ok (.iload_n 2, 1) := by decide +kernel
theorem dX7_trial_33 : decode cX7_trial 33 = .ok (.invokevirtual 200, 3) := by decide +kernel
theorem dX7_trial_36 : decode cX7_trial 36 = .ok (.ireturn, 1) := by decide +kernel
theorem dX7_verdict_0 : decode cX7_verdict 0 = .ok (.iload_n 0, 1) := by decide +kernel
theorem dX7_verdict_1 : decode cX7_verdict 1 = .ok (.ifCond .le 7, 3) := by decide +kernel
theorem dX7_verdict_4 : decode cX7_verdict 4 = .ok (.iconst 1, 1) := by decide +kernel
theorem dX7_verdict_5 : decode cX7_verdict 5 = .ok (.goto 12, 3) := by decide +kernel
theorem dX7_verdict_8 : decode cX7_verdict 8 = .ok (.iload_n 0, 1) := by decide +kernel
theorem dX7_verdict_9 : decode cX7_verdict 9 = .ok (.ifCond .ge 7, 3) := by decide +kernel
theorem dX7_verdict_12 : decode cX7_verdict 12 = .ok (.iconst 2, 1) := by decide +kernel
theorem dX7_verdict_13 : decode cX7_verdict 13 = .ok (.goto 4, 3) := by decide +kernel
theorem dX7_verdict_16 : decode cX7_verdict 16 = .ok (.iconst 0, 1) := by decide +kernel
theorem dX7_verdict_17 : decode cX7_verdict 17 = .ok (.ireturn, 1) := by decide +kernel
theorem dX7_leans_0 : decode cX7_leans 0 = .ok (.iload_n 0, 1) := by decide +kernel
theorem dX7_leans_1 : decode cX7_leans 1 = .ok (.iconst 1, 1) := by decide +kernel
theorem dX7_leans_2 : decode cX7_leans 2 = .ok (.if_icmp .ne 7, 3) := by decide +kernel
theorem dX7_leans_5 : decode cX7_leans 5 = .ok (.iconst 1, 1) := by decide +kernel
theorem dX7_leans_6 : decode cX7_leans 6 = .ok (.goto 13, 3) := by decide +kernel
theorem dX7_leans_9 : decode cX7_leans 9 = .ok (.iload_n 0, 1) := by decide +kernel
theorem dX7_leans_10 : decode cX7_leans 10 = .ok (.iconst 2, 1) := by decide +kernel
theorem dX7_leans_11 : decode cX7_leans 11 = .ok (.if_icmp .ne 7, 3) := by decide +kernel
theorem dX7_leans_14 : decode cX7_leans 14 = .ok (.iconst (-1), 1) := by decide +kernel
theorem dX7_leans_15 : decode cX7_leans 15 = .ok (.goto 4, 3) := by decide +kernel
theorem dX7_leans_18 : decode cX7_leans 18 = .ok (.iconst 0, 1) := by decide +kernel
theorem dX7_leans_19 : decode cX7_leans 19 = .ok (.ireturn, 1) := by decide +kernel
theorem dX7_falls_0 : decode cX7_falls 0 = .ok (.iload_n 1, 1) := by decide +kernel
theorem dX7_falls_1 : decode cX7_falls 1 = .ok (.invokestatic 197, 3) := by decide +kernel
theorem dX7_falls_4 : decode cX7_falls 4 = .ok (.ifCond .ne 5, 3) := by decide +kernel
theorem dX7_falls_7 : decode cX7_falls 7 = .ok (.iconst (-1), 1) := by decide +kernel
theorem dX7_falls_8 : decode cX7_falls 8 = .ok (.ireturn, 1) := by decide +kernel
theorem dX7_falls_9 : decode cX7_falls 9 = .ok (.iconst 0, 1) := by decide +kernel
theorem dX7_falls_10 : decode cX7_falls 10 = .ok (.istore_n 2, 1) := by decide +kernel
theorem dX7_falls_11 : decode cX7_falls 11 = .ok (.iconst 0, 1) := by decide +kernel
theorem dX7_falls_12 : decode cX7_falls 12 = .ok (.istore_n 3, 1) := by decide +kernel
theorem dX7_falls_13 : decode cX7_falls 13 = .ok (.iload_n 3, 1) := by decide +kernel
theorem dX7_falls_14 : decode cX7_falls 14 = .ok (.bipush 10, 2) := by decide +kernel
theorem dX7_falls_16 : decode cX7_falls 16 = .ok (.if_icmp .ge 92, 3) := by decide +kernel
theorem dX7_falls_19 : decode cX7_falls 19 = .ok (.iconst 0, 1) := by decide +kernel
theorem dX7_falls_20 : decode cX7_falls 20 = .ok (.istore 4, 2) := by decide +kernel
theorem dX7_falls_22 : decode cX7_falls 22 = .ok (.iconst 0, 1) := by decide +kernel
theorem dX7_falls_23 : decode cX7_falls 23 = .ok (.istore 5, 2) := by decide +kernel
theorem dX7_falls_25 : decode cX7_falls 25 = .ok (.iconst 0, 1) := by decide +kernel
theorem dX7_falls_26 : decode cX7_falls 26 = .ok (.istore 6, 2) := by decide +kernel
theorem dX7_falls_28 : decode cX7_falls 28 = .ok (.iload 6, 2) := by decide +kernel
theorem dX7_falls_30 : decode cX7_falls 30 = .ok (.aload_n 0, 1) := by decide +kernel
theorem dX7_falls_31 : decode cX7_falls 31 = .ok (.getfield 32, 3) := by decide +kernel
theorem dX7_falls_34 : decode cX7_falls 34 = .ok (.iconst 0, 1) := by decide +kernel
theorem dX7_falls_35 : decode cX7_falls 35 = .ok (.iaload, 1) := by decide +kernel
theorem dX7_falls_36 : decode cX7_falls 36 = .ok (.if_icmp .ge 45, 3) := by decide +kernel
theorem dX7_falls_39 : decode cX7_falls 39 = .ok (.iload 4, 2) := by decide +kernel
theorem dX7_falls_41 : decode cX7_falls 41 = .ok (.aload_n 0, 1) := by decide +kernel
theorem dX7_falls_42 : decode cX7_falls 42 = .ok (.getfield 35, 3) := by decide +kernel
theorem dX7_falls_45 : decode cX7_falls 45 = .ok (.iload 6, 2) := by decide +kernel
theorem dX7_falls_47 : decode cX7_falls 47 = .ok (.iaload, 1) := by decide +kernel
theorem dX7_falls_48 : decode cX7_falls 48 = .ok (.invokestatic 203, 3) := by decide +kernel
theorem dX7_falls_51 : decode cX7_falls 51 = .ok (.iadd, 1) := by decide +kernel
theorem dX7_falls_52 : decode cX7_falls 52 = .ok (.istore 4, 2) := by decide +kernel
theorem dX7_falls_54 : decode cX7_falls 54 = .ok (.iload 5, 2) := by decide +kernel
theorem dX7_falls_56 : decode cX7_falls 56 = .ok (.aload_n 0, 1) := by decide +kernel
theorem dX7_falls_57 : decode cX7_falls 57 = .ok (.iload_n 1, 1) := by decide +kernel
theorem dX7_falls_58 : decode cX7_falls 58 = .ok (.iload_n 3, 1) := by decide +kernel
theorem dX7_falls_59 : decode cX7_falls 59 = .ok (.iadd, 1) := by decide +kernel
theorem dX7_falls_60 : decode cX7_falls 60 = .ok (.sipush 10000, 3) := by decide +kernel
theorem dX7_falls_63 : decode cX7_falls 63 = .ok (.irem, 1) := by decide +kernel
theorem dX7_falls_64 : decode cX7_falls 64 = .ok (.iload 6, 2) := by decide +kernel
theorem dX7_falls_66 : decode cX7_falls 66 = .ok (.invokevirtual 200, 3) := by decide +kernel
theorem dX7_falls_69 : decode cX7_falls 69 = .ok (.invokestatic 203, 3) := by decide +kernel
theorem dX7_falls_72 : decode cX7_falls 72 = .ok (.iadd, 1) := by decide +kernel
theorem dX7_falls_73 : decode cX7_falls 73 = .ok (.istore 5, 2) := by decide +kernel
theorem dX7_falls_75 : decode cX7_falls 75 = .ok (.iinc 6 1, 3) := by decide +kernel
theorem dX7_falls_78 : decode cX7_falls 78 = .ok (.goto (-50), 3) := by decide +kernel
theorem dX7_falls_81 : decode cX7_falls 81 = .ok (.iload_n 2, 1) := by decide +kernel
theorem dX7_falls_82 : decode cX7_falls 82 = .ok (.iload 4, 2) := by decide +kernel
theorem dX7_falls_84 : decode cX7_falls 84 = .ok (.invokestatic 206, 3) := by decide +kernel
theorem dX7_falls_87 : decode cX7_falls 87 = .ok (.iload 5, 2) := by decide +kernel
theorem dX7_falls_89 : decode cX7_falls 89 = .ok (.invokestatic 206, 3) := by decide +kernel
theorem dX7_falls_92 : decode cX7_falls 92 = .ok (.if_icmp .ne 7, 3) := by decide +kernel
theorem dX7_falls_95 : decode cX7_falls 95 = .ok (.iconst 0, 1) := by decide +kernel
theorem dX7_falls_96 : decode cX7_falls 96 = .ok (.goto 4, 3) := by decide +kernel
theorem dX7_falls_99 : decode cX7_falls 99 = .ok (.iconst 1, 1) := by decide +kernel
theorem dX7_falls_100 : decode cX7_falls 100 = .ok (.iadd, 1) := by decide +kernel
theorem dX7_falls_101 : decode cX7_falls 101 = .ok (.istore_n 2, 1) := by decide +kernel
theorem dX7_falls_102 : decode cX7_falls 102 = .ok (.iinc 3 1, 3) := by decide +kernel
theorem dX7_falls_105 : decode cX7_falls 105 = .ok (.goto (-92), 3) := by decide +kernel
theorem dX7_falls_108 : decode cX7_falls 108 = .ok (.iload_n 2, 1) := by decide +kernel
theorem dX7_falls_109 : decode cX7_falls 109 = .ok (.ireturn, 1) := by decide +kernel
theorem dX7_copies_0 : decode cX7_copies 0 = .ok (.aload_n 0, 1) := by decide +kernel
theorem dX7_copies_1 : decode cX7_copies 1 = .ok (.getfield 26, 3) := by decide +kernel
theorem dX7_copies_4 : decode cX7_copies 4 = .ok (.iload_n 2, 1) := by decide +kernel
theorem dX7_copies_5 : decode cX7_copies 5 = .ok (.aload_n 0, 1) := by decide +kernel
theorem dX7_copies_6 : decode cX7_copies 6 = .ok (.getfield 26, 3) := by decide +kernel
theorem dX7_copies_9 : decode cX7_copies 9 = .ok (.iload_n 1, 1) := by decide +kernel
theorem dX7_copies_10 : decode cX7_copies 10 = .ok (.iaload, 1) := by decide +kernel
theorem dX7_copies_11 : decode cX7_copies 11 = .ok (.iastore, 1) := by decide +kernel
theorem dX7_copies_12 : decode cX7_copies 12 = .ok (.aload_n 0, 1) := by decide +kernel
theorem dX7_copies_13 : decode cX7_copies 13 = .ok (.getfield 32, 3) := by decide +kernel
theorem dX7_copies_16 : decode cX7_copies 16 = .ok (.iload_n 2, 1) := by decide +kernel
theorem dX7_copies_17 : decode cX7_copies 17 = .ok (.aload_n 0, 1) := by decide +kernel
theorem dX7_copies_18 : decode cX7_copies 18 = .ok (.getfield 32, 3) := by decide +kernel
theorem dX7_copies_21 : decode cX7_copies 21 = .ok (.iload_n 1, 1) := by decide +kernel
theorem dX7_copies_22 : decode cX7_copies 22 = .ok (.iaload, 1) := by decide +kernel
