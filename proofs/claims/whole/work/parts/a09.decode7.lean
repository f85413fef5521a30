theorem dX7_word_17 : decode cX7_word 17 = .ok (.if_icmp .ne 6, 3) := by decide +kernel
theorem dX7_word_20 : decode cX7_word 20 = .ok (.bipush (-3), 2) := by decide +kernel
theorem dX7_word_22 : decode cX7_word 22 = .ok (.ireturn, 1) := by decide +kernel
theorem dX7_word_23 : decode cX7_word 23 = .ok (.aload_n 0, 1) := by decide +kernel
theorem dX7_word_24 : decode cX7_word 24 = .ok (.getfield 35, 3) := by decide +kernel
theorem dX7_word_27 : decode cX7_word 27 = .ok (.aload_n 0, 1) := by decide +kernel
theorem dX7_word_28 : decode cX7_word 28 = .ok (.getfield 32, 3) := by decide +kernel
theorem dX7_word_31 : decode cX7_word 31 = .ok (.iconst 0, 1) := by decide +kernel
theorem dX7_word_32 : decode cX7_word 32 = .ok (.iaload, 1) := by decide +kernel
theorem dX7_word_33 : decode cX7_word 33 = .ok (.iload_n 1, 1) := by decide +kernel
theorem dX7_word_34 : decode cX7_word 34 = .ok (.iastore, 1) := by decide +kernel
theorem dX7_word_35 : decode cX7_word 35 = .ok (.aload_n 0, 1) := by decide +kernel
theorem dX7_word_36 : decode cX7_word 36 = .ok (.getfield 32, 3) := by decide +kernel
theorem dX7_word_39 : decode cX7_word 39 = .ok (.iconst 0, 1) := by decide +kernel
theorem dX7_word_40 : decode cX7_word 40 = .ok (.dup2, 1) := by decide +kernel
theorem dX7_word_41 : decode cX7_word 41 = .ok (.iaload, 1) := by decide +kernel
theorem dX7_word_42 : decode cX7_word 42 = .ok (.iconst 1, 1) := by decide +kernel
theorem dX7_word_43 : decode cX7_word 43 = .ok (.iadd, 1) := by decide +kernel
theorem dX7_word_44 : decode cX7_word 44 = .ok (.iastore, 1) := by decide +kernel
theorem dX7_word_45 : decode cX7_word 45 = .ok (.aload_n 0, 1) := by decide +kernel
theorem dX7_word_46 : decode cX7_word 46 = .ok (.getfield 32, 3) := by decide +kernel
theorem dX7_word_49 : decode cX7_word 49 = .ok (.iconst 0, 1) := by decide +kernel
theorem dX7_word_50 : decode cX7_word 50 = .ok (.iaload, 1) := by decide +kernel
theorem dX7_word_51 : decode cX7_word 51 = .ok (.ireturn, 1) := by decide +kernel
theorem dX7_silence_0 : decode cX7_silence 0 = .ok (.aload_n 0, 1) := by decide +kernel
theorem dX7_silence_1 : decode cX7_silence 1 = .ok (.getfield 32, 3) := by decide +kernel
theorem dX7_silence_4 : decode cX7_silence 4 = .ok (.iconst 0, 1) := by decide +kernel
theorem dX7_silence_5 : decode cX7_silence 5 = .ok (.iaload, 1) := by decide +kernel
theorem dX7_silence_6 : decode cX7_silence 6 = .ok (.istore_n 1, 1) := by decide +kernel
theorem dX7_silence_7 : decode cX7_silence 7 = .ok (.aload_n 0, 1) := by decide +kernel
theorem dX7_silence_8 : decode cX7_silence 8 = .ok (.getfield 32, 3) := by decide +kernel
theorem dX7_silence_11 : decode cX7_silence 11 = .ok (.iconst 0, 1) := by decide +kernel
theorem dX7_silence_12 : decode cX7_silence 12 = .ok (.iconst 0, 1) := by decide +kernel
theorem dX7_silence_13 : decode cX7_silence 13 = .ok (.iastore, 1) := by decide +kernel
theorem dX7_silence_14 : decode cX7_silence 14 = .ok (.iload_n 1, 1) := by decide +kernel
theorem dX7_silence_15 : decode cX7_silence 15 = .ok (.ireturn, 1) := by decide +kernel
theorem dX7_said_0 : decode cX7_said 0 = .ok (.iload_n 1, 1) := by decide +kernel
theorem dX7_said_1 : decode cX7_said 1 = .ok (.ifCond .lt 19, 3) := by decide +kernel
theorem dX7_said_4 : decode cX7_said 4 = .ok (.iload_n 2, 1) := by decide +kernel
theorem dX7_said_5 : decode cX7_said 5 = .ok (.i2l, 1) := by decide +kernel
theorem dX7_said_6 : decode cX7_said 6 = .ok (.lconst 0, 1) := by decide +kernel
theorem dX7_said_7 : decode cX7_said 7 = .ok (.aload_n 0, 1) := by decide +kernel
theorem dX7_said_8 : decode cX7_said 8 = .ok (.getfield 26, 3) := by decide +kernel
theorem dX7_said_11 : decode cX7_said 11 = .ok (.iconst 0, 1) := by decide +kernel
theorem dX7_said_12 : decode cX7_said 12 = .ok (.iaload, 1) := by decide +kernel
theorem dX7_said_13 : decode cX7_said 13 = .ok (.i2l, 1) := by decide +kernel
theorem dX7_said_14 : decode cX7_said 14 = .ok (.invokestatic 62, 3) := by decide +kernel
theorem dX7_said_17 : decode cX7_said 17 = .ok (.ifCond .ne 5, 3) := by decide +kernel
theorem dX7_said_20 : decode cX7_said 20 = .ok (.iconst (-1), 1) := by decide +kernel
theorem dX7_said_21 : decode cX7_said 21 = .ok (.ireturn, 1) := by decide +kernel
theorem dX7_said_22 : decode cX7_said 22 = .ok (.iload_n 1, 1) := by decide +kernel
theorem dX7_said_23 : decode cX7_said 23 = .ok (.aload_n 0, 1) := by decide +kernel
theorem dX7_said_24 : decode cX7_said 24 = .ok (.getfield 32, 3) := by decide +kernel
theorem dX7_said_27 : decode cX7_said 27 = .ok (.iconst 0, 1) := by decide +kernel
theorem dX7_said_28 : decode cX7_said 28 = .ok (.iaload, 1) := by decide +kernel
theorem dX7_said_29 : decode cX7_said 29 = .ok (.if_icmp .lt 6, 3) := by decide +kernel
theorem dX7_said_32 : decode cX7_said 32 = .ok (.bipush (-4), 2) := by decide +kernel
theorem dX7_said_34 : decode cX7_said 34 = .ok (.ireturn, 1) := by decide +kernel
theorem dX7_said_35 : decode cX7_said 35 = .ok (.aload_n 0, 1) := by decide +kernel
theorem dX7_said_36 : decode cX7_said 36 = .ok (.getfield 35, 3) := by decide +kernel
theorem dX7_said_39 : decode cX7_said 39 = .ok (.iload_n 1, 1) := by decide +kernel
theorem dX7_said_40 : decode cX7_said 40 = .ok (.iaload, 1) := by decide +kernel
theorem dX7_said_41 : decode cX7_said 41 = .ok (.istore_n 3, 1) := by decide +kernel
theorem dX7_said_42 : decode cX7_said 42 = .ok (.iconst 0, 1) := by decide +kernel
theorem dX7_said_43 : decode cX7_said 43 = .ok (.istore 4, 2) := by decide +kernel
theorem dX7_said_45 : decode cX7_said 45 = .ok (.iload 4, 2) := by decide +kernel
theorem dX7_said_47 : decode cX7_said 47 = .ok (.iload_n 2, 1) := by decide +kernel
theorem dX7_said_48 : decode cX7_said 48 = .ok (.if_icmp .ge 30, 3) := by decide +kernel
theorem dX7_said_51 : decode cX7_said 51 = .ok (.aload_n 0, 1) := by decide +kernel
theorem dX7_said_52 : decode cX7_said 52 = .ok (.getfield 20, 3) := by decide +kernel
theorem dX7_said_55 : decode cX7_said 55 = .ok (.iconst 5, 1) := by decide +kernel
theorem dX7_said_56 : decode cX7_said 56 = .ok (.aload_n 0, 1) := by decide +kernel
theorem dX7_said_57 : decode cX7_said 57 = .ok (.getfield 29, 3) := by decide +kernel
theorem dX7_said_60 : decode cX7_said 60 = .ok (.iload 4, 2) := by decide +kernel
theorem dX7_said_62 : decode cX7_said 62 = .ok (.iaload, 1) := by decide +kernel
theorem dX7_said_63 : decode cX7_said 63 = .ok (.imul, 1) := by decide +kernel
theorem dX7_said_64 : decode cX7_said 64 = .ok (.iconst 2, 1) := by decide +kernel
theorem dX7_said_65 : decode cX7_said 65 = .ok (.iadd, 1) := by decide +kernel
theorem dX7_said_66 : decode cX7_said 66 = .ok (.iaload, 1) := by decide +kernel
theorem dX7_said_67 : decode cX7_said 67 = .ok (.iload_n 3, 1) := by decide +kernel
theorem dX7_said_68 : decode cX7_said 68 = .ok (.invokestatic 118, 3) := by decide +kernel
theorem dX7_said_71 : decode cX7_said 71 = .ok (.istore_n 3, 1) := by decide +kernel
theorem dX7_said_72 : decode cX7_said 72 = .ok (.iinc 4 1, 3) := by decide +kernel
theorem dX7_said_75 : decode cX7_said 75 = .ok (.goto (-30), 3) := by decide +kernel
theorem dX7_said_78 : decode cX7_said 78 = .ok (.iload_n 3, 1) := by decide +kernel
theorem dX7_said_79 : decode cX7_said 79 = .ok (.ireturn, 1) := by decide +kernel
theorem dX7_starts_0 : decode cX7_starts 0 = .ok (.iconst 0, 1) := by decide +kernel
theorem dX7_starts_1 : decode cX7_starts 1 = .ok (.istore_n 1, 1) := by decide +kernel
theorem dX7_starts_2 : decode cX7_starts 2 = .ok (.iload_n 1, 1) := by decide +kernel
theorem dX7_starts_3 : decode cX7_starts 3 = .ok (.bipush 100, 2) := by decide +kernel
theorem dX7_starts_5 : decode cX7_starts 5 = .ok (.if_icmp .ge 31, 3) := by decide +kernel
theorem dX7_starts_8 : decode cX7_starts 8 = .ok (.aload_n 0, 1) := by decide +kernel
theorem dX7_starts_9 : decode cX7_starts 9 = .ok (.getfield 41, 3) := by decide +kernel
theorem dX7_starts_12 : decode cX7_starts 12 = .ok (.iload_n 1, 1) := by decide +kernel
theorem dX7_starts_13 : decode cX7_starts 13 = .ok (.iload_n 1, 1) := by decide +kernel
theorem dX7_starts_14 : decode cX7_starts 14 = .ok (.bipush 10, 2) := by decide +kernel
theorem dX7_starts_16 : decode cX7_starts 16 = .ok (.idiv, 1) := by decide +kernel
theorem dX7_starts_17 : decode cX7_starts 17 = .ok (.iload_n 1, 1) := by decide +kernel
theorem dX7_starts_18 : decode cX7_starts 18 = .ok (.bipush 10, 2) := by decide +kernel
theorem dX7_starts_20 : decode cX7_starts 20 = .ok (.irem, 1) := by decide +kernel
theorem dX7_starts_21 : decode cX7_starts 21 = .ok (.if_icmp .ne 7, 3) := by decide +kernel
theorem dX7_starts_24 : decode cX7_starts 24 = .ok (.lconst 1, 1) := by decide +kernel
theorem dX7_starts_25 : decode cX7_starts 25 = .ok (.goto 4, 3) := by decide +kernel
theorem dX7_starts_28 : decode cX7_starts 28 = .ok (.lconst 0, 1) := by decide +kernel
theorem dX7_starts_29 : decode cX7_starts 29 = .ok (.lastore, 1) := by decide +kernel
theorem dX7_starts_30 : decode cX7_starts 30 = .ok (.iinc 1 1, 3) := by decide +kernel
theorem dX7_starts_33 : decode cX7_starts 33 = .ok (.goto (-31), 3) := by decide +kernel
theorem dX7_starts_36 : decode cX7_starts 36 = .ok (.return_, 1) := by decide +kernel
theorem dX7_goes_0 : decode cX7_goes 0 = .ok (.bipush 100, 2) := by decide +kernel
theorem dX7_goes_2 : decode cX7_goes 2 = .ok (.iload_n 2, 1) := by decide +kernel
theorem dX7_goes_3 : decode cX7_goes 3 = .ok (.imul, 1) := by decide +kernel
theorem dX7_goes_4 : decode cX7_goes 4 = .ok (.istore_n 3, 1) := by decide +kernel
theorem dX7_goes_5 : decode cX7_goes 5 = .ok (.aload_n 0, 1) := by decide +kernel
theorem dX7_goes_6 : decode cX7_goes 6 = .ok (.getfield 20, 3) := by decide +kernel
theorem dX7_goes_9 : decode cX7_goes 9 = .ok (.iconst 5, 1) := by decide +kernel
theorem dX7_goes_10 : decode cX7_goes 10 = .ok (.iload_n 1, 1) := by decide +kernel
theorem dX7_goes_11 : decode cX7_goes 11 = .ok (.imul, 1) := by decide +kernel
theorem dX7_goes_12 : decode cX7_goes 12 = .ok (.iconst 3, 1) := by decide +kernel
theorem dX7_goes_13 : decode cX7_goes 13 = .ok (.iadd, 1) := by decide +kernel
theorem dX7_goes_14 : decode cX7_goes 14 = .ok (.iaload, 1) := by decide +kernel
theorem dX7_goes_15 : decode cX7_goes 15 = .ok (.istore 4, 2) := by decide +kernel
theorem dX7_goes_17 : decode cX7_goes 17 = .ok (.iconst 0, 1) := by decide +kernel
theorem dX7_goes_18 : decode cX7_goes 18 = .ok (.istore 5, 2) := by decide +kernel
theorem dX7_goes_20 : decode cX7_goes 20 = .ok (.iload 5, 2) := by decide +kernel
theorem dX7_goes_22 : decode cX7_goes 22 = .ok (.bipush 100, 2) := by decide +kernel
theorem dX7_goes_24 : decode cX7_goes 24 = .ok (.if_icmp .ge 22, 3) := by decide +kernel
theorem dX7_goes_27 : decode cX7_goes 27 = .ok (.aload_n 0, 1) := by decide +kernel
theorem dX7_goes_28 : decode cX7_goes 28 = .ok (.getfield 41, 3) := by decide +kernel
theorem dX7_goes_31 : decode cX7_goes 31 = .ok (.iload_n 3, 1) := by decide +kernel
theorem dX7_goes_32 : decode cX7_goes 32 = .ok (.bipush 100, 2) := by decide +kernel
theorem dX7_goes_34 : decode cX7_goes 34 = .ok (.iadd, 1) := by decide +kernel
theorem dX7_goes_35 : decode cX7_goes 35 = .ok (.iload 5, 2) := by decide +kernel
theorem dX7_goes_37 : decode cX7_goes 37 = .ok (.iadd, 1) := by decide +kernel
theorem dX7_goes_38 : decode cX7_goes 38 = .ok (.lconst 0, 1) := by decide +kernel
theorem dX7_goes_39 : decode cX7_goes 39 = .ok (.lastore, 1) := by decide +kernel
theorem dX7_goes_40 : decode cX7_goes 40 = .ok (.iinc 5 1, 3) := by decide +kernel
theorem dX7_goes_43 : decode cX7_goes 43 = .ok (.goto (-23), 3) := by decide +kernel
theorem dX7_goes_46 : decode cX7_goes 46 = .ok (.iconst 0, 1) := by decide +kernel
theorem dX7_goes_47 : decode cX7_goes 47 = .ok (.istore 5, 2) := by decide +kernel
theorem dX7_goes_49 : decode cX7_goes 49 = .ok (.iload 5, 2) := by decide +kernel
theorem dX7_goes_51 : decode cX7_goes 51 = .ok (.bipush 100, 2) := by decide +kernel
theorem dX7_goes_53 : decode cX7_goes 53 = .ok (.if_icmp .ge 109, 3) := by decide +kernel
theorem dX7_goes_56 : decode cX7_goes 56 = .ok (.aload_n 0, 1) := by decide +kernel
theorem dX7_goes_57 : decode cX7_goes 57 = .ok (.getfield 20, 3) := by decide +kernel
theorem dX7_goes_60 : decode cX7_goes 60 = .ok (.iconst 5, 1) := by decide +kernel
theorem dX7_goes_61 : decode cX7_goes 61 = .ok (.iload_n 1, 1) := by decide +kernel
theorem dX7_goes_62 : decode cX7_goes 62 = .ok (.imul, 1) := by decide +kernel
theorem dX7_goes_63 : decode cX7_goes 63 = .ok (.iconst 2, 1) := by decide +kernel
theorem dX7_goes_64 : decode cX7_goes 64 = .ok (.iadd, 1) := by decide +kernel
theorem dX7_goes_65 : decode cX7_goes 65 = .ok (.iaload, 1) := by decide +kernel
theorem dX7_goes_66 : decode cX7_goes 66 = .ok (.iload 5, 2) := by decide +kernel
theorem dX7_goes_68 : decode cX7_goes 68 = .ok (.bipush 10, 2) := by decide +kernel
theorem dX7_goes_70 : decode cX7_goes 70 = .ok (.irem, 1) := by decide +kernel
theorem dX7_goes_71 : decode cX7_goes 71 = .ok (.invokestatic 118, 3) := by decide +kernel
theorem dX7_goes_74 : decode cX7_goes 74 = .ok (.istore 6, 2) := by decide +kernel
theorem dX7_goes_76 : decode cX7_goes 76 = .ok (.iload 5, 2) := by decide +kernel
theorem dX7_goes_78 : decode cX7_goes 78 = .ok (.iload 5, 2) := by decide +kernel
theorem dX7_goes_80 : decode cX7_goes 80 = .ok (.bipush 10, 2) := by decide +kernel
theorem dX7_goes_82 : decode cX7_goes 82 = .ok (.irem, 1) := by decide +kernel
theorem dX7_goes_83 : decode cX7_goes 83 = .ok (.isub, 1) := by decide +kernel
theorem dX7_goes_84 : decode cX7_goes 84 = .ok (.istore 7, 2) := by decide +kernel
theorem dX7_goes_86 : decode cX7_goes 86 = .ok (.aload_n 0, 1) := by decide +kernel
theorem dX7_goes_87 : decode cX7_goes 87 = .ok (.getfield 41, 3) := by decide +kernel
theorem dX7_goes_90 : decode cX7_goes 90 = .ok (.iload_n 3, 1) := by decide +kernel
theorem dX7_goes_91 : decode cX7_goes 91 = .ok (.bipush 100, 2) := by decide +kernel
theorem dX7_goes_93 : decode cX7_goes 93 = .ok (.iadd, 1) := by decide +kernel
theorem dX7_goes_94 : decode cX7_goes 94 = .ok (.iload 7, 2) := by decide +kernel
theorem dX7_goes_96 : decode cX7_goes 96 = .ok (.iadd, 1) := by decide +kernel
theorem dX7_goes_97 : decode cX7_goes 97 = .ok (.iload 6, 2) := by decide +kernel
theorem dX7_goes_99 : decode cX7_goes 99 = .ok (.iadd, 1) := by decide +kernel
theorem dX7_goes_100 : decode cX7_goes 100 = .ok (.dup2, 1) := by decide +kernel
theorem dX7_goes_101 : decode cX7_goes 101 = .ok (.laload, 1) := by decide +kernel
theorem dX7_goes_102 : decode cX7_goes 102 = .ok (.aload_n 0, 1) := by decide +kernel
theorem dX7_goes_103 : decode cX7_goes 103 = .ok (.getfield 41, 3) := by decide +kernel
theorem dX7_goes_106 : decode cX7_goes 106 = .ok (.iload_n 3, 1) := by decide +kernel
theorem dX7_goes_107 : decode cX7_goes 107 = .ok (.iload 5, 2) := by decide +kernel
theorem dX7_goes_109 : decode cX7_goes 109 = .ok (.iadd, 1) := by decide +kernel
theorem dX7_goes_110 : decode cX7_goes 110 = .ok (.laload, 1) := by decide +kernel
theorem dX7_goes_111 : decode cX7_goes 111 = .ok (.iload 4, 2) := by decide +kernel
theorem dX7_goes_113 : decode cX7_goes 113 = .ok (.i2l, 1) := by decide +kernel
theorem dX7_goes_114 : decode cX7_goes 114 = .ok (.lmul, 1) := by decide +kernel
theorem dX7_goes_115 : decode cX7_goes 115 = .ok (.ladd, 1) := by decide +kernel
theorem dX7_goes_116 : decode cX7_goes 116 = .ok (.lastore, 1) := by decide +kernel
theorem dX7_goes_117 : decode cX7_goes 117 = .ok (.aload_n 0, 1) := by decide +kernel
theorem dX7_goes_118 : decode cX7_goes 118 = .ok (.getfield 41, 3) := by decide +kernel
theorem dX7_goes_121 : decode cX7_goes 121 = .ok (.iload_n 3, 1) := by decide +kernel
theorem dX7_goes_122 : decode cX7_goes 122 = .ok (.bipush 100, 2) := by decide +kernel
theorem dX7_goes_124 : decode cX7_goes 124 = .ok (.iadd, 1) := by decide +kernel
theorem dX7_goes_125 : decode cX7_goes 125 = .ok (.iload 7, 2) := by decide +kernel
theorem dX7_goes_127 : decode cX7_goes 127 = .ok (.iadd, 1) := by decide +kernel
theorem dX7_goes_128 : decode cX7_goes 128 = .ok (.iload 6, 2) := by decide +kernel
theorem dX7_goes_130 : decode cX7_goes 130 = .ok (.iconst 1, 1) := by decide +kernel
theorem dX7_goes_131 : decode cX7_goes 131 = .ok (.iadd, 1) := by decide +kernel
theorem dX7_goes_132 : decode cX7_goes 132 = .ok (.bipush 10, 2) := by decide +kernel
theorem dX7_goes_134 : decode cX7_goes 134 = .ok (.irem, 1) := by decide +kernel
theorem dX7_goes_135 : decode cX7_goes 135 = .ok (.iadd, 1) := by decide +kernel
theorem dX7_goes_136 : decode cX7_goes 136 = .ok (.dup2, 1) := by decide +kernel
theorem dX7_goes_137 : decode cX7_goes 137 = .ok (.laload, 1) := by decide +kernel
theorem dX7_goes_138 : decode cX7_goes 138 = .ok (.aload_n 0, 1) := by decide +kernel
theorem dX7_goes_139 : decode cX7_goes 139 = .ok (.getfield 41, 3) := by decide +kernel
theorem dX7_goes_142 : decode cX7_goes 142 = .ok (.iload_n 3, 1) := by decide +kernel
theorem dX7_goes_143 : decode cX7_goes 143 = .ok (.iload 5, 2) := by decide +kernel
theorem dX7_goes_145 : decode cX7_goes 145 = .ok (.iadd, 1) := by decide +kernel
theorem dX7_goes_146 : decode cX7_goes 146 = .ok (.laload, 1) := by decide +kernel
theorem dX7_goes_147 : decode cX7_goes 147 = .ok (.bipush 10, 2) := by decide +kernel
theorem dX7_goes_149 : decode cX7_goes 149 = .ok (.iload 4, 2) := by decide +kernel
theorem dX7_goes_151 : decode cX7_goes 151 = .ok (.isub, 1) := by decide +kernel
theorem dX7_goes_152 : decode cX7_goes 152 = .ok (.i2l, 1) := by decide +kernel
theorem dX7_goes_153 : decode cX7_goes 153 = .ok (.lmul, 1) := by decide +kernel
theorem dX7_goes_154 : decode cX7_goes 154 = .ok (.ladd, 1) := by decide +kernel
theorem dX7_goes_155 : decode cX7_goes 155 = .ok (.lastore, 1) := by decide +kernel
theorem dX7_goes_156 : decode cX7_goes 156 = .ok (.iinc 5 1, 3) := by decide +kernel
theorem dX7_goes_159 : decode cX7_goes 159 = .ok (.goto (-110), 3) := by decide +kernel
theorem dX7_goes_162 : decode cX7_goes 162 = .ok (.return_, 1) := by decide +kernel
theorem dX7_tens_0 : decode cX7_tens 0 = .ok (.lconst 1, 1) := by decide +kernel
theorem dX7_tens_1 : decode cX7_tens 1 = .ok (.lstore_n 1, 1) := by decide +kernel
theorem dX7_tens_2 : decode cX7_tens 2 = .ok (.iconst 0, 1) := by decide +kernel
theorem dX7_tens_3 : decode cX7_tens 3 = .ok (.istore_n 3, 1) := by decide +kernel
theorem dX7_tens_4 : decode cX7_tens 4 = .ok (.iload_n 3, 1) := by decide +kernel
theorem dX7_tens_5 : decode cX7_tens 5 = .ok (.iload_n 0, 1) := by decide +kernel
theorem dX7_tens_6 : decode cX7_tens 6 = .ok (.if_icmp .ge 15, 3) := by decide +kernel
theorem dX7_tens_9 : decode cX7_tens 9 = .ok (.lload_n 1, 1) := by decide +kernel
theorem dX7_tens_10 : decode cX7_tens 10 = .ok (.ldc2_w 89, 3) := by decide +kernel
theorem dX7_tens_13 : decode cX7_tens 13 = .ok (.lmul, 1) := by decide +kernel
theorem dX7_tens_14 : decode cX7_tens 14 = .ok (.lstore_n 1, 1) := by decide +kernel
theorem dX7_tens_15 : decode cX7_tens 15 = .ok (.iinc 3 1, 3) := by decide +kernel
theorem dX7_tens_18 : decode cX7_tens 18 = .ok (.goto (-14), 3) := by decide +kernel
theorem dX7_tens_21 : decode cX7_tens 21 = .ok (.lload_n 1, 1) := by decide +kernel
theorem dX7_tens_22 : decode cX7_tens 22 = .ok (.lreturn, 1) := by decide +kernel
theorem dX7_allOfChain_0 : decode cX7_allOfChain 0 = .ok (.aload_n 0, 1) := by decide +kernel
theorem dX7_allOfChain_1 : decode cX7_allOfChain 1 = .ok (.invokevirtual 129, 3) := by decide +kernel
theorem dX7_allOfChain_4 : decode cX7_allOfChain 4 = .ok (.iconst 0, 1) := by decide +kernel
theorem dX7_allOfChain_5 : decode cX7_allOfChain 5 = .ok (.istore_n 1, 1) := by decide +kernel
theorem dX7_allOfChain_6 : decode cX7_allOfChain 6 = .ok (.iload_n 1, 1) := by decide +kernel
theorem dX7_allOfChain_7 : decode cX7_allOfChain 7 = .ok (.aload_n 0, 1) := by decide +kernel
theorem dX7_allOfChain_8 : decode cX7_allOfChain 8 = .ok (.getfield 26, 3) := by decide +kernel
theorem dX7_allOfChain_11 : decode cX7_allOfChain 11 = .ok (.iconst 0, 1) := by decide +kernel
theorem dX7_allOfChain_12 : decode cX7_allOfChain 12 = .ok (.iaload, 1) := by decide +kernel
theorem dX7_allOfChain_13 : decode cX7_allOfChain 13 = .ok (.if_icmp .ge 20, 3) := by decide +kernel
theorem dX7_allOfChain_16 : decode cX7_allOfChain 16 = .ok (.aload_n 0, 1) := by decide +kernel
theorem dX7_allOfChain_17 : decode cX7_allOfChain 17 = .ok (.aload_n 0, 1) := by decide +kernel
theorem dX7_allOfChain_18 : decode cX7_allOfChain 18 = .ok (.getfield 29, 3) := by decide +kernel
theorem dX7_allOfChain_21 : decode cX7_allOfChain 21 = .ok (.iload_n 1, 1) := by decide +kernel
theorem dX7_allOfChain_22 : decode cX7_allOfChain 22 = .ok (.iaload, 1) := by decide +kernel
theorem dX7_allOfChain_23 : decode cX7_allOfChain 23 = .ok (.iload_n 1, 1) := by decide +kernel
theorem dX7_allOfChain_24 : decode cX7_allOfChain 24 = .ok (.invokevirtual 132, 3) := by decide +kernel
theorem dX7_allOfChain_27 : decode cX7_allOfChain 27 = .ok (.iinc 1 1, 3) := by decide +kernel
theorem dX7_allOfChain_30 : decode cX7_allOfChain 30 = .ok (.goto (-24), 3) := by decide +kernel
theorem dX7_allOfChain_33 : decode cX7_allOfChain 33 = .ok (.bipush 100, 2) := by decide +kernel
theorem dX7_allOfChain_35 : decode cX7_allOfChain 35 = .ok (.aload_n 0, 1) := by decide +kernel
theorem dX7_allOfChain_36 : decode cX7_allOfChain 36 = .ok (.getfield 26, 3) := by decide +kernel
theorem dX7_allOfChain_39 : decode cX7_allOfChain 39 = .ok (.iconst 0, 1) := by decide +kernel
theorem dX7_allOfChain_40 : decode cX7_allOfChain 40 = .ok (.iaload, 1) := by decide +kernel
theorem dX7_allOfChain_41 : decode cX7_allOfChain 41 = .ok (.imul, 1) := by decide +kernel
theorem dX7_allOfChain_42 : decode cX7_allOfChain 42 = .ok (.ireturn, 1) := by decide +kernel
theorem dX7_lowest_0 : decode cX7_lowest 0 = .ok (.lload_n 1, 1) := by decide +kernel
theorem dX7_lowest_1 : decode cX7_lowest 1 = .ok (.lstore 5, 2) := by decide +kernel
theorem dX7_lowest_3 : decode cX7_lowest 3 = .ok (.lload_n 3, 1) := by decide +kernel
theorem dX7_lowest_4 : decode cX7_lowest 4 = .ok (.lstore 7, 2) := by decide +kernel
theorem dX7_lowest_6 : decode cX7_lowest 6 = .ok (.lload 7, 2) := by decide +kernel
theorem dX7_lowest_8 : decode cX7_lowest 8 = .ok (.lconst 0, 1) := by decide +kernel
theorem dX7_lowest_9 : decode cX7_lowest 9 = .ok (.lcmp, 1) := by decide +kernel
theorem dX7_lowest_10 : decode cX7_lowest 10 = .ok (.ifCond .eq 21, 3) := by decide +kernel
theorem dX7_lowest_13 : decode cX7_lowest 13 = .ok (.lload 5, 2) := by decide +kernel
theorem dX7_lowest_15 : decode cX7_lowest 15 = .ok (.lload 7, 2) := by decide +kernel
theorem dX7_lowest_17 : decode cX7_lowest 17 = .ok (.lrem, 1) := by decide +kernel
theorem dX7_lowest_18 : decode cX7_lowest 18 = .ok (.lstore 9, 2) := by decide +kernel
theorem dX7_lowest_20 : decode cX7_lowest 20 = .ok (.lload 7, 2) := by decide +kernel
theorem dX7_lowest_22 : decode cX7_lowest 22 = .ok (.lstore 5, 2) := by decide +kernel
theorem dX7_lowest_24 : decode cX7_lowest 24 = .ok (.lload 9, 2) := by decide +kernel
theorem dX7_lowest_26 : decode cX7_lowest 26 = .ok (.lstore 7, 2) := by decide +kernel
theorem dX7_lowest_28 : decode cX7_lowest 28 = .ok (.goto (-22), 3) := by decide +kernel
theorem dX7_lowest_31 : decode cX7_lowest 31 = .ok (.aload_n 0, 1) := by decide +kernel
theorem dX7_lowest_32 : decode cX7_lowest 32 = .ok (.lload_n 1, 1) := by decide +kernel
theorem dX7_lowest_33 : decode cX7_lowest 33 = .ok (.lload 5, 2) := by decide +kernel
theorem dX7_lowest_35 : decode cX7_lowest 35 = .ok (.ldiv, 1) := by decide +kernel
theorem dX7_lowest_36 : decode cX7_lowest 36 = .ok (.putfield 136, 3) := by decide +kernel
theorem dX7_lowest_39 : decode cX7_lowest 39 = .ok (.aload_n 0, 1) := by decide +kernel
theorem dX7_lowest_40 : decode cX7_lowest 40 = .ok (.lload_n 3, 1) := by decide +kernel
theorem dX7_lowest_41 : decode cX7_lowest 41 = .ok (.lload 5, 2) := by decide +kernel
theorem dX7_lowest_43 : decode cX7_lowest 43 = .ok (.ldiv, 1) := by decide +kernel
theorem dX7_lowest_44 : decode cX7_lowest 44 = .ok (.putfield 140, 3) := by decide +kernel
theorem dX7_lowest_47 : decode cX7_lowest 47 = .ok (.return_, 1) := by decide +kernel
theorem dX7_comes_0 : decode cX7_comes 0 = .ok (.iload_n 1, 1) := by decide +kernel
theorem dX7_comes_1 : decode cX7_comes 1 = .ok (.invokestatic 115, 3) := by decide +kernel
theorem dX7_comes_4 : decode cX7_comes 4 = .ok (.ifCond .eq 20, 3) := by decide +kernel
theorem dX7_comes_7 : decode cX7_comes 7 = .ok (.iload_n 2, 1) := by decide +kernel
theorem dX7_comes_8 : decode cX7_comes 8 = .ok (.invokestatic 115, 3) := by decide +kernel
theorem dX7_comes_11 : decode cX7_comes 11 = .ok (.ifCond .eq 13, 3) := by decide +kernel
theorem dX7_comes_14 : decode cX7_comes 14 = .ok (.iload_n 3, 1) := by decide +kernel
theorem dX7_comes_15 : decode cX7_comes 15 = .ok (.i2l, 1) := by decide +kernel
theorem dX7_comes_16 : decode cX7_comes 16 = .ok (.lconst 0, 1) := by decide +kernel
theorem dX7_comes_17 : decode cX7_comes 17 = .ok (.lconst 1, 1) := by decide +kernel
theorem dX7_comes_18 : decode cX7_comes 18 = .ok (.invokestatic 62, 3) := by decide +kernel
theorem dX7_comes_21 : decode cX7_comes 21 = .ok (.ifCond .ne 5, 3) := by decide +kernel
theorem dX7_comes_24 : decode cX7_comes 24 = .ok (.iconst (-1), 1) := by decide +kernel
theorem dX7_comes_25 : decode cX7_comes 25 = .ok (.ireturn, 1) := by decide +kernel
theorem dX7_comes_26 : decode cX7_comes 26 = .ok (.aload_n 0, 1) := by decide +kernel
theorem dX7_comes_27 : decode cX7_comes 27 = .ok (.invokevirtual 143, 3) := by decide +kernel
theorem dX7_comes_30 : decode cX7_comes 30 = .ok (.istore 4, 2) := by decide +kernel
theorem dX7_comes_32 : decode cX7_comes 32 = .ok (.aload_n 0, 1) := by decide +kernel
theorem dX7_comes_33 : decode cX7_comes 33 = .ok (.aload_n 0, 1) := by decide +kernel
theorem dX7_comes_34 : decode cX7_comes 34 = .ok (.getfield 41, 3) := by decide +kernel
theorem dX7_comes_37 : decode cX7_comes 37 = .ok (.iload 4, 2) := by decide +kernel
theorem dX7_comes_39 : decode cX7_comes 39 = .ok (.bipush 10, 2) := by decide +kernel
theorem dX7_comes_41 : decode cX7_comes 41 = .ok (.iload_n 1, 1) := by decide +kernel
theorem dX7_comes_42 : decode cX7_comes 42 = .ok (.imul, 1) := by decide +kernel
theorem dX7_comes_43 : decode cX7_comes 43 = .ok (.iadd, 1) := by decide +kernel
theorem dX7_comes_44 : decode cX7_comes 44 = .ok (.iload_n 2, 1) := by decide +kernel
theorem dX7_comes_45 : decode cX7_comes 45 = .ok (.iadd, 1) := by decide +kernel
theorem dX7_comes_46 : decode cX7_comes 46 = .ok (.laload, 1) := by decide +kernel
theorem dX7_comes_47 : decode cX7_comes 47 = .ok (.aload_n 0, 1) := by decide +kernel
theorem dX7_comes_48 : decode cX7_comes 48 = .ok (.getfield 26, 3) := by decide +kernel
theorem dX7_comes_51 : decode cX7_comes 51 = .ok (.iconst 0, 1) := by decide +kernel
theorem dX7_comes_52 : decode cX7_comes 52 = .ok (.iaload, 1) := by decide +kernel
theorem dX7_comes_53 : decode cX7_comes 53 = .ok (.invokestatic 146, 3) := by decide +kernel
theorem dX7_comes_56 : decode cX7_comes 56 = .ok (.invokevirtual 150, 3) := by decide +kernel
theorem dX7_comes_59 : decode cX7_comes 59 = .ok (.iload_n 3, 1) := by decide +kernel
theorem dX7_comes_60 : decode cX7_comes 60 = .ok (.ifCond .ne 10, 3) := by decide +kernel
theorem dX7_comes_63 : decode cX7_comes 63 = .ok (.aload_n 0, 1) := by decide +kernel
theorem dX7_comes_64 : decode cX7_comes 64 = .ok (.getfield 136, 3) := by decide +kernel
theorem dX7_comes_67 : decode cX7_comes 67 = .ok (.goto 7, 3) := by decide +kernel
theorem dX7_comes_70 : decode cX7_comes 70 = .ok (.aload_n 0, 1) := by decide +kernel
theorem dX7_comes_71 : decode cX7_comes 71 = .ok (.getfield 140, 3) := by decide +kernel
theorem dX7_comes_74 : decode cX7_comes 74 = .ok (.l2i, 1) := by decide +kernel
theorem dX7_comes_75 : decode cX7_comes 75 = .ok (.ireturn, 1) := by decide +kernel
theorem dX7_was_0 : decode cX7_was 0 = .ok (.iload_n 1, 1) := by decide +kernel
theorem dX7_was_1 : decode cX7_was 1 = .ok (.invokestatic 115, 3) := by decide +kernel
theorem dX7_was_4 : decode cX7_was 4 = .ok (.ifCond .eq 20, 3) := by decide +kernel
theorem dX7_was_7 : decode cX7_was 7 = .ok (.iload_n 2, 1) := by decide +kernel
theorem dX7_was_8 : decode cX7_was 8 = .ok (.invokestatic 115, 3) := by decide +kernel
theorem dX7_was_11 : decode cX7_was 11 = .ok (.ifCond .eq 13, 3) := by decide +kernel
theorem dX7_was_14 : decode cX7_was 14 = .ok (.iload_n 3, 1) := by decide +kernel
theorem dX7_was_15 : decode cX7_was 15 = .ok (.i2l, 1) := by decide +kernel
theorem dX7_was_16 : decode cX7_was 16 = .ok (.lconst 0, 1) := by decide +kernel
theorem dX7_was_17 : decode cX7_was 17 = .ok (.lconst 1, 1) := by decide +kernel
theorem dX7_was_18 : decode cX7_was 18 = .ok (.invokestatic 62, 3) := by decide +kernel
theorem dX7_was_21 : decode cX7_was 21 = .ok (.ifCond .ne 5, 3) := by decide +kernel
theorem dX7_was_24 : decode cX7_was 24 = .ok (.iconst (-1), 1) := by decide +kernel
theorem dX7_was_25 : decode cX7_was 25 = .ok (.ireturn, 1) := by decide +kernel
theorem dX7_was_26 : decode cX7_was 26 = .ok (.aload_n 0, 1) := by decide +kernel
theorem dX7_was_27 : decode cX7_was 27 = .ok (.invokevirtual 143, 3) := by decide +kernel
theorem dX7_was_30 : decode cX7_was 30 = .ok (.istore 4, 2) := by decide +kernel
theorem dX7_was_32 : decode cX7_was 32 = .ok (.lconst 0, 1) := by decide +kernel
theorem dX7_was_33 : decode cX7_was 33 = .ok (.lstore 5, 2) := by decide +kernel
theorem dX7_was_35 : decode cX7_was 35 = .ok (.iconst 0, 1) := by decide +kernel
theorem dX7_was_36 : decode cX7_was 36 = .ok (.istore 7, 2) := by decide +kernel
theorem dX7_was_38 : decode cX7_was 38 = .ok (.iload 7, 2) := by decide +kernel
theorem dX7_was_40 : decode cX7_was 40 = .ok (.bipush 10, 2) := by decide +kernel
theorem dX7_was_42 : decode cX7_was 42 = .ok (.if_icmp .ge 29, 3) := by decide +kernel
theorem dX7_was_45 : decode cX7_was 45 = .ok (.lload 5, 2) := by decide +kernel
theorem dX7_was_47 : decode cX7_was 47 = .ok (.aload_n 0, 1) := by decide +kernel
theorem dX7_was_48 : decode cX7_was 48 = .ok (.getfield 41, 3) := by decide +kernel
theorem dX7_was_51 : decode cX7_was 51 = .ok (.iload 4, 2) := by decide +kernel
theorem dX7_was_53 : decode cX7_was 53 = .ok (.bipush 10, 2) := by decide +kernel
theorem dX7_was_55 : decode cX7_was 55 = .ok (.iload 7, 2) := by decide +kernel
theorem dX7_was_57 : decode cX7_was 57 = .ok (.imul, 1) := by decide +kernel
theorem dX7_was_58 : decode cX7_was 58 = .ok (.iadd, 1) := by decide +kernel
theorem dX7_was_59 : decode cX7_was 59 = .ok (.iload_n 2, 1) := by decide +kernel
theorem dX7_was_60 : decode cX7_was 60 = .ok (.iadd, 1) := by decide +kernel
theorem dX7_was_61 : decode cX7_was 61 = .ok (.laload, 1) := by decide +kernel
theorem dX7_was_62 : decode cX7_was 62 = .ok (.ladd, 1) := by decide +kernel
theorem dX7_was_63 : decode cX7_was 63 = .ok (.lstore 5, 2) := by decide +kernel
theorem dX7_was_65 : decode cX7_was 65 = .ok (.iinc 7 1, 3) := by decide +kernel
theorem dX7_was_68 : decode cX7_was 68 = .ok (.goto (-30), 3) := by decide +kernel
theorem dX7_was_71 : decode cX7_was 71 = .ok (.lload 5, 2) := by decide +kernel
theorem dX7_was_73 : decode cX7_was 73 = .ok (.lconst 0, 1) := by decide +kernel
theorem dX7_was_74 : decode cX7_was 74 = .ok (.lcmp, 1) := by decide +kernel
theorem dX7_was_75 : decode cX7_was 75 = .ok (.ifCond .ne 6, 3) := by decide +kernel
theorem dX7_was_78 : decode cX7_was 78 = .ok (.bipush (-4), 2) := by decide +kernel
theorem dX7_was_80 : decode cX7_was 80 = .ok (.ireturn, 1) := by decide +kernel
theorem dX7_was_81 : decode cX7_was 81 = .ok (.aload_n 0, 1) := by decide +kernel
theorem dX7_was_82 : decode cX7_was 82 = .ok (.aload_n 0, 1) := by decide +kernel
theorem dX7_was_83 : decode cX7_was 83 = .ok (.getfield 41, 3) := by decide +kernel
theorem dX7_was_86 : decode cX7_was 86 = .ok (.iload 4, 2) := by decide +kernel
theorem dX7_was_88 : decode cX7_was 88 = .ok (.bipush 10, 2) := by decide +kernel
theorem dX7_was_90 : decode cX7_was 90 = .ok (.iload_n 1, 1) := by decide +kernel
theorem dX7_was_91 : decode cX7_was 91 = .ok (.imul, 1) := by decide +kernel
theorem dX7_was_92 : decode cX7_was 92 = .ok (.iadd, 1) := by decide +kernel
theorem dX7_was_93 : decode cX7_was 93 = .ok (.iload_n 2, 1) := by decide +kernel
theorem dX7_was_94 : decode cX7_was 94 = .ok (.iadd, 1) := by decide +kernel
theorem dX7_was_95 : decode cX7_was 95 = .ok (.laload, 1) := by decide +kernel
theorem dX7_was_96 : decode cX7_was 96 = .ok (.lload 5, 2) := by decide +kernel
theorem dX7_was_98 : decode cX7_was 98 = .ok (.invokevirtual 150, 3) := by decide +kernel
theorem dX7_was_101 : decode cX7_was 101 = .ok (.iload_n 3, 1) := by decide +kernel
theorem dX7_was_102 : decode cX7_was 102 = .ok (.ifCond .ne 10, 3) := by decide +kernel
theorem dX7_was_105 : decode cX7_was 105 = .ok (.aload_n 0, 1) := by decide +kernel
theorem dX7_was_106 : decode cX7_was 106 = .ok (.getfield 136, 3) := by decide +kernel
theorem dX7_was_109 : decode cX7_was 109 = .ok (.goto 7, 3) := by decide +kernel
theorem dX7_was_112 : decode cX7_was 112 = .ok (.aload_n 0, 1) := by decide +kernel
theorem dX7_was_113 : decode cX7_was 113 = .ok (.getfield 140, 3) := by decide +kernel
theorem dX7_was_116 : decode cX7_was 116 = .ok (.l2i, 1) := by decide +kernel
theorem dX7_was_117 : decode cX7_was 117 = .ok (.ireturn, 1) := by decide +kernel
theorem dX7_back_0 : decode cX7_back 0 = .ok (.iload_n 1, 1) := by decide +kernel
theorem dX7_back_1 : decode cX7_back 1 = .ok (.invokestatic 115, 3) := by decide +kernel
theorem dX7_back_4 : decode cX7_back 4 = .ok (.ifCond .eq 13, 3) := by decide +kernel
theorem dX7_back_7 : decode cX7_back 7 = .ok (.iload_n 2, 1) := by decide +kernel
theorem dX7_back_8 : decode cX7_back 8 = .ok (.i2l, 1) := by decide +kernel
theorem dX7_back_9 : decode cX7_back 9 = .ok (.lconst 0, 1) := by decide +kernel
theorem dX7_back_10 : decode cX7_back 10 = .ok (.lconst 1, 1) := by decide +kernel
theorem dX7_back_11 : decode cX7_back 11 = .ok (.invokestatic 62, 3) := by decide +kernel
theorem dX7_back_14 : decode cX7_back 14 = .ok (.ifCond .ne 7, 3) := by decide +kernel
theorem dX7_back_17 : decode cX7_back 17 = .ok (.ldc2_w 154, 3) := by decide +kernel
theorem dX7_back_20 : decode cX7_back 20 = .ok (.lreturn, 1) := by decide +kernel
theorem dX7_back_21 : decode cX7_back 21 = .ok (.aload_n 0, 1) := by decide +kernel
theorem dX7_back_22 : decode cX7_back 22 = .ok (.getfield 26, 3) := by decide +kernel
theorem dX7_back_25 : decode cX7_back 25 = .ok (.iconst 0, 1) := by decide +kernel
theorem dX7_back_26 : decode cX7_back 26 = .ok (.iaload, 1) := by decide +kernel
theorem dX7_back_27 : decode cX7_back 27 = .ok (.istore_n 3, 1) := by decide +kernel
theorem dX7_back_28 : decode cX7_back 28 = .ok (.aload_n 0, 1) := by decide +kernel
theorem dX7_back_29 : decode cX7_back 29 = .ok (.invokevirtual 143, 3) := by decide +kernel
theorem dX7_back_32 : decode cX7_back 32 = .ok (.pop, 1) := by decide +kernel
theorem dX7_back_33 : decode cX7_back 33 = .ok (.iconst 0, 1) := by decide +kernel
theorem dX7_back_34 : decode cX7_back 34 = .ok (.istore 4, 2) := by decide +kernel
theorem dX7_back_36 : decode cX7_back 36 = .ok (.iload 4, 2) := by decide +kernel
theorem dX7_back_38 : decode cX7_back 38 = .ok (.iload_n 3, 1) := by decide +kernel
theorem dX7_back_39 : decode cX7_back 39 = .ok (.if_icmp .ge 28, 3) := by decide +kernel
theorem dX7_back_42 : decode cX7_back 42 = .ok (.aload_n 0, 1) := by decide +kernel
theorem dX7_back_43 : decode cX7_back 43 = .ok (.aload_n 0, 1) := by decide +kernel
theorem dX7_back_44 : decode cX7_back 44 = .ok (.getfield 29, 3) := by decide +kernel
theorem dX7_back_47 : decode cX7_back 47 = .ok (.iload_n 3, 1) := by decide +kernel
theorem dX7_back_48 : decode cX7_back 48 = .ok (.iconst 1, 1) := by decide +kernel
theorem dX7_back_49 : decode cX7_back 49 = .ok (.isub, 1) := by decide +kernel
theorem dX7_back_50 : decode cX7_back 50 = .ok (.iload 4, 2) := by decide +kernel
theorem dX7_back_52 : decode cX7_back 52 = .ok (.isub, 1) := by decide +kernel
theorem dX7_back_53 : decode cX7_back 53 = .ok (.iaload, 1) := by decide +kernel
theorem dX7_back_54 : decode cX7_back 54 = .ok (.iload_n 3, 1) := by decide +kernel
theorem dX7_back_55 : decode cX7_back 55 = .ok (.iload 4, 2) := by decide +kernel
theorem dX7_back_57 : decode cX7_back 57 = .ok (.iadd, 1) := by decide +kernel
theorem dX7_back_58 : decode cX7_back 58 = .ok (.invokevirtual 132, 3) := by decide +kernel
theorem dX7_back_61 : decode cX7_back 61 = .ok (.iinc 4 1, 3) := by decide +kernel
theorem dX7_back_64 : decode cX7_back 64 = .ok (.goto (-28), 3) := by decide +kernel
theorem dX7_back_67 : decode cX7_back 67 = .ok (.aload_n 0, 1) := by decide +kernel
theorem dX7_back_68 : decode cX7_back 68 = .ok (.aload_n 0, 1) := by decide +kernel
theorem dX7_back_69 : decode cX7_back 69 = .ok (.getfield 41, 3) := by decide +kernel
theorem dX7_back_72 : decode cX7_back 72 = .ok (.sipush 200, 3) := by decide +kernel
theorem dX7_back_75 : decode cX7_back 75 = .ok (.iload_n 3, 1) := by decide +kernel
theorem dX7_back_76 : decode cX7_back 76 = .ok (.imul, 1) := by decide +kernel
theorem dX7_back_77 : decode cX7_back 77 = .ok (.bipush 11, 2) := by decide +kernel
theorem dX7_back_79 : decode cX7_back 79 = .ok (.iload_n 1, 1) := by decide +kernel
theorem dX7_back_80 : decode cX7_back 80 = .ok (.imul, 1) := by decide +kernel
theorem dX7_back_81 : decode cX7_back 81 = .ok (.iadd, 1) := by decide +kernel
theorem dX7_back_82 : decode cX7_back 82 = .ok (.laload, 1) := by decide +kernel
theorem dX7_back_83 : decode cX7_back 83 = .ok (.iconst 2, 1) := by decide +kernel
theorem dX7_back_84 : decode cX7_back 84 = .ok (.iload_n 3, 1) := by decide +kernel
theorem dX7_back_85 : decode cX7_back 85 = .ok (.imul, 1) := by decide +kernel
theorem dX7_back_86 : decode cX7_back 86 = .ok (.invokestatic 146, 3) := by decide +kernel
theorem dX7_back_89 : decode cX7_back 89 = .ok (.invokevirtual 150, 3) := by decide +kernel
theorem dX7_back_92 : decode cX7_back 92 = .ok (.iload_n 2, 1) := by decide +kernel
theorem dX7_back_93 : decode cX7_back 93 = .ok (.ifCond .ne 10, 3) := by decide +kernel
theorem dX7_back_96 : decode cX7_back 96 = .ok (.aload_n 0, 1) := by decide +kernel
theorem dX7_back_97 : decode cX7_back 97 = .ok (.getfield 136, 3) := by decide +kernel
theorem dX7_back_100 : decode cX7_back 100 = .ok (.goto 7, 3) := by decide +kernel
theorem dX7_back_103 : decode cX7_back 103 = .ok (.aload_n 0, 1) := by decide +kernel
theorem dX7_back_104 : decode cX7_back 104 = .ok (.getfield 140, 3) := by decide +kernel
theorem dX7_back_107 : decode cX7_back 107 = .ok (.lreturn, 1) := by decide +kernel
theorem dX7_same_0 : decode cX7_same 0 = .ok (.lconst 0, 1) := by decide +kernel
theorem dX7_same_1 : decode cX7_same 1 = .ok (.lstore_n 2, 1) := by decide +kernel
theorem dX7_same_2 : decode cX7_same 2 = .ok (.iconst 0, 1) := by decide +kernel
theorem dX7_same_3 : decode cX7_same 3 = .ok (.istore 4, 2) := by decide +kernel
theorem dX7_same_5 : decode cX7_same 5 = .ok (.iload 4, 2) := by decide +kernel
theorem dX7_same_7 : decode cX7_same 7 = .ok (.bipush 10, 2) := by decide +kernel
theorem dX7_same_9 : decode cX7_same 9 = .ok (.if_icmp .ge 27, 3) := by decide +kernel
theorem dX7_same_12 : decode cX7_same 12 = .ok (.lload_n 2, 1) := by decide +kernel
theorem dX7_same_13 : decode cX7_same 13 = .ok (.aload_n 0, 1) := by decide +kernel
theorem dX7_same_14 : decode cX7_same 14 = .ok (.getfield 41, 3) := by decide +kernel
theorem dX7_same_17 : decode cX7_same 17 = .ok (.bipush 100, 2) := by decide +kernel
theorem dX7_same_19 : decode cX7_same 19 = .ok (.iload_n 1, 1) := by decide +kernel
theorem dX7_same_20 : decode cX7_same 20 = .ok (.imul, 1) := by decide +kernel
theorem dX7_same_21 : decode cX7_same 21 = .ok (.bipush 11, 2) := by decide +kernel
theorem dX7_same_23 : decode cX7_same 23 = .ok (.iload 4, 2) := by decide +kernel
theorem dX7_same_25 : decode cX7_same 25 = .ok (.imul, 1) := by decide +kernel
theorem dX7_same_26 : decode cX7_same 26 = .ok (.iadd, 1) := by decide +kernel
theorem dX7_same_27 : decode cX7_same 27 = .ok (.laload, 1) := by decide +kernel
theorem dX7_same_28 : decode cX7_same 28 = .ok (.ladd, 1) := by decide +kernel
theorem dX7_same_29 : decode cX7_same 29 = .ok (.lstore_n 2, 1) := by decide +kernel
theorem dX7_same_30 : decode cX7_same 30 = .ok (.iinc 4 1, 3) := by decide +kernel
theorem dX7_same_33 : decode cX7_same 33 = .ok (.goto (-28), 3) := by decide +kernel
theorem dX7_same_36 : decode cX7_same 36 = .ok (.lload_n 2, 1) := by decide +kernel
theorem dX7_same_37 : decode cX7_same 37 = .ok (.lreturn, 1) := by decide +kernel
theorem dX7_isNext_0 : decode cX7_isNext 0 = .ok (.aload_n 0, 1) := by decide +kernel
theorem dX7_isNext_1 : decode cX7_isNext 1 = .ok (.iload_n 2, 1) := by decide +kernel
theorem dX7_isNext_2 : decode cX7_isNext 2 = .ok (.invokevirtual 108, 3) := by decide +kernel
theorem dX7_isNext_5 : decode cX7_isNext 5 = .ok (.ifCond .eq 31, 3) := by decide +kernel
theorem dX7_isNext_8 : decode cX7_isNext 8 = .ok (.iload_n 1, 1) := by decide +kernel
theorem dX7_isNext_9 : decode cX7_isNext 9 = .ok (.ifCond .eq 23, 3) := by decide +kernel
theorem dX7_isNext_12 : decode cX7_isNext 12 = .ok (.aload_n 0, 1) := by decide +kernel
theorem dX7_isNext_13 : decode cX7_isNext 13 = .ok (.getfield 23, 3) := by decide +kernel
theorem dX7_isNext_16 : decode cX7_isNext 16 = .ok (.aload_n 0, 1) := by decide +kernel
theorem dX7_isNext_17 : decode cX7_isNext 17 = .ok (.getfield 45, 3) := by decide +kernel
theorem dX7_isNext_20 : decode cX7_isNext 20 = .ok (.iload_n 1, 1) := by decide +kernel
theorem dX7_isNext_21 : decode cX7_isNext 21 = .ok (.iconst 1, 1) := by decide +kernel
theorem dX7_isNext_22 : decode cX7_isNext 22 = .ok (.isub, 1) := by decide +kernel
theorem dX7_isNext_23 : decode cX7_isNext 23 = .ok (.iaload, 1) := by decide +kernel
theorem dX7_isNext_24 : decode cX7_isNext 24 = .ok (.iaload, 1) := by decide +kernel
theorem dX7_isNext_25 : decode cX7_isNext 25 = .ok (.iload_n 2, 1) := by decide +kernel
theorem dX7_isNext_26 : decode cX7_isNext 26 = .ok (.ishr, 1) := by decide +kernel
theorem dX7_isNext_27 : decode cX7_isNext 27 = .ok (.iconst 1, 1) := by decide +kernel
theorem dX7_isNext_28 : decode cX7_isNext 28 = .ok (.iand, 1) := by decide +kernel
theorem dX7_isNext_29 : decode cX7_isNext 29 = .ok (.ifCond .ne 7, 3) := by decide +kernel
theorem dX7_isNext_32 : decode cX7_isNext 32 = .ok (.iconst 1, 1) := by decide +kernel
theorem dX7_isNext_33 : decode cX7_isNext 33 = .ok (.goto 4, 3) := by decide +kernel
theorem dX7_isNext_36 : decode cX7_isNext 36 = .ok (.iconst 0, 1) := by decide +kernel
theorem dX7_isNext_37 : decode cX7_isNext 37 = .ok (.istore_n 3, 1) := by decide +kernel
theorem dX7_isNext_38 : decode cX7_isNext 38 = .ok (.iconst 0, 1) := by decide +kernel
theorem dX7_isNext_39 : decode cX7_isNext 39 = .ok (.istore 4, 2) := by decide +kernel
theorem dX7_isNext_41 : decode cX7_isNext 41 = .ok (.iload 4, 2) := by decide +kernel
theorem dX7_isNext_43 : decode cX7_isNext 43 = .ok (.iload_n 1, 1) := by decide +kernel
theorem dX7_isNext_44 : decode cX7_isNext 44 = .ok (.if_icmp .ge 30, 3) := by decide +kernel
theorem dX7_isNext_47 : decode cX7_isNext 47 = .ok (.iload_n 3, 1) := by decide +kernel
theorem dX7_isNext_48 : decode cX7_isNext 48 = .ok (.ifCond .eq 18, 3) := by decide +kernel
theorem dX7_isNext_51 : decode cX7_isNext 51 = .ok (.aload_n 0, 1) := by decide +kernel
theorem dX7_isNext_52 : decode cX7_isNext 52 = .ok (.getfield 45, 3) := by decide +kernel
theorem dX7_isNext_55 : decode cX7_isNext 55 = .ok (.iload 4, 2) := by decide +kernel
theorem dX7_isNext_57 : decode cX7_isNext 57 = .ok (.iaload, 1) := by decide +kernel
theorem dX7_isNext_58 : decode cX7_isNext 58 = .ok (.iload_n 2, 1) := by decide +kernel
theorem dX7_isNext_59 : decode cX7_isNext 59 = .ok (.if_icmp .eq 7, 3) := by decide +kernel
theorem dX7_isNext_62 : decode cX7_isNext 62 = .ok (.iconst 1, 1) := by decide +kernel
theorem dX7_isNext_63 : decode cX7_isNext 63 = .ok (.goto 4, 3) := by decide +kernel
theorem dX7_isNext_66 : decode cX7_isNext 66 = .ok (.iconst 0, 1) := by decide +kernel
theorem dX7_isNext_67 : decode cX7_isNext 67 = .ok (.istore_n 3, 1) := by decide +kernel
theorem dX7_isNext_68 : decode cX7_isNext 68 = .ok (.iinc 4 1, 3) := by decide +kernel
theorem dX7_isNext_71 : decode cX7_isNext 71 = .ok (.goto (-30), 3) := by decide +kernel
theorem dX7_isNext_74 : decode cX7_isNext 74 = .ok (.iload_n 3, 1) := by decide +kernel
theorem dX7_isNext_75 : decode cX7_isNext 75 = .ok (.ireturn, 1) := by decide +kernel
theorem dX7_spoken_0 : decode cX7_spoken 0 = .ok (.aload_n 0, 1) := by decide +kernel
theorem dX7_spoken_1 : decode cX7_spoken 1 = .ok (.getfield 13, 3) := by decide +kernel
theorem dX7_spoken_4 : decode cX7_spoken 4 = .ok (.iconst 0, 1) := by decide +kernel
theorem dX7_spoken_5 : decode cX7_spoken 5 = .ok (.iaload, 1) := by decide +kernel
theorem dX7_spoken_6 : decode cX7_spoken 6 = .ok (.istore_n 2, 1) := by decide +kernel
theorem dX7_spoken_7 : decode cX7_spoken 7 = .ok (.iconst 0, 1) := by decide +kernel
theorem dX7_spoken_8 : decode cX7_spoken 8 = .ok (.istore_n 3, 1) := by decide +kernel
theorem dX7_spoken_9 : decode cX7_spoken 9 = .ok (.iload_n 3, 1) := by decide +kernel
theorem dX7_spoken_10 : decode cX7_spoken 10 = .ok (.iload_n 1, 1) := by decide +kernel
theorem dX7_spoken_11 : decode cX7_spoken 11 = .ok (.if_icmp .ge 25, 3) := by decide +kernel
theorem dX7_spoken_14 : decode cX7_spoken 14 = .ok (.iload_n 2, 1) := by decide +kernel
theorem dX7_spoken_15 : decode cX7_spoken 15 = .ok (.ifCond .lt 21, 3) := by decide +kernel
theorem dX7_spoken_18 : decode cX7_spoken 18 = .ok (.aload_n 0, 1) := by decide +kernel
theorem dX7_spoken_19 : decode cX7_spoken 19 = .ok (.aload_n 0, 1) := by decide +kernel
theorem dX7_spoken_20 : decode cX7_spoken 20 = .ok (.getfield 45, 3) := by decide +kernel
theorem dX7_spoken_23 : decode cX7_spoken 23 = .ok (.iload_n 3, 1) := by decide +kernel
theorem dX7_spoken_24 : decode cX7_spoken 24 = .ok (.iaload, 1) := by decide +kernel
theorem dX7_spoken_25 : decode cX7_spoken 25 = .ok (.iload_n 2, 1) := by decide +kernel
theorem dX7_spoken_26 : decode cX7_spoken 26 = .ok (.invokevirtual 126, 3) := by decide +kernel
theorem dX7_spoken_29 : decode cX7_spoken 29 = .ok (.istore_n 2, 1) := by decide +kernel
theorem dX7_spoken_30 : decode cX7_spoken 30 = .ok (.iinc 3 1, 3) := by decide +kernel
theorem dX7_spoken_33 : decode cX7_spoken 33 = .ok (.goto (-24), 3) := by decide +kernel
theorem dX7_spoken_36 : decode cX7_spoken 36 = .ok (.iload_n 2, 1) := by decide +kernel
theorem dX7_spoken_37 : decode cX7_spoken 37 = .ok (.ireturn, 1) := by decide +kernel
theorem dX7_searches_0 : decode cX7_searches 0 = .ok (.aload_n 0, 1) := by decide +kernel
theorem dX7_searches_1 : decode cX7_searches 1 = .ok (.iconst 0, 1) := by decide +kernel
theorem dX7_searches_2 : decode cX7_searches 2 = .ok (.putfield 156, 3) := by decide +kernel
theorem dX7_searches_5 : decode cX7_searches 5 = .ok (.ldc2_w 154, 3) := by decide +kernel
theorem dX7_searches_8 : decode cX7_searches 8 = .ok (.lstore_n 2, 1) := by decide +kernel
theorem dX7_searches_9 : decode cX7_searches 9 = .ok (.iconst 0, 1) := by decide +kernel
theorem dX7_searches_10 : decode cX7_searches 10 = .ok (.istore 4, 2) := by decide +kernel
theorem dX7_searches_12 : decode cX7_searches 12 = .ok (.aload_n 0, 1) := by decide +kernel
theorem dX7_searches_13 : decode cX7_searches 13 = .ok (.invokevirtual 129, 3) := by decide +kernel
theorem dX7_searches_16 : decode cX7_searches 16 = .ok (.aload_n 0, 1) := by decide +kernel
theorem dX7_searches_17 : decode cX7_searches 17 = .ok (.getfield 45, 3) := by decide +kernel
theorem dX7_searches_20 : decode cX7_searches 20 = .ok (.iconst 0, 1) := by decide +kernel
theorem dX7_searches_21 : decode cX7_searches 21 = .ok (.iconst 0, 1) := by decide +kernel
theorem dX7_searches_22 : decode cX7_searches 22 = .ok (.iastore, 1) := by decide +kernel
theorem dX7_searches_23 : decode cX7_searches 23 = .ok (.iload 4, 2) := by decide +kernel
theorem dX7_searches_25 : decode cX7_searches 25 = .ok (.ifCond .lt 232, 3) := by decide +kernel
theorem dX7_searches_28 : decode cX7_searches 28 = .ok (.aload_n 0, 1) := by decide +kernel
theorem dX7_searches_29 : decode cX7_searches 29 = .ok (.getfield 45, 3) := by decide +kernel
theorem dX7_searches_32 : decode cX7_searches 32 = .ok (.iload 4, 2) := by decide +kernel
theorem dX7_searches_34 : decode cX7_searches 34 = .ok (.iaload, 1) := by decide +kernel
theorem dX7_searches_35 : decode cX7_searches 35 = .ok (.istore 5, 2) := by decide +kernel
theorem dX7_searches_37 : decode cX7_searches 37 = .ok (.iload 5, 2) := by decide +kernel
theorem dX7_searches_39 : decode cX7_searches 39 = .ok (.aload_n 0, 1) := by decide +kernel
theorem dX7_searches_40 : decode cX7_searches 40 = .ok (.getfield 17, 3) := by decide +kernel
theorem dX7_searches_43 : decode cX7_searches 43 = .ok (.iconst 0, 1) := by decide +kernel
theorem dX7_searches_44 : decode cX7_searches 44 = .ok (.iaload, 1) := by decide +kernel
theorem dX7_searches_45 : decode cX7_searches 45 = .ok (.if_icmp .lt 25, 3) := by decide +kernel
theorem dX7_searches_48 : decode cX7_searches 48 = .ok (.iinc 4 (-1), 3) := by decide +kernel
theorem dX7_searches_51 : decode cX7_searches 51 = .ok (.iload 4, 2) := by decide +kernel
theorem dX7_searches_53 : decode cX7_searches 53 = .ok (.ifCond .lt (-30), 3) := by decide +kernel
theorem dX7_searches_56 : decode cX7_searches 56 = .ok (.aload_n 0, 1) := by decide +kernel
theorem dX7_searches_57 : decode cX7_searches 57 = .ok (.getfield 45, 3) := by decide +kernel
theorem dX7_searches_60 : decode cX7_searches 60 = .ok (.iload 4, 2) := by decide +kernel
theorem dX7_searches_62 : decode cX7_searches 62 = .ok (.dup2, 1) := by decide +kernel
theorem dX7_searches_63 : decode cX7_searches 63 = .ok (.iaload, 1) := by decide +kernel
theorem dX7_searches_64 : decode cX7_searches 64 = .ok (.iconst 1, 1) := by decide +kernel
theorem dX7_searches_65 : decode cX7_searches 65 = .ok (.iadd, 1) := by decide +kernel
theorem dX7_searches_66 : decode cX7_searches 66 = .ok (.iastore, 1) := by decide +kernel
theorem dX7_searches_67 : decode cX7_searches 67 = .ok (.goto (-44), 3) := by decide +kernel
theorem dX7_searches_70 : decode cX7_searches 70 = .ok (.aload_n 0, 1) := by decide +kernel
theorem dX7_searches_71 : decode cX7_searches 71 = .ok (.iload 4, 2) := by decide +kernel
theorem dX7_searches_73 : decode cX7_searches 73 = .ok (.iload 5, 2) := by decide +kernel
theorem dX7_searches_75 : decode cX7_searches 75 = .ok (.invokevirtual 159, 3) := by decide +kernel
theorem dX7_searches_78 : decode cX7_searches 78 = .ok (.ifCond .eq 18, 3) := by decide +kernel
theorem dX7_searches_81 : decode cX7_searches 81 = .ok (.aload_n 0, 1) := by decide +kernel
theorem dX7_searches_82 : decode cX7_searches 82 = .ok (.iload 4, 2) := by decide +kernel
theorem dX7_searches_84 : decode cX7_searches 84 = .ok (.iconst 1, 1) := by decide +kernel
theorem dX7_searches_85 : decode cX7_searches 85 = .ok (.iadd, 1) := by decide +kernel
theorem dX7_searches_86 : decode cX7_searches 86 = .ok (.invokevirtual 163, 3) := by decide +kernel
theorem dX7_searches_89 : decode cX7_searches 89 = .ok (.ifCond .lt 7, 3) := by decide +kernel
theorem dX7_searches_92 : decode cX7_searches 92 = .ok (.iconst 1, 1) := by decide +kernel
