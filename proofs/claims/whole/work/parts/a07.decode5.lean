theorem dX6_tried_49 : decode cX6_tried 49 = .ok (.istore_n 3, 1) := by decide +kernel
theorem dX6_tried_50 : decode cX6_tried 50 = .ok (.iload_n 1, 1) := by decide +kernel
theorem dX6_tried_51 : decode cX6_tried 51 = .ok (.iload_n 2, 1) := by decide +kernel
theorem dX6_tried_52 : decode cX6_tried 52 = .ok (.iload 4, 2) := by decide +kernel
theorem dX6_tried_54 : decode cX6_tried 54 = .ok (.aload_n 0, 1) := by decide +kernel
theorem dX6_tried_55 : decode cX6_tried 55 = .ok (.getfield 53, 3) := by decide +kernel
theorem dX6_tried_58 : decode cX6_tried 58 = .ok (.iload 5, 2) := by decide +kernel
theorem dX6_tried_60 : decode cX6_tried 60 = .ok (.iconst 3, 1) := by decide +kernel
theorem dX6_tried_61 : decode cX6_tried 61 = .ok (.invokevirtual 91, 3) := by decide +kernel
theorem dX6_tried_64 : decode cX6_tried 64 = .ok (.invokestatic 250, 3) := by decide +kernel
theorem dX6_tried_67 : decode cX6_tried 67 = .ok (.ifCond .eq 8, 3) := by decide +kernel
theorem dX6_tried_70 : decode cX6_tried 70 = .ok (.iload_n 3, 1) := by decide +kernel
theorem dX6_tried_71 : decode cX6_tried 71 = .ok (.invokestatic 254, 3) := by decide +kernel
theorem dX6_tried_74 : decode cX6_tried 74 = .ok (.istore_n 3, 1) := by decide +kernel
theorem dX6_tried_75 : decode cX6_tried 75 = .ok (.iinc 4 1, 3) := by decide +kernel
theorem dX6_tried_78 : decode cX6_tried 78 = .ok (.goto (-66), 3) := by decide +kernel
theorem dX6_tried_81 : decode cX6_tried 81 = .ok (.iload_n 3, 1) := by decide +kernel
theorem dX6_tried_82 : decode cX6_tried 82 = .ok (.ireturn, 1) := by decide +kernel
theorem dX6_slips_0 : decode cX6_slips 0 = .ok (.ldc2_w 257, 3) := by decide +kernel
theorem dX6_slips_3 : decode cX6_slips 3 = .ok (.iload_n 0, 1) := by decide +kernel
theorem dX6_slips_4 : decode cX6_slips 4 = .ok (.i2l, 1) := by decide +kernel
theorem dX6_slips_5 : decode cX6_slips 5 = .ok (.lmul, 1) := by decide +kernel
theorem dX6_slips_6 : decode cX6_slips 6 = .ok (.ldc2_w 259, 3) := by decide +kernel
theorem dX6_slips_9 : decode cX6_slips 9 = .ok (.iload_n 1, 1) := by decide +kernel
theorem dX6_slips_10 : decode cX6_slips 10 = .ok (.i2l, 1) := by decide +kernel
theorem dX6_slips_11 : decode cX6_slips 11 = .ok (.lmul, 1) := by decide +kernel
theorem dX6_slips_12 : decode cX6_slips 12 = .ok (.ladd, 1) := by decide +kernel
theorem dX6_slips_13 : decode cX6_slips 13 = .ok (.ldc2_w 261, 3) := by decide +kernel
theorem dX6_slips_16 : decode cX6_slips 16 = .ok (.iload_n 2, 1) := by decide +kernel
theorem dX6_slips_17 : decode cX6_slips 17 = .ok (.i2l, 1) := by decide +kernel
theorem dX6_slips_18 : decode cX6_slips 18 = .ok (.lmul, 1) := by decide +kernel
theorem dX6_slips_19 : decode cX6_slips 19 = .ok (.ladd, 1) := by decide +kernel
theorem dX6_slips_20 : decode cX6_slips 20 = .ok (.lconst 1, 1) := by decide +kernel
theorem dX6_slips_21 : decode cX6_slips 21 = .ok (.ladd, 1) := by decide +kernel
theorem dX6_slips_22 : decode cX6_slips 22 = .ok (.lstore 4, 2) := by decide +kernel
theorem dX6_slips_24 : decode cX6_slips 24 = .ok (.lload 4, 2) := by decide +kernel
theorem dX6_slips_26 : decode cX6_slips 26 = .ok (.lload 4, 2) := by decide +kernel
theorem dX6_slips_28 : decode cX6_slips 28 = .ok (.lmul, 1) := by decide +kernel
theorem dX6_slips_29 : decode cX6_slips 29 = .ok (.ldc2_w 263, 3) := by decide +kernel
theorem dX6_slips_32 : decode cX6_slips 32 = .ok (.lrem, 1) := by decide +kernel
theorem dX6_slips_33 : decode cX6_slips 33 = .ok (.ldc2_w 207, 3) := by decide +kernel
theorem dX6_slips_36 : decode cX6_slips 36 = .ok (.lrem, 1) := by decide +kernel
theorem dX6_slips_37 : decode cX6_slips 37 = .ok (.iload_n 3, 1) := by decide +kernel
theorem dX6_slips_38 : decode cX6_slips 38 = .ok (.i2l, 1) := by decide +kernel
theorem dX6_slips_39 : decode cX6_slips 39 = .ok (.lcmp, 1) := by decide +kernel
theorem dX6_slips_40 : decode cX6_slips 40 = .ok (.ifCond .lt 7, 3) := by decide +kernel
theorem dX6_slips_43 : decode cX6_slips 43 = .ok (.iconst 1, 1) := by decide +kernel
theorem dX6_slips_44 : decode cX6_slips 44 = .ok (.goto 4, 3) := by decide +kernel
theorem dX6_slips_47 : decode cX6_slips 47 = .ok (.iconst 0, 1) := by decide +kernel
theorem dX6_slips_48 : decode cX6_slips 48 = .ok (.ireturn, 1) := by decide +kernel
theorem dX6_leaning_0 : decode cX6_leaning 0 = .ok (.iload_n 0, 1) := by decide +kernel
theorem dX6_leaning_1 : decode cX6_leaning 1 = .ok (.iconst 1, 1) := by decide +kernel
theorem dX6_leaning_2 : decode cX6_leaning 2 = .ok (.if_icmp .ne 5, 3) := by decide +kernel
theorem dX6_leaning_5 : decode cX6_leaning 5 = .ok (.iconst 1, 1) := by decide +kernel
theorem dX6_leaning_6 : decode cX6_leaning 6 = .ok (.ireturn, 1) := by decide +kernel
theorem dX6_leaning_7 : decode cX6_leaning 7 = .ok (.iload_n 0, 1) := by decide +kernel
theorem dX6_leaning_8 : decode cX6_leaning 8 = .ok (.iconst 2, 1) := by decide +kernel
theorem dX6_leaning_9 : decode cX6_leaning 9 = .ok (.if_icmp .ne 7, 3) := by decide +kernel
theorem dX6_leaning_12 : decode cX6_leaning 12 = .ok (.iconst (-1), 1) := by decide +kernel
theorem dX6_leaning_13 : decode cX6_leaning 13 = .ok (.goto 4, 3) := by decide +kernel
theorem dX6_leaning_16 : decode cX6_leaning 16 = .ok (.iconst 0, 1) := by decide +kernel
theorem dX6_leaning_17 : decode cX6_leaning 17 = .ok (.ireturn, 1) := by decide +kernel
theorem dX6_verdictOf_0 : decode cX6_verdictOf 0 = .ok (.iload_n 0, 1) := by decide +kernel
theorem dX6_verdictOf_1 : decode cX6_verdictOf 1 = .ok (.ifCond .ne 5, 3) := by decide +kernel
theorem dX6_verdictOf_4 : decode cX6_verdictOf 4 = .ok (.iconst 0, 1) := by decide +kernel
theorem dX6_verdictOf_5 : decode cX6_verdictOf 5 = .ok (.ireturn, 1) := by decide +kernel
theorem dX6_verdictOf_6 : decode cX6_verdictOf 6 = .ok (.iload_n 0, 1) := by decide +kernel
theorem dX6_verdictOf_7 : decode cX6_verdictOf 7 = .ok (.ifCond .le 7, 3) := by decide +kernel
theorem dX6_verdictOf_10 : decode cX6_verdictOf 10 = .ok (.iconst 1, 1) := by decide +kernel
theorem dX6_verdictOf_11 : decode cX6_verdictOf 11 = .ok (.goto 4, 3) := by decide +kernel
theorem dX6_verdictOf_14 : decode cX6_verdictOf 14 = .ok (.iconst 2, 1) := by decide +kernel
theorem dX6_verdictOf_15 : decode cX6_verdictOf 15 = .ok (.ireturn, 1) := by decide +kernel
theorem dX6_spokenVerdict_0 : decode cX6_spokenVerdict 0 = .ok (.iconst 0, 1) := by decide +kernel
theorem dX6_spokenVerdict_1 : decode cX6_spokenVerdict 1 = .ok (.istore_n 1, 1) := by decide +kernel
theorem dX6_spokenVerdict_2 : decode cX6_spokenVerdict 2 = .ok (.iconst 0, 1) := by decide +kernel
theorem dX6_spokenVerdict_3 : decode cX6_spokenVerdict 3 = .ok (.istore_n 2, 1) := by decide +kernel
theorem dX6_spokenVerdict_4 : decode cX6_spokenVerdict 4 = .ok (.iload_n 2, 1) := by decide +kernel
theorem dX6_spokenVerdict_5 : decode cX6_spokenVerdict 5 = .ok (.aload_n 0, 1) := by decide +kernel
theorem dX6_spokenVerdict_6 : decode cX6_spokenVerdict 6 = .ok (.getfield 19, 3) := by decide +kernel
theorem dX6_spokenVerdict_9 : decode cX6_spokenVerdict 9 = .ok (.invokevirtual 139, 3) := by decide +kernel
theorem dX6_spokenVerdict_12 : decode cX6_spokenVerdict 12 = .ok (.if_icmp .ge 23, 3) := by decide +kernel
theorem dX6_spokenVerdict_15 : decode cX6_spokenVerdict 15 = .ok (.iload_n 1, 1) := by decide +kernel
theorem dX6_spokenVerdict_16 : decode cX6_spokenVerdict 16 = .ok (.aload_n 0, 1) := by decide +kernel
theorem dX6_spokenVerdict_17 : decode cX6_spokenVerdict 17 = .ok (.getfield 19, 3) := by decide +kernel
theorem dX6_spokenVerdict_20 : decode cX6_spokenVerdict 20 = .ok (.iload_n 2, 1) := by decide +kernel
theorem dX6_spokenVerdict_21 : decode cX6_spokenVerdict 21 = .ok (.invokevirtual 148, 3) := by decide +kernel
theorem dX6_spokenVerdict_24 : decode cX6_spokenVerdict 24 = .ok (.invokestatic 265, 3) := by decide +kernel
theorem dX6_spokenVerdict_27 : decode cX6_spokenVerdict 27 = .ok (.iadd, 1) := by decide +kernel
theorem dX6_spokenVerdict_28 : decode cX6_spokenVerdict 28 = .ok (.istore_n 1, 1) := by decide +kernel
theorem dX6_spokenVerdict_29 : decode cX6_spokenVerdict 29 = .ok (.iinc 2 1, 3) := by decide +kernel
theorem dX6_spokenVerdict_32 : decode cX6_spokenVerdict 32 = .ok (.goto (-28), 3) := by decide +kernel
theorem dX6_spokenVerdict_35 : decode cX6_spokenVerdict 35 = .ok (.iload_n 1, 1) := by decide +kernel
theorem dX6_spokenVerdict_36 : decode cX6_spokenVerdict 36 = .ok (.invokestatic 268, 3) := by decide +kernel
theorem dX6_spokenVerdict_39 : decode cX6_spokenVerdict 39 = .ok (.ireturn, 1) := by decide +kernel
theorem dX6_triedVerdict_0 : decode cX6_triedVerdict 0 = .ok (.iconst 0, 1) := by decide +kernel
theorem dX6_triedVerdict_1 : decode cX6_triedVerdict 1 = .ok (.istore_n 2, 1) := by decide +kernel
theorem dX6_triedVerdict_2 : decode cX6_triedVerdict 2 = .ok (.iconst 0, 1) := by decide +kernel
theorem dX6_triedVerdict_3 : decode cX6_triedVerdict 3 = .ok (.istore_n 3, 1) := by decide +kernel
theorem dX6_triedVerdict_4 : decode cX6_triedVerdict 4 = .ok (.iload_n 3, 1) := by decide +kernel
theorem dX6_triedVerdict_5 : decode cX6_triedVerdict 5 = .ok (.aload_n 0, 1) := by decide +kernel
theorem dX6_triedVerdict_6 : decode cX6_triedVerdict 6 = .ok (.getfield 19, 3) := by decide +kernel
theorem dX6_triedVerdict_9 : decode cX6_triedVerdict 9 = .ok (.invokevirtual 139, 3) := by decide +kernel
theorem dX6_triedVerdict_12 : decode cX6_triedVerdict 12 = .ok (.if_icmp .ge 21, 3) := by decide +kernel
theorem dX6_triedVerdict_15 : decode cX6_triedVerdict 15 = .ok (.iload_n 2, 1) := by decide +kernel
theorem dX6_triedVerdict_16 : decode cX6_triedVerdict 16 = .ok (.aload_n 0, 1) := by decide +kernel
theorem dX6_triedVerdict_17 : decode cX6_triedVerdict 17 = .ok (.iload_n 1, 1) := by decide +kernel
theorem dX6_triedVerdict_18 : decode cX6_triedVerdict 18 = .ok (.iload_n 3, 1) := by decide +kernel
theorem dX6_triedVerdict_19 : decode cX6_triedVerdict 19 = .ok (.invokevirtual 209, 3) := by decide +kernel
theorem dX6_triedVerdict_22 : decode cX6_triedVerdict 22 = .ok (.invokestatic 265, 3) := by decide +kernel
theorem dX6_triedVerdict_25 : decode cX6_triedVerdict 25 = .ok (.iadd, 1) := by decide +kernel
theorem dX6_triedVerdict_26 : decode cX6_triedVerdict 26 = .ok (.istore_n 2, 1) := by decide +kernel
theorem dX6_triedVerdict_27 : decode cX6_triedVerdict 27 = .ok (.iinc 3 1, 3) := by decide +kernel
theorem dX6_triedVerdict_30 : decode cX6_triedVerdict 30 = .ok (.goto (-26), 3) := by decide +kernel
theorem dX6_triedVerdict_33 : decode cX6_triedVerdict 33 = .ok (.iload_n 2, 1) := by decide +kernel
theorem dX6_triedVerdict_34 : decode cX6_triedVerdict 34 = .ok (.invokestatic 268, 3) := by decide +kernel
theorem dX6_triedVerdict_37 : decode cX6_triedVerdict 37 = .ok (.ireturn, 1) := by decide +kernel
theorem dX7_init_0 : decode cX7_init 0 = .ok (.aload_n 0, 1) := by decide +kernel
theorem dX7_init_1 : decode cX7_init 1 = .ok (.invokespecial 1, 3) := by decide +kernel
theorem dX7_init_4 : decode cX7_init 4 = .ok (.aload_n 0, 1) := by decide +kernel
theorem dX7_init_5 : decode cX7_init 5 = .ok (.sipush 200, 3) := by decide +kernel
theorem dX7_init_8 : decode cX7_init 8 = .ok (.newarray .byte, 2) := by decide +kernel
theorem dX7_init_10 : decode cX7_init 10 = .ok (.putfield 7, 3) := by decide +kernel
theorem dX7_init_13 : decode cX7_init 13 = .ok (.aload_n 0, 1) := by decide +kernel
theorem dX7_init_14 : decode cX7_init 14 = .ok (.iconst 4, 1) := by decide +kernel
theorem dX7_init_15 : decode cX7_init 15 = .ok (.newarray .int, 2) := by decide +kernel
theorem dX7_init_17 : decode cX7_init 17 = .ok (.putfield 13, 3) := by decide +kernel
theorem dX7_init_20 : decode cX7_init 20 = .ok (.aload_n 0, 1) := by decide +kernel
theorem dX7_init_21 : decode cX7_init 21 = .ok (.iconst 2, 1) := by decide +kernel
theorem dX7_init_22 : decode cX7_init 22 = .ok (.newarray .int, 2) := by decide +kernel
theorem dX7_init_24 : decode cX7_init 24 = .ok (.putfield 17, 3) := by decide +kernel
theorem dX7_init_27 : decode cX7_init 27 = .ok (.aload_n 0, 1) := by decide +kernel
theorem dX7_init_28 : decode cX7_init 28 = .ok (.bipush 70, 2) := by decide +kernel
theorem dX7_init_30 : decode cX7_init 30 = .ok (.newarray .int, 2) := by decide +kernel
theorem dX7_init_32 : decode cX7_init 32 = .ok (.putfield 20, 3) := by decide +kernel
theorem dX7_init_35 : decode cX7_init 35 = .ok (.aload_n 0, 1) := by decide +kernel
theorem dX7_init_36 : decode cX7_init 36 = .ok (.bipush 14, 2) := by decide +kernel
theorem dX7_init_38 : decode cX7_init 38 = .ok (.newarray .int, 2) := by decide +kernel
theorem dX7_init_40 : decode cX7_init 40 = .ok (.putfield 23, 3) := by decide +kernel
theorem dX7_init_43 : decode cX7_init 43 = .ok (.aload_n 0, 1) := by decide +kernel
theorem dX7_init_44 : decode cX7_init 44 = .ok (.iconst 3, 1) := by decide +kernel
theorem dX7_init_45 : decode cX7_init 45 = .ok (.newarray .int, 2) := by decide +kernel
theorem dX7_init_47 : decode cX7_init 47 = .ok (.putfield 26, 3) := by decide +kernel
theorem dX7_init_50 : decode cX7_init 50 = .ok (.aload_n 0, 1) := by decide +kernel
theorem dX7_init_51 : decode cX7_init 51 = .ok (.bipush 21, 2) := by decide +kernel
theorem dX7_init_53 : decode cX7_init 53 = .ok (.newarray .int, 2) := by decide +kernel
theorem dX7_init_55 : decode cX7_init 55 = .ok (.putfield 29, 3) := by decide +kernel
theorem dX7_init_58 : decode cX7_init 58 = .ok (.aload_n 0, 1) := by decide +kernel
theorem dX7_init_59 : decode cX7_init 59 = .ok (.iconst 3, 1) := by decide +kernel
theorem dX7_init_60 : decode cX7_init 60 = .ok (.newarray .int, 2) := by decide +kernel
theorem dX7_init_62 : decode cX7_init 62 = .ok (.putfield 32, 3) := by decide +kernel
theorem dX7_init_65 : decode cX7_init 65 = .ok (.aload_n 0, 1) := by decide +kernel
theorem dX7_init_66 : decode cX7_init 66 = .ok (.bipush 36, 2) := by decide +kernel
theorem dX7_init_68 : decode cX7_init 68 = .ok (.newarray .int, 2) := by decide +kernel
theorem dX7_init_70 : decode cX7_init 70 = .ok (.putfield 35, 3) := by decide +kernel
theorem dX7_init_73 : decode cX7_init 73 = .ok (.aload_n 0, 1) := by decide +kernel
theorem dX7_init_74 : decode cX7_init 74 = .ok (.bipush 8, 2) := by decide +kernel
theorem dX7_init_76 : decode cX7_init 76 = .ok (.newarray .int, 2) := by decide +kernel
theorem dX7_init_78 : decode cX7_init 78 = .ok (.putfield 38, 3) := by decide +kernel
theorem dX7_init_81 : decode cX7_init 81 = .ok (.aload_n 0, 1) := by decide +kernel
theorem dX7_init_82 : decode cX7_init 82 = .ok (.sipush 1500, 3) := by decide +kernel
theorem dX7_init_85 : decode cX7_init 85 = .ok (.newarray .long, 2) := by decide +kernel
theorem dX7_init_87 : decode cX7_init 87 = .ok (.putfield 41, 3) := by decide +kernel
theorem dX7_init_90 : decode cX7_init 90 = .ok (.aload_n 0, 1) := by decide +kernel
theorem dX7_init_91 : decode cX7_init 91 = .ok (.bipush 8, 2) := by decide +kernel
theorem dX7_init_93 : decode cX7_init 93 = .ok (.newarray .int, 2) := by decide +kernel
theorem dX7_init_95 : decode cX7_init 95 = .ok (.putfield 45, 3) := by decide +kernel
theorem dX7_init_98 : decode cX7_init 98 = .ok (.aload_n 0, 1) := by decide +kernel
theorem dX7_init_99 : decode cX7_init 99 = .ok (.bipush 7, 2) := by decide +kernel
theorem dX7_init_101 : decode cX7_init 101 = .ok (.newarray .int, 2) := by decide +kernel
theorem dX7_init_103 : decode cX7_init 103 = .ok (.putfield 48, 3) := by decide +kernel
theorem dX7_init_106 : decode cX7_init 106 = .ok (.aload_n 0, 1) := by decide +kernel
theorem dX7_init_107 : decode cX7_init 107 = .ok (.iconst 5, 1) := by decide +kernel
theorem dX7_init_108 : decode cX7_init 108 = .ok (.newarray .int, 2) := by decide +kernel
theorem dX7_init_110 : decode cX7_init 110 = .ok (.putfield 51, 3) := by decide +kernel
theorem dX7_init_113 : decode cX7_init 113 = .ok (.aload_n 0, 1) := by decide +kernel
theorem dX7_init_114 : decode cX7_init 114 = .ok (.invokevirtual 54, 3) := by decide +kernel
theorem dX7_init_117 : decode cX7_init 117 = .ok (.aload_n 0, 1) := by decide +kernel
theorem dX7_init_118 : decode cX7_init 118 = .ok (.getfield 17, 3) := by decide +kernel
theorem dX7_init_121 : decode cX7_init 121 = .ok (.iconst 1, 1) := by decide +kernel
theorem dX7_init_122 : decode cX7_init 122 = .ok (.iconst 1, 1) := by decide +kernel
theorem dX7_init_123 : decode cX7_init 123 = .ok (.iastore, 1) := by decide +kernel
theorem dX7_init_124 : decode cX7_init 124 = .ok (.aload_n 0, 1) := by decide +kernel
theorem dX7_init_125 : decode cX7_init 125 = .ok (.getfield 20, 3) := by decide +kernel
theorem dX7_init_128 : decode cX7_init 128 = .ok (.bipush 35, 2) := by decide +kernel
theorem dX7_init_130 : decode cX7_init 130 = .ok (.iconst 0, 1) := by decide +kernel
theorem dX7_init_131 : decode cX7_init 131 = .ok (.iastore, 1) := by decide +kernel
theorem dX7_init_132 : decode cX7_init 132 = .ok (.aload_n 0, 1) := by decide +kernel
theorem dX7_init_133 : decode cX7_init 133 = .ok (.getfield 20, 3) := by decide +kernel
theorem dX7_init_136 : decode cX7_init 136 = .ok (.bipush 36, 2) := by decide +kernel
theorem dX7_init_138 : decode cX7_init 138 = .ok (.iconst 1, 1) := by decide +kernel
theorem dX7_init_139 : decode cX7_init 139 = .ok (.iastore, 1) := by decide +kernel
theorem dX7_init_140 : decode cX7_init 140 = .ok (.aload_n 0, 1) := by decide +kernel
theorem dX7_init_141 : decode cX7_init 141 = .ok (.getfield 20, 3) := by decide +kernel
theorem dX7_init_144 : decode cX7_init 144 = .ok (.bipush 37, 2) := by decide +kernel
theorem dX7_init_146 : decode cX7_init 146 = .ok (.iconst 0, 1) := by decide +kernel
theorem dX7_init_147 : decode cX7_init 147 = .ok (.iastore, 1) := by decide +kernel
theorem dX7_init_148 : decode cX7_init 148 = .ok (.aload_n 0, 1) := by decide +kernel
theorem dX7_init_149 : decode cX7_init 149 = .ok (.getfield 20, 3) := by decide +kernel
theorem dX7_init_152 : decode cX7_init 152 = .ok (.bipush 38, 2) := by decide +kernel
theorem dX7_init_154 : decode cX7_init 154 = .ok (.bipush 10, 2) := by decide +kernel
theorem dX7_init_156 : decode cX7_init 156 = .ok (.iastore, 1) := by decide +kernel
theorem dX7_init_157 : decode cX7_init 157 = .ok (.aload_n 0, 1) := by decide +kernel
theorem dX7_init_158 : decode cX7_init 158 = .ok (.getfield 20, 3) := by decide +kernel
theorem dX7_init_161 : decode cX7_init 161 = .ok (.bipush 39, 2) := by decide +kernel
theorem dX7_init_163 : decode cX7_init 163 = .ok (.iconst 5, 1) := by decide +kernel
theorem dX7_init_164 : decode cX7_init 164 = .ok (.iastore, 1) := by decide +kernel
theorem dX7_init_165 : decode cX7_init 165 = .ok (.aload_n 0, 1) := by decide +kernel
theorem dX7_init_166 : decode cX7_init 166 = .ok (.invokevirtual 57, 3) := by decide +kernel
theorem dX7_init_169 : decode cX7_init 169 = .ok (.return_, 1) := by decide +kernel
theorem dX7_in_0 : decode cX7_in 0 = .ok (.lload_n 0, 1) := by decide +kernel
theorem dX7_in_1 : decode cX7_in 1 = .ok (.lload_n 2, 1) := by decide +kernel
theorem dX7_in_2 : decode cX7_in 2 = .ok (.lcmp, 1) := by decide +kernel
theorem dX7_in_3 : decode cX7_in 3 = .ok (.ifCond .lt 14, 3) := by decide +kernel
theorem dX7_in_6 : decode cX7_in 6 = .ok (.lload_n 0, 1) := by decide +kernel
theorem dX7_in_7 : decode cX7_in 7 = .ok (.lload 4, 2) := by decide +kernel
theorem dX7_in_9 : decode cX7_in 9 = .ok (.lcmp, 1) := by decide +kernel
theorem dX7_in_10 : decode cX7_in 10 = .ok (.ifCond .gt 7, 3) := by decide +kernel
theorem dX7_in_13 : decode cX7_in 13 = .ok (.iconst 1, 1) := by decide +kernel
theorem dX7_in_14 : decode cX7_in 14 = .ok (.goto 4, 3) := by decide +kernel
theorem dX7_in_17 : decode cX7_in 17 = .ok (.iconst 0, 1) := by decide +kernel
theorem dX7_in_18 : decode cX7_in 18 = .ok (.ireturn, 1) := by decide +kernel
theorem dX7_write_0 : decode cX7_write 0 = .ok (.iload_n 1, 1) := by decide +kernel
theorem dX7_write_1 : decode cX7_write 1 = .ok (.i2l, 1) := by decide +kernel
theorem dX7_write_2 : decode cX7_write 2 = .ok (.lconst 1, 1) := by decide +kernel
theorem dX7_write_3 : decode cX7_write 3 = .ok (.ldc2_w 60, 3) := by decide +kernel
theorem dX7_write_6 : decode cX7_write 6 = .ok (.invokestatic 62, 3) := by decide +kernel
theorem dX7_write_9 : decode cX7_write 9 = .ok (.ifCond .ne 5, 3) := by decide +kernel
theorem dX7_write_12 : decode cX7_write 12 = .ok (.iconst (-1), 1) := by decide +kernel
theorem dX7_write_13 : decode cX7_write 13 = .ok (.ireturn, 1) := by decide +kernel
theorem dX7_write_14 : decode cX7_write 14 = .ok (.aload_n 0, 1) := by decide +kernel
theorem dX7_write_15 : decode cX7_write 15 = .ok (.getfield 66, 3) := by decide +kernel
theorem dX7_write_18 : decode cX7_write 18 = .ok (.iload_n 1, 1) := by decide +kernel
theorem dX7_write_19 : decode cX7_write 19 = .ok (.iadd, 1) := by decide +kernel
theorem dX7_write_20 : decode cX7_write 20 = .ok (.sipush 200, 3) := by decide +kernel
theorem dX7_write_23 : decode cX7_write 23 = .ok (.if_icmp .le 6, 3) := by decide +kernel
theorem dX7_write_26 : decode cX7_write 26 = .ok (.bipush (-3), 2) := by decide +kernel
theorem dX7_write_28 : decode cX7_write 28 = .ok (.ireturn, 1) := by decide +kernel
theorem dX7_write_29 : decode cX7_write 29 = .ok (.iload_n 1, 1) := by decide +kernel
theorem dX7_write_30 : decode cX7_write 30 = .ok (.iconst 1, 1) := by decide +kernel
theorem dX7_write_31 : decode cX7_write 31 = .ok (.isub, 1) := by decide +kernel
theorem dX7_write_32 : decode cX7_write 32 = .ok (.istore 4, 2) := by decide +kernel
theorem dX7_write_34 : decode cX7_write 34 = .ok (.iload 4, 2) := by decide +kernel
theorem dX7_write_36 : decode cX7_write 36 = .ok (.ifCond .lt 37, 3) := by decide +kernel
theorem dX7_write_39 : decode cX7_write 39 = .ok (.aload_n 0, 1) := by decide +kernel
theorem dX7_write_40 : decode cX7_write 40 = .ok (.getfield 7, 3) := by decide +kernel
theorem dX7_write_43 : decode cX7_write 43 = .ok (.aload_n 0, 1) := by decide +kernel
theorem dX7_write_44 : decode cX7_write 44 = .ok (.getfield 66, 3) := by decide +kernel
theorem dX7_write_47 : decode cX7_write 47 = .ok (.lload_n 2, 1) := by decide +kernel
theorem dX7_write_48 : decode cX7_write 48 = .ok (.bipush 8, 2) := by decide +kernel
theorem dX7_write_50 : decode cX7_write 50 = .ok (.iload 4, 2) := by decide +kernel
theorem dX7_write_52 : decode cX7_write 52 = .ok (.imul, 1) := by decide +kernel
theorem dX7_write_53 : decode cX7_write 53 = .ok (.lshr, 1) := by decide +kernel
theorem dX7_write_54 : decode cX7_write 54 = .ok (.l2i, 1) := by decide +kernel
theorem dX7_write_55 : decode cX7_write 55 = .ok (.i2b, 1) := by decide +kernel
theorem dX7_write_56 : decode cX7_write 56 = .ok (.bastore, 1) := by decide +kernel
theorem dX7_write_57 : decode cX7_write 57 = .ok (.aload_n 0, 1) := by decide +kernel
theorem dX7_write_58 : decode cX7_write 58 = .ok (.dup, 1) := by decide +kernel
theorem dX7_write_59 : decode cX7_write 59 = .ok (.getfield 66, 3) := by decide +kernel
theorem dX7_write_62 : decode cX7_write 62 = .ok (.iconst 1, 1) := by decide +kernel
theorem dX7_write_63 : decode cX7_write 63 = .ok (.iadd, 1) := by decide +kernel
theorem dX7_write_64 : decode cX7_write 64 = .ok (.putfield 66, 3) := by decide +kernel
theorem dX7_write_67 : decode cX7_write 67 = .ok (.iinc 4 (-1), 3) := by decide +kernel
theorem dX7_write_70 : decode cX7_write 70 = .ok (.goto (-36), 3) := by decide +kernel
theorem dX7_write_73 : decode cX7_write 73 = .ok (.aload_n 0, 1) := by decide +kernel
theorem dX7_write_74 : decode cX7_write 74 = .ok (.getfield 66, 3) := by decide +kernel
theorem dX7_write_77 : decode cX7_write 77 = .ok (.ireturn, 1) := by decide +kernel
theorem dX7_wipe_0 : decode cX7_wipe 0 = .ok (.aload_n 0, 1) := by decide +kernel
theorem dX7_wipe_1 : decode cX7_wipe 1 = .ok (.getfield 66, 3) := by decide +kernel
theorem dX7_wipe_4 : decode cX7_wipe 4 = .ok (.istore_n 1, 1) := by decide +kernel
theorem dX7_wipe_5 : decode cX7_wipe 5 = .ok (.aload_n 0, 1) := by decide +kernel
theorem dX7_wipe_6 : decode cX7_wipe 6 = .ok (.iconst 0, 1) := by decide +kernel
theorem dX7_wipe_7 : decode cX7_wipe 7 = .ok (.putfield 66, 3) := by decide +kernel
theorem dX7_wipe_10 : decode cX7_wipe 10 = .ok (.iload_n 1, 1) := by decide +kernel
theorem dX7_wipe_11 : decode cX7_wipe 11 = .ok (.ireturn, 1) := by decide +kernel
theorem dX7_number_0 : decode cX7_number 0 = .ok (.iconst 0, 1) := by decide +kernel
theorem dX7_number_1 : decode cX7_number 1 = .ok (.istore_n 1, 1) := by decide +kernel
theorem dX7_number_2 : decode cX7_number 2 = .ok (.iconst 0, 1) := by decide +kernel
theorem dX7_number_3 : decode cX7_number 3 = .ok (.istore_n 2, 1) := by decide +kernel
theorem dX7_number_4 : decode cX7_number 4 = .ok (.aload_n 0, 1) := by decide +kernel
theorem dX7_number_5 : decode cX7_number 5 = .ok (.getfield 70, 3) := by decide +kernel
theorem dX7_number_8 : decode cX7_number 8 = .ok (.aload_n 0, 1) := by decide +kernel
theorem dX7_number_9 : decode cX7_number 9 = .ok (.getfield 66, 3) := by decide +kernel
theorem dX7_number_12 : decode cX7_number 12 = .ok (.if_icmp .ge 68, 3) := by decide +kernel
theorem dX7_number_15 : decode cX7_number 15 = .ok (.aload_n 0, 1) := by decide +kernel
theorem dX7_number_16 : decode cX7_number 16 = .ok (.getfield 7, 3) := by decide +kernel
theorem dX7_number_19 : decode cX7_number 19 = .ok (.aload_n 0, 1) := by decide +kernel
theorem dX7_number_20 : decode cX7_number 20 = .ok (.getfield 70, 3) := by decide +kernel
theorem dX7_number_23 : decode cX7_number 23 = .ok (.baload, 1) := by decide +kernel
theorem dX7_number_24 : decode cX7_number 24 = .ok (.i2l, 1) := by decide +kernel
theorem dX7_number_25 : decode cX7_number 25 = .ok (.ldc2_w 73, 3) := by decide +kernel
theorem dX7_number_28 : decode cX7_number 28 = .ok (.ldc2_w 75, 3) := by decide +kernel
theorem dX7_number_31 : decode cX7_number 31 = .ok (.invokestatic 62, 3) := by decide +kernel
theorem dX7_number_34 : decode cX7_number 34 = .ok (.ifCond .eq 46, 3) := by decide +kernel
theorem dX7_number_37 : decode cX7_number 37 = .ok (.iload_n 2, 1) := by decide +kernel
theorem dX7_number_38 : decode cX7_number 38 = .ok (.iconst 2, 1) := by decide +kernel
theorem dX7_number_39 : decode cX7_number 39 = .ok (.if_icmp .ge 23, 3) := by decide +kernel
theorem dX7_number_42 : decode cX7_number 42 = .ok (.bipush 10, 2) := by decide +kernel
theorem dX7_number_44 : decode cX7_number 44 = .ok (.iload_n 1, 1) := by decide +kernel
theorem dX7_number_45 : decode cX7_number 45 = .ok (.imul, 1) := by decide +kernel
theorem dX7_number_46 : decode cX7_number 46 = .ok (.aload_n 0, 1) := by decide +kernel
theorem dX7_number_47 : decode cX7_number 47 = .ok (.getfield 7, 3) := by decide +kernel
theorem dX7_number_50 : decode cX7_number 50 = .ok (.aload_n 0, 1) := by decide +kernel
theorem dX7_number_51 : decode cX7_number 51 = .ok (.getfield 70, 3) := by decide +kernel
theorem dX7_number_54 : decode cX7_number 54 = .ok (.baload, 1) := by decide +kernel
theorem dX7_number_55 : decode cX7_number 55 = .ok (.iadd, 1) := by decide +kernel
theorem dX7_number_56 : decode cX7_number 56 = .ok (.bipush 48, 2) := by decide +kernel
theorem dX7_number_58 : decode cX7_number 58 = .ok (.isub, 1) := by decide +kernel
theorem dX7_number_59 : decode cX7_number 59 = .ok (.goto 4, 3) := by decide +kernel
theorem dX7_number_62 : decode cX7_number 62 = .ok (.iload_n 1, 1) := by decide +kernel
theorem dX7_number_63 : decode cX7_number 63 = .ok (.istore_n 1, 1) := by decide +kernel
theorem dX7_number_64 : decode cX7_number 64 = .ok (.iinc 2 1, 3) := by decide +kernel
theorem dX7_number_67 : decode cX7_number 67 = .ok (.aload_n 0, 1) := by decide +kernel
theorem dX7_number_68 : decode cX7_number 68 = .ok (.dup, 1) := by decide +kernel
theorem dX7_number_69 : decode cX7_number 69 = .ok (.getfield 70, 3) := by decide +kernel
theorem dX7_number_72 : decode cX7_number 72 = .ok (.iconst 1, 1) := by decide +kernel
theorem dX7_number_73 : decode cX7_number 73 = .ok (.iadd, 1) := by decide +kernel
theorem dX7_number_74 : decode cX7_number 74 = .ok (.putfield 70, 3) := by decide +kernel
theorem dX7_number_77 : decode cX7_number 77 = .ok (.goto (-73), 3) := by decide +kernel
theorem dX7_number_80 : decode cX7_number 80 = .ok (.iload_n 2, 1) := by decide +kernel
theorem dX7_number_81 : decode cX7_number 81 = .ok (.i2l, 1) := by decide +kernel
theorem dX7_number_82 : decode cX7_number 82 = .ok (.lconst 1, 1) := by decide +kernel
theorem dX7_number_83 : decode cX7_number 83 = .ok (.ldc2_w 77, 3) := by decide +kernel
theorem dX7_number_86 : decode cX7_number 86 = .ok (.invokestatic 62, 3) := by decide +kernel
theorem dX7_number_89 : decode cX7_number 89 = .ok (.ifCond .eq 7, 3) := by decide +kernel
theorem dX7_number_92 : decode cX7_number 92 = .ok (.iload_n 1, 1) := by decide +kernel
theorem dX7_number_93 : decode cX7_number 93 = .ok (.goto 4, 3) := by decide +kernel
theorem dX7_number_96 : decode cX7_number 96 = .ok (.iconst (-1), 1) := by decide +kernel
theorem dX7_number_97 : decode cX7_number 97 = .ok (.ireturn, 1) := by decide +kernel
theorem dX7_isItem_0 : decode cX7_isItem 0 = .ok (.aload_n 0, 1) := by decide +kernel
theorem dX7_isItem_1 : decode cX7_isItem 1 = .ok (.getfield 7, 3) := by decide +kernel
theorem dX7_isItem_4 : decode cX7_isItem 4 = .ok (.aload_n 0, 1) := by decide +kernel
theorem dX7_isItem_5 : decode cX7_isItem 5 = .ok (.getfield 70, 3) := by decide +kernel
theorem dX7_isItem_8 : decode cX7_isItem 8 = .ok (.baload, 1) := by decide +kernel
theorem dX7_isItem_9 : decode cX7_isItem 9 = .ok (.istore_n 1, 1) := by decide +kernel
theorem dX7_isItem_10 : decode cX7_isItem 10 = .ok (.aload_n 0, 1) := by decide +kernel
theorem dX7_isItem_11 : decode cX7_isItem 11 = .ok (.dup, 1) := by decide +kernel
theorem dX7_isItem_12 : decode cX7_isItem 12 = .ok (.getfield 70, 3) := by decide +kernel
theorem dX7_isItem_15 : decode cX7_isItem 15 = .ok (.iconst 1, 1) := by decide +kernel
theorem dX7_isItem_16 : decode cX7_isItem 16 = .ok (.iadd, 1) := by decide +kernel
theorem dX7_isItem_17 : decode cX7_isItem 17 = .ok (.putfield 70, 3) := by decide +kernel
theorem dX7_isItem_20 : decode cX7_isItem 20 = .ok (.iload_n 1, 1) := by decide +kernel
theorem dX7_isItem_21 : decode cX7_isItem 21 = .ok (.bipush 105, 2) := by decide +kernel
theorem dX7_isItem_23 : decode cX7_isItem 23 = .ok (.if_icmp .ne 7, 3) := by decide +kernel
theorem dX7_isItem_26 : decode cX7_isItem 26 = .ok (.iconst 5, 1) := by decide +kernel
theorem dX7_isItem_27 : decode cX7_isItem 27 = .ok (.goto 20, 3) := by decide +kernel
theorem dX7_isItem_30 : decode cX7_isItem 30 = .ok (.iload_n 1, 1) := by decide +kernel
theorem dX7_isItem_31 : decode cX7_isItem 31 = .ok (.bipush 116, 2) := by decide +kernel
theorem dX7_isItem_33 : decode cX7_isItem 33 = .ok (.if_icmp .eq 9, 3) := by decide +kernel
theorem dX7_isItem_36 : decode cX7_isItem 36 = .ok (.iload_n 1, 1) := by decide +kernel
theorem dX7_isItem_37 : decode cX7_isItem 37 = .ok (.bipush 104, 2) := by decide +kernel
theorem dX7_isItem_39 : decode cX7_isItem 39 = .ok (.if_icmp .ne 7, 3) := by decide +kernel
theorem dX7_isItem_42 : decode cX7_isItem 42 = .ok (.iconst 2, 1) := by decide +kernel
theorem dX7_isItem_43 : decode cX7_isItem 43 = .ok (.goto 4, 3) := by decide +kernel
theorem dX7_isItem_46 : decode cX7_isItem 46 = .ok (.iconst 0, 1) := by decide +kernel
theorem dX7_isItem_47 : decode cX7_isItem 47 = .ok (.istore_n 2, 1) := by decide +kernel
theorem dX7_isItem_48 : decode cX7_isItem 48 = .ok (.iload_n 2, 1) := by decide +kernel
theorem dX7_isItem_49 : decode cX7_isItem 49 = .ok (.ifCond .le 7, 3) := by decide +kernel
theorem dX7_isItem_52 : decode cX7_isItem 52 = .ok (.iconst 1, 1) := by decide +kernel
theorem dX7_isItem_53 : decode cX7_isItem 53 = .ok (.goto 4, 3) := by decide +kernel
theorem dX7_isItem_56 : decode cX7_isItem 56 = .ok (.iconst 0, 1) := by decide +kernel
theorem dX7_isItem_57 : decode cX7_isItem 57 = .ok (.istore_n 3, 1) := by decide +kernel
theorem dX7_isItem_58 : decode cX7_isItem 58 = .ok (.iconst 0, 1) := by decide +kernel
theorem dX7_isItem_59 : decode cX7_isItem 59 = .ok (.istore 4, 2) := by decide +kernel
theorem dX7_isItem_61 : decode cX7_isItem 61 = .ok (.iload 4, 2) := by decide +kernel
theorem dX7_isItem_63 : decode cX7_isItem 63 = .ok (.iload_n 2, 1) := by decide +kernel
theorem dX7_isItem_64 : decode cX7_isItem 64 = .ok (.if_icmp .ge 103, 3) := by decide +kernel
theorem dX7_isItem_67 : decode cX7_isItem 67 = .ok (.iload_n 3, 1) := by decide +kernel
theorem dX7_isItem_68 : decode cX7_isItem 68 = .ok (.ifCond .eq 99, 3) := by decide +kernel
theorem dX7_isItem_71 : decode cX7_isItem 71 = .ok (.iload 4, 2) := by decide +kernel
theorem dX7_isItem_73 : decode cX7_isItem 73 = .ok (.ifCond .eq 28, 3) := by decide +kernel
theorem dX7_isItem_76 : decode cX7_isItem 76 = .ok (.aload_n 0, 1) := by decide +kernel
theorem dX7_isItem_77 : decode cX7_isItem 77 = .ok (.getfield 70, 3) := by decide +kernel
theorem dX7_isItem_80 : decode cX7_isItem 80 = .ok (.aload_n 0, 1) := by decide +kernel
theorem dX7_isItem_81 : decode cX7_isItem 81 = .ok (.getfield 66, 3) := by decide +kernel
theorem dX7_isItem_84 : decode cX7_isItem 84 = .ok (.if_icmp .ge 21, 3) := by decide +kernel
theorem dX7_isItem_87 : decode cX7_isItem 87 = .ok (.aload_n 0, 1) := by decide +kernel
theorem dX7_isItem_88 : decode cX7_isItem 88 = .ok (.getfield 7, 3) := by decide +kernel
theorem dX7_isItem_91 : decode cX7_isItem 91 = .ok (.aload_n 0, 1) := by decide +kernel
theorem dX7_isItem_92 : decode cX7_isItem 92 = .ok (.getfield 70, 3) := by decide +kernel
theorem dX7_isItem_95 : decode cX7_isItem 95 = .ok (.baload, 1) := by decide +kernel
theorem dX7_isItem_96 : decode cX7_isItem 96 = .ok (.bipush 44, 2) := by decide +kernel
theorem dX7_isItem_98 : decode cX7_isItem 98 = .ok (.if_icmp .ne 7, 3) := by decide +kernel
theorem dX7_isItem_101 : decode cX7_isItem 101 = .ok (.iconst 1, 1) := by decide +kernel
theorem dX7_isItem_102 : decode cX7_isItem 102 = .ok (.goto 4, 3) := by decide +kernel
theorem dX7_isItem_105 : decode cX7_isItem 105 = .ok (.iconst 0, 1) := by decide +kernel
theorem dX7_isItem_106 : decode cX7_isItem 106 = .ok (.istore_n 3, 1) := by decide +kernel
theorem dX7_isItem_107 : decode cX7_isItem 107 = .ok (.aload_n 0, 1) := by decide +kernel
theorem dX7_isItem_108 : decode cX7_isItem 108 = .ok (.dup, 1) := by decide +kernel
theorem dX7_isItem_109 : decode cX7_isItem 109 = .ok (.getfield 70, 3) := by decide +kernel
theorem dX7_isItem_112 : decode cX7_isItem 112 = .ok (.iload 4, 2) := by decide +kernel
theorem dX7_isItem_114 : decode cX7_isItem 114 = .ok (.ifCond .ne 7, 3) := by decide +kernel
theorem dX7_isItem_117 : decode cX7_isItem 117 = .ok (.iconst 0, 1) := by decide +kernel
theorem dX7_isItem_118 : decode cX7_isItem 118 = .ok (.goto 4, 3) := by decide +kernel
theorem dX7_isItem_121 : decode cX7_isItem 121 = .ok (.iconst 1, 1) := by decide +kernel
theorem dX7_isItem_122 : decode cX7_isItem 122 = .ok (.iadd, 1) := by decide +kernel
theorem dX7_isItem_123 : decode cX7_isItem 123 = .ok (.putfield 70, 3) := by decide +kernel
theorem dX7_isItem_126 : decode cX7_isItem 126 = .ok (.aload_n 0, 1) := by decide +kernel
theorem dX7_isItem_127 : decode cX7_isItem 127 = .ok (.getfield 51, 3) := by decide +kernel
theorem dX7_isItem_130 : decode cX7_isItem 130 = .ok (.iload 4, 2) := by decide +kernel
theorem dX7_isItem_132 : decode cX7_isItem 132 = .ok (.iload_n 3, 1) := by decide +kernel
theorem dX7_isItem_133 : decode cX7_isItem 133 = .ok (.ifCond .eq 10, 3) := by decide +kernel
theorem dX7_isItem_136 : decode cX7_isItem 136 = .ok (.aload_n 0, 1) := by decide +kernel
theorem dX7_isItem_137 : decode cX7_isItem 137 = .ok (.invokevirtual 79, 3) := by decide +kernel
theorem dX7_isItem_140 : decode cX7_isItem 140 = .ok (.goto 4, 3) := by decide +kernel
theorem dX7_isItem_143 : decode cX7_isItem 143 = .ok (.iconst (-1), 1) := by decide +kernel
theorem dX7_isItem_144 : decode cX7_isItem 144 = .ok (.iastore, 1) := by decide +kernel
theorem dX7_isItem_145 : decode cX7_isItem 145 = .ok (.aload_n 0, 1) := by decide +kernel
theorem dX7_isItem_146 : decode cX7_isItem 146 = .ok (.getfield 51, 3) := by decide +kernel
theorem dX7_isItem_149 : decode cX7_isItem 149 = .ok (.iload 4, 2) := by decide +kernel
theorem dX7_isItem_151 : decode cX7_isItem 151 = .ok (.iaload, 1) := by decide +kernel
theorem dX7_isItem_152 : decode cX7_isItem 152 = .ok (.ifCond .lt 7, 3) := by decide +kernel
theorem dX7_isItem_155 : decode cX7_isItem 155 = .ok (.iconst 1, 1) := by decide +kernel
theorem dX7_isItem_156 : decode cX7_isItem 156 = .ok (.goto 4, 3) := by decide +kernel
theorem dX7_isItem_159 : decode cX7_isItem 159 = .ok (.iconst 0, 1) := by decide +kernel
theorem dX7_isItem_160 : decode cX7_isItem 160 = .ok (.istore_n 3, 1) := by decide +kernel
theorem dX7_isItem_161 : decode cX7_isItem 161 = .ok (.iinc 4 1, 3) := by decide +kernel
theorem dX7_isItem_164 : decode cX7_isItem 164 = .ok (.goto (-103), 3) := by decide +kernel
theorem dX7_isItem_167 : decode cX7_isItem 167 = .ok (.iload_n 3, 1) := by decide +kernel
theorem dX7_isItem_168 : decode cX7_isItem 168 = .ok (.ifCond .eq 32, 3) := by decide +kernel
theorem dX7_isItem_171 : decode cX7_isItem 171 = .ok (.aload_n 0, 1) := by decide +kernel
theorem dX7_isItem_172 : decode cX7_isItem 172 = .ok (.getfield 70, 3) := by decide +kernel
theorem dX7_isItem_175 : decode cX7_isItem 175 = .ok (.aload_n 0, 1) := by decide +kernel
theorem dX7_isItem_176 : decode cX7_isItem 176 = .ok (.getfield 66, 3) := by decide +kernel
theorem dX7_isItem_179 : decode cX7_isItem 179 = .ok (.if_icmp .ge 21, 3) := by decide +kernel
theorem dX7_isItem_182 : decode cX7_isItem 182 = .ok (.aload_n 0, 1) := by decide +kernel
theorem dX7_isItem_183 : decode cX7_isItem 183 = .ok (.getfield 7, 3) := by decide +kernel
theorem dX7_isItem_186 : decode cX7_isItem 186 = .ok (.aload_n 0, 1) := by decide +kernel
theorem dX7_isItem_187 : decode cX7_isItem 187 = .ok (.getfield 70, 3) := by decide +kernel
theorem dX7_isItem_190 : decode cX7_isItem 190 = .ok (.baload, 1) := by decide +kernel
theorem dX7_isItem_191 : decode cX7_isItem 191 = .ok (.bipush 59, 2) := by decide +kernel
theorem dX7_isItem_193 : decode cX7_isItem 193 = .ok (.if_icmp .ne 7, 3) := by decide +kernel
theorem dX7_isItem_196 : decode cX7_isItem 196 = .ok (.iconst 1, 1) := by decide +kernel
theorem dX7_isItem_197 : decode cX7_isItem 197 = .ok (.goto 4, 3) := by decide +kernel
theorem dX7_isItem_200 : decode cX7_isItem 200 = .ok (.iconst 0, 1) := by decide +kernel
theorem dX7_isItem_201 : decode cX7_isItem 201 = .ok (.istore_n 3, 1) := by decide +kernel
theorem dX7_isItem_202 : decode cX7_isItem 202 = .ok (.aload_n 0, 1) := by decide +kernel
theorem dX7_isItem_203 : decode cX7_isItem 203 = .ok (.dup, 1) := by decide +kernel
theorem dX7_isItem_204 : decode cX7_isItem 204 = .ok (.getfield 70, 3) := by decide +kernel
theorem dX7_isItem_207 : decode cX7_isItem 207 = .ok (.iconst 1, 1) := by decide +kernel
theorem dX7_isItem_208 : decode cX7_isItem 208 = .ok (.iadd, 1) := by decide +kernel
theorem dX7_isItem_209 : decode cX7_isItem 209 = .ok (.putfield 70, 3) := by decide +kernel
theorem dX7_isItem_212 : decode cX7_isItem 212 = .ok (.iload_n 3, 1) := by decide +kernel
theorem dX7_isItem_213 : decode cX7_isItem 213 = .ok (.ifCond .eq 15, 3) := by decide +kernel
theorem dX7_isItem_216 : decode cX7_isItem 216 = .ok (.aload_n 0, 1) := by decide +kernel
theorem dX7_isItem_217 : decode cX7_isItem 217 = .ok (.iload_n 1, 1) := by decide +kernel
theorem dX7_isItem_218 : decode cX7_isItem 218 = .ok (.invokevirtual 83, 3) := by decide +kernel
theorem dX7_isItem_221 : decode cX7_isItem 221 = .ok (.ifCond .eq 7, 3) := by decide +kernel
theorem dX7_isItem_224 : decode cX7_isItem 224 = .ok (.iconst 1, 1) := by decide +kernel
theorem dX7_isItem_225 : decode cX7_isItem 225 = .ok (.goto 4, 3) := by decide +kernel
theorem dX7_isItem_228 : decode cX7_isItem 228 = .ok (.iconst 0, 1) := by decide +kernel
theorem dX7_isItem_229 : decode cX7_isItem 229 = .ok (.ireturn, 1) := by decide +kernel
theorem dX7_isGood_0 : decode cX7_isGood 0 = .ok (.iload_n 1, 1) := by decide +kernel
theorem dX7_isGood_1 : decode cX7_isGood 1 = .ok (.bipush 116, 2) := by decide +kernel
theorem dX7_isGood_3 : decode cX7_isGood 3 = .ok (.if_icmp .ne 67, 3) := by decide +kernel
theorem dX7_isGood_6 : decode cX7_isGood 6 = .ok (.aload_n 0, 1) := by decide +kernel
theorem dX7_isGood_7 : decode cX7_isGood 7 = .ok (.getfield 13, 3) := by decide +kernel
theorem dX7_isGood_10 : decode cX7_isGood 10 = .ok (.iconst 2, 1) := by decide +kernel
theorem dX7_isGood_11 : decode cX7_isGood 11 = .ok (.aload_n 0, 1) := by decide +kernel
theorem dX7_isGood_12 : decode cX7_isGood 12 = .ok (.getfield 51, 3) := by decide +kernel
theorem dX7_isGood_15 : decode cX7_isGood 15 = .ok (.iconst 0, 1) := by decide +kernel
theorem dX7_isGood_16 : decode cX7_isGood 16 = .ok (.iaload, 1) := by decide +kernel
theorem dX7_isGood_17 : decode cX7_isGood 17 = .ok (.iastore, 1) := by decide +kernel
theorem dX7_isGood_18 : decode cX7_isGood 18 = .ok (.aload_n 0, 1) := by decide +kernel
theorem dX7_isGood_19 : decode cX7_isGood 19 = .ok (.getfield 13, 3) := by decide +kernel
theorem dX7_isGood_22 : decode cX7_isGood 22 = .ok (.iconst 3, 1) := by decide +kernel
theorem dX7_isGood_23 : decode cX7_isGood 23 = .ok (.aload_n 0, 1) := by decide +kernel
theorem dX7_isGood_24 : decode cX7_isGood 24 = .ok (.getfield 51, 3) := by decide +kernel
theorem dX7_isGood_27 : decode cX7_isGood 27 = .ok (.iconst 1, 1) := by decide +kernel
theorem dX7_isGood_28 : decode cX7_isGood 28 = .ok (.iaload, 1) := by decide +kernel
theorem dX7_isGood_29 : decode cX7_isGood 29 = .ok (.iastore, 1) := by decide +kernel
theorem dX7_isGood_30 : decode cX7_isGood 30 = .ok (.aload_n 0, 1) := by decide +kernel
theorem dX7_isGood_31 : decode cX7_isGood 31 = .ok (.getfield 51, 3) := by decide +kernel
theorem dX7_isGood_34 : decode cX7_isGood 34 = .ok (.iconst 0, 1) := by decide +kernel
theorem dX7_isGood_35 : decode cX7_isGood 35 = .ok (.iaload, 1) := by decide +kernel
theorem dX7_isGood_36 : decode cX7_isGood 36 = .ok (.i2l, 1) := by decide +kernel
theorem dX7_isGood_37 : decode cX7_isGood 37 = .ok (.lconst 0, 1) := by decide +kernel
theorem dX7_isGood_38 : decode cX7_isGood 38 = .ok (.ldc2_w 60, 3) := by decide +kernel
theorem dX7_isGood_41 : decode cX7_isGood 41 = .ok (.invokestatic 62, 3) := by decide +kernel
theorem dX7_isGood_44 : decode cX7_isGood 44 = .ok (.ifCond .eq 24, 3) := by decide +kernel
theorem dX7_isGood_47 : decode cX7_isGood 47 = .ok (.aload_n 0, 1) := by decide +kernel
theorem dX7_isGood_48 : decode cX7_isGood 48 = .ok (.getfield 51, 3) := by decide +kernel
theorem dX7_isGood_51 : decode cX7_isGood 51 = .ok (.iconst 1, 1) := by decide +kernel
theorem dX7_isGood_52 : decode cX7_isGood 52 = .ok (.iaload, 1) := by decide +kernel
theorem dX7_isGood_53 : decode cX7_isGood 53 = .ok (.i2l, 1) := by decide +kernel
theorem dX7_isGood_54 : decode cX7_isGood 54 = .ok (.lconst 0, 1) := by decide +kernel
theorem dX7_isGood_55 : decode cX7_isGood 55 = .ok (.ldc2_w 60, 3) := by decide +kernel
theorem dX7_isGood_58 : decode cX7_isGood 58 = .ok (.invokestatic 62, 3) := by decide +kernel
theorem dX7_isGood_61 : decode cX7_isGood 61 = .ok (.ifCond .eq 7, 3) := by decide +kernel
theorem dX7_isGood_64 : decode cX7_isGood 64 = .ok (.iconst 1, 1) := by decide +kernel
theorem dX7_isGood_65 : decode cX7_isGood 65 = .ok (.goto 4, 3) := by decide +kernel
theorem dX7_isGood_68 : decode cX7_isGood 68 = .ok (.iconst 0, 1) := by decide +kernel
theorem dX7_isGood_69 : decode cX7_isGood 69 = .ok (.ireturn, 1) := by decide +kernel
theorem dX7_isGood_70 : decode cX7_isGood 70 = .ok (.iload_n 1, 1) := by decide +kernel
theorem dX7_isGood_71 : decode cX7_isGood 71 = .ok (.bipush 104, 2) := by decide +kernel
theorem dX7_isGood_73 : decode cX7_isGood 73 = .ok (.if_icmp .ne 118, 3) := by decide +kernel
theorem dX7_isGood_76 : decode cX7_isGood 76 = .ok (.aload_n 0, 1) := by decide +kernel
theorem dX7_isGood_77 : decode cX7_isGood 77 = .ok (.getfield 51, 3) := by decide +kernel
theorem dX7_isGood_80 : decode cX7_isGood 80 = .ok (.iconst 0, 1) := by decide +kernel
theorem dX7_isGood_81 : decode cX7_isGood 81 = .ok (.iaload, 1) := by decide +kernel
theorem dX7_isGood_82 : decode cX7_isGood 82 = .ok (.i2l, 1) := by decide +kernel
theorem dX7_isGood_83 : decode cX7_isGood 83 = .ok (.lconst 0, 1) := by decide +kernel
theorem dX7_isGood_84 : decode cX7_isGood 84 = .ok (.aload_n 0, 1) := by decide +kernel
theorem dX7_isGood_85 : decode cX7_isGood 85 = .ok (.getfield 17, 3) := by decide +kernel
theorem dX7_isGood_88 : decode cX7_isGood 88 = .ok (.iconst 1, 1) := by decide +kernel
theorem dX7_isGood_89 : decode cX7_isGood 89 = .ok (.iaload, 1) := by decide +kernel
theorem dX7_isGood_90 : decode cX7_isGood 90 = .ok (.iconst 1, 1) := by decide +kernel
theorem dX7_isGood_91 : decode cX7_isGood 91 = .ok (.isub, 1) := by decide +kernel
theorem dX7_isGood_92 : decode cX7_isGood 92 = .ok (.i2l, 1) := by decide +kernel
theorem dX7_isGood_93 : decode cX7_isGood 93 = .ok (.invokestatic 62, 3) := by decide +kernel
theorem dX7_isGood_96 : decode cX7_isGood 96 = .ok (.ifCond .eq 41, 3) := by decide +kernel
theorem dX7_isGood_99 : decode cX7_isGood 99 = .ok (.aload_n 0, 1) := by decide +kernel
theorem dX7_isGood_100 : decode cX7_isGood 100 = .ok (.getfield 51, 3) := by decide +kernel
theorem dX7_isGood_103 : decode cX7_isGood 103 = .ok (.iconst 1, 1) := by decide +kernel
theorem dX7_isGood_104 : decode cX7_isGood 104 = .ok (.iaload, 1) := by decide +kernel
theorem dX7_isGood_105 : decode cX7_isGood 105 = .ok (.i2l, 1) := by decide +kernel
theorem dX7_isGood_106 : decode cX7_isGood 106 = .ok (.lconst 0, 1) := by decide +kernel
theorem dX7_isGood_107 : decode cX7_isGood 107 = .ok (.aload_n 0, 1) := by decide +kernel
theorem dX7_isGood_108 : decode cX7_isGood 108 = .ok (.getfield 17, 3) := by decide +kernel
theorem dX7_isGood_111 : decode cX7_isGood 111 = .ok (.iconst 1, 1) := by decide +kernel
theorem dX7_isGood_112 : decode cX7_isGood 112 = .ok (.iaload, 1) := by decide +kernel
theorem dX7_isGood_113 : decode cX7_isGood 113 = .ok (.iconst 1, 1) := by decide +kernel
theorem dX7_isGood_114 : decode cX7_isGood 114 = .ok (.isub, 1) := by decide +kernel
theorem dX7_isGood_115 : decode cX7_isGood 115 = .ok (.i2l, 1) := by decide +kernel
theorem dX7_isGood_116 : decode cX7_isGood 116 = .ok (.invokestatic 62, 3) := by decide +kernel
theorem dX7_isGood_119 : decode cX7_isGood 119 = .ok (.ifCond .eq 18, 3) := by decide +kernel
theorem dX7_isGood_122 : decode cX7_isGood 122 = .ok (.aload_n 0, 1) := by decide +kernel
theorem dX7_isGood_123 : decode cX7_isGood 123 = .ok (.getfield 51, 3) := by decide +kernel
theorem dX7_isGood_126 : decode cX7_isGood 126 = .ok (.iconst 0, 1) := by decide +kernel
theorem dX7_isGood_127 : decode cX7_isGood 127 = .ok (.iaload, 1) := by decide +kernel
theorem dX7_isGood_128 : decode cX7_isGood 128 = .ok (.aload_n 0, 1) := by decide +kernel
theorem dX7_isGood_129 : decode cX7_isGood 129 = .ok (.getfield 51, 3) := by decide +kernel
theorem dX7_isGood_132 : decode cX7_isGood 132 = .ok (.iconst 1, 1) := by decide +kernel
theorem dX7_isGood_133 : decode cX7_isGood 133 = .ok (.iaload, 1) := by decide +kernel
theorem dX7_isGood_134 : decode cX7_isGood 134 = .ok (.if_icmp .ne 5, 3) := by decide +kernel
theorem dX7_isGood_137 : decode cX7_isGood 137 = .ok (.iconst 0, 1) := by decide +kernel
theorem dX7_isGood_138 : decode cX7_isGood 138 = .ok (.ireturn, 1) := by decide +kernel
theorem dX7_isGood_139 : decode cX7_isGood 139 = .ok (.aload_n 0, 1) := by decide +kernel
theorem dX7_isGood_140 : decode cX7_isGood 140 = .ok (.getfield 23, 3) := by decide +kernel
theorem dX7_isGood_143 : decode cX7_isGood 143 = .ok (.bipush 7, 2) := by decide +kernel
theorem dX7_isGood_145 : decode cX7_isGood 145 = .ok (.aload_n 0, 1) := by decide +kernel
theorem dX7_isGood_146 : decode cX7_isGood 146 = .ok (.getfield 51, 3) := by decide +kernel
theorem dX7_isGood_149 : decode cX7_isGood 149 = .ok (.iconst 0, 1) := by decide +kernel
theorem dX7_isGood_150 : decode cX7_isGood 150 = .ok (.iaload, 1) := by decide +kernel
theorem dX7_isGood_151 : decode cX7_isGood 151 = .ok (.iadd, 1) := by decide +kernel
theorem dX7_isGood_152 : decode cX7_isGood 152 = .ok (.dup2, 1) := by decide +kernel
theorem dX7_isGood_153 : decode cX7_isGood 153 = .ok (.iaload, 1) := by decide +kernel
theorem dX7_isGood_154 : decode cX7_isGood 154 = .ok (.iconst 1, 1) := by decide +kernel
theorem dX7_isGood_155 : decode cX7_isGood 155 = .ok (.aload_n 0, 1) := by decide +kernel
theorem dX7_isGood_156 : decode cX7_isGood 156 = .ok (.getfield 51, 3) := by decide +kernel
theorem dX7_isGood_159 : decode cX7_isGood 159 = .ok (.iconst 1, 1) := by decide +kernel
theorem dX7_isGood_160 : decode cX7_isGood 160 = .ok (.iaload, 1) := by decide +kernel
theorem dX7_isGood_161 : decode cX7_isGood 161 = .ok (.ishl, 1) := by decide +kernel
theorem dX7_isGood_162 : decode cX7_isGood 162 = .ok (.ior, 1) := by decide +kernel
theorem dX7_isGood_163 : decode cX7_isGood 163 = .ok (.iastore, 1) := by decide +kernel
theorem dX7_isGood_164 : decode cX7_isGood 164 = .ok (.aload_n 0, 1) := by decide +kernel
theorem dX7_isGood_165 : decode cX7_isGood 165 = .ok (.getfield 23, 3) := by decide +kernel
theorem dX7_isGood_168 : decode cX7_isGood 168 = .ok (.bipush 7, 2) := by decide +kernel
theorem dX7_isGood_170 : decode cX7_isGood 170 = .ok (.aload_n 0, 1) := by decide +kernel
theorem dX7_isGood_171 : decode cX7_isGood 171 = .ok (.getfield 51, 3) := by decide +kernel
theorem dX7_isGood_174 : decode cX7_isGood 174 = .ok (.iconst 1, 1) := by decide +kernel
theorem dX7_isGood_175 : decode cX7_isGood 175 = .ok (.iaload, 1) := by decide +kernel
theorem dX7_isGood_176 : decode cX7_isGood 176 = .ok (.iadd, 1) := by decide +kernel
theorem dX7_isGood_177 : decode cX7_isGood 177 = .ok (.dup2, 1) := by decide +kernel
theorem dX7_isGood_178 : decode cX7_isGood 178 = .ok (.iaload, 1) := by decide +kernel
theorem dX7_isGood_179 : decode cX7_isGood 179 = .ok (.iconst 1, 1) := by decide +kernel
theorem dX7_isGood_180 : decode cX7_isGood 180 = .ok (.aload_n 0, 1) := by decide +kernel
theorem dX7_isGood_181 : decode cX7_isGood 181 = .ok (.getfield 51, 3) := by decide +kernel
theorem dX7_isGood_184 : decode cX7_isGood 184 = .ok (.iconst 0, 1) := by decide +kernel
theorem dX7_isGood_185 : decode cX7_isGood 185 = .ok (.iaload, 1) := by decide +kernel
theorem dX7_isGood_186 : decode cX7_isGood 186 = .ok (.ishl, 1) := by decide +kernel
theorem dX7_isGood_187 : decode cX7_isGood 187 = .ok (.ior, 1) := by decide +kernel
theorem dX7_isGood_188 : decode cX7_isGood 188 = .ok (.iastore, 1) := by decide +kernel
theorem dX7_isGood_189 : decode cX7_isGood 189 = .ok (.iconst 1, 1) := by decide +kernel
theorem dX7_isGood_190 : decode cX7_isGood 190 = .ok (.ireturn, 1) := by decide +kernel
theorem dX7_isGood_191 : decode cX7_isGood 191 = .ok (.aload_n 0, 1) := by decide +kernel
theorem dX7_isGood_192 : decode cX7_isGood 192 = .ok (.getfield 51, 3) := by decide +kernel
theorem dX7_isGood_195 : decode cX7_isGood 195 = .ok (.iconst 0, 1) := by decide +kernel
theorem dX7_isGood_196 : decode cX7_isGood 196 = .ok (.iaload, 1) := by decide +kernel
theorem dX7_isGood_197 : decode cX7_isGood 197 = .ok (.i2l, 1) := by decide +kernel
theorem dX7_isGood_198 : decode cX7_isGood 198 = .ok (.lconst 0, 1) := by decide +kernel
theorem dX7_isGood_199 : decode cX7_isGood 199 = .ok (.ldc2_w 60, 3) := by decide +kernel
theorem dX7_isGood_202 : decode cX7_isGood 202 = .ok (.invokestatic 62, 3) := by decide +kernel
theorem dX7_isGood_205 : decode cX7_isGood 205 = .ok (.ifCond .eq 101, 3) := by decide +kernel
theorem dX7_isGood_208 : decode cX7_isGood 208 = .ok (.aload_n 0, 1) := by decide +kernel
theorem dX7_isGood_209 : decode cX7_isGood 209 = .ok (.getfield 51, 3) := by decide +kernel
theorem dX7_isGood_212 : decode cX7_isGood 212 = .ok (.iconst 1, 1) := by decide +kernel
theorem dX7_isGood_213 : decode cX7_isGood 213 = .ok (.iaload, 1) := by decide +kernel
theorem dX7_isGood_214 : decode cX7_isGood 214 = .ok (.i2l, 1) := by decide +kernel
theorem dX7_isGood_215 : decode cX7_isGood 215 = .ok (.lconst 0, 1) := by decide +kernel
theorem dX7_isGood_216 : decode cX7_isGood 216 = .ok (.ldc2_w 60, 3) := by decide +kernel
theorem dX7_isGood_219 : decode cX7_isGood 219 = .ok (.invokestatic 62, 3) := by decide +kernel
theorem dX7_isGood_222 : decode cX7_isGood 222 = .ok (.ifCond .eq 84, 3) := by decide +kernel
theorem dX7_isGood_225 : decode cX7_isGood 225 = .ok (.aload_n 0, 1) := by decide +kernel
theorem dX7_isGood_226 : decode cX7_isGood 226 = .ok (.getfield 51, 3) := by decide +kernel
theorem dX7_isGood_229 : decode cX7_isGood 229 = .ok (.iconst 0, 1) := by decide +kernel
theorem dX7_isGood_230 : decode cX7_isGood 230 = .ok (.iaload, 1) := by decide +kernel
theorem dX7_isGood_231 : decode cX7_isGood 231 = .ok (.aload_n 0, 1) := by decide +kernel
theorem dX7_isGood_232 : decode cX7_isGood 232 = .ok (.getfield 51, 3) := by decide +kernel
theorem dX7_isGood_235 : decode cX7_isGood 235 = .ok (.iconst 1, 1) := by decide +kernel
theorem dX7_isGood_236 : decode cX7_isGood 236 = .ok (.iaload, 1) := by decide +kernel
