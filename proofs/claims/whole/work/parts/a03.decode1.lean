theorem dX0_init_0 : decode cX0_init 0 = .ok (.aload_n 0, 1) := by decide +kernel
theorem dX0_init_1 : decode cX0_init 1 = .ok (.invokespecial 3, 3) := by decide +kernel
theorem dX0_init_4 : decode cX0_init 4 = .ok (.aload_n 0, 1) := by decide +kernel
theorem dX0_init_5 : decode cX0_init 5 = .ok (.bipush 35, 2) := by decide +kernel
theorem dX0_init_7 : decode cX0_init 7 = .ok (.newarray .int, 2) := by decide +kernel
theorem dX0_init_9 : decode cX0_init 9 = .ok (.putfield 9, 3) := by decide +kernel
theorem dX0_init_12 : decode cX0_init 12 = .ok (.aload_n 0, 1) := by decide +kernel
theorem dX0_init_13 : decode cX0_init 13 = .ok (.bipush 7, 2) := by decide +kernel
theorem dX0_init_15 : decode cX0_init 15 = .ok (.newarray .int, 2) := by decide +kernel
theorem dX0_init_17 : decode cX0_init 17 = .ok (.putfield 15, 3) := by decide +kernel
theorem dX0_init_20 : decode cX0_init 20 = .ok (.aload_n 0, 1) := by decide +kernel
theorem dX0_init_21 : decode cX0_init 21 = .ok (.iconst 0, 1) := by decide +kernel
theorem dX0_init_22 : decode cX0_init 22 = .ok (.putfield 18, 3) := by decide +kernel
theorem dX0_init_25 : decode cX0_init 25 = .ok (.aload_n 0, 1) := by decide +kernel
theorem dX0_init_26 : decode cX0_init 26 = .ok (.iconst 0, 1) := by decide +kernel
theorem dX0_init_27 : decode cX0_init 27 = .ok (.putfield 22, 3) := by decide +kernel
theorem dX0_init_30 : decode cX0_init 30 = .ok (.aload_n 0, 1) := by decide +kernel
theorem dX0_init_31 : decode cX0_init 31 = .ok (.iconst 1, 1) := by decide +kernel
theorem dX0_init_32 : decode cX0_init 32 = .ok (.putfield 25, 3) := by decide +kernel
theorem dX0_init_35 : decode cX0_init 35 = .ok (.return_, 1) := by decide +kernel
theorem dX0_mouths_0 : decode cX0_mouths 0 = .ok (.aload_n 0, 1) := by decide +kernel
theorem dX0_mouths_1 : decode cX0_mouths 1 = .ok (.getfield 18, 3) := by decide +kernel
theorem dX0_mouths_4 : decode cX0_mouths 4 = .ok (.ireturn, 1) := by decide +kernel
theorem dX0_speaks_0 : decode cX0_speaks 0 = .ok (.aload_n 0, 1) := by decide +kernel
theorem dX0_speaks_1 : decode cX0_speaks 1 = .ok (.getfield 22, 3) := by decide +kernel
theorem dX0_speaks_4 : decode cX0_speaks 4 = .ok (.ireturn, 1) := by decide +kernel
theorem dX0_hears_0 : decode cX0_hears 0 = .ok (.aload_n 0, 1) := by decide +kernel
theorem dX0_hears_1 : decode cX0_hears 1 = .ok (.getfield 25, 3) := by decide +kernel
theorem dX0_hears_4 : decode cX0_hears 4 = .ok (.ireturn, 1) := by decide +kernel
theorem dX0_has_0 : decode cX0_has 0 = .ok (.iload_n 1, 1) := by decide +kernel
theorem dX0_has_1 : decode cX0_has 1 = .ok (.ifCond .lt 21, 3) := by decide +kernel
theorem dX0_has_4 : decode cX0_has 4 = .ok (.iload_n 1, 1) := by decide +kernel
theorem dX0_has_5 : decode cX0_has 5 = .ok (.aload_n 0, 1) := by decide +kernel
theorem dX0_has_6 : decode cX0_has 6 = .ok (.getfield 18, 3) := by decide +kernel
theorem dX0_has_9 : decode cX0_has 9 = .ok (.if_icmp .ge 13, 3) := by decide +kernel
theorem dX0_has_12 : decode cX0_has 12 = .ok (.iload_n 1, 1) := by decide +kernel
theorem dX0_has_13 : decode cX0_has 13 = .ok (.bipush 7, 2) := by decide +kernel
theorem dX0_has_15 : decode cX0_has 15 = .ok (.if_icmp .ge 7, 3) := by decide +kernel
theorem dX0_has_18 : decode cX0_has 18 = .ok (.iconst 1, 1) := by decide +kernel
theorem dX0_has_19 : decode cX0_has 19 = .ok (.goto 4, 3) := by decide +kernel
theorem dX0_has_22 : decode cX0_has 22 = .ok (.iconst 0, 1) := by decide +kernel
theorem dX0_has_23 : decode cX0_has 23 = .ok (.ireturn, 1) := by decide +kernel
theorem dX0_clear_0 : decode cX0_clear 0 = .ok (.aload_n 0, 1) := by decide +kernel
theorem dX0_clear_1 : decode cX0_clear 1 = .ok (.getfield 15, 3) := by decide +kernel
theorem dX0_clear_4 : decode cX0_clear 4 = .ok (.iconst 0, 1) := by decide +kernel
theorem dX0_clear_5 : decode cX0_clear 5 = .ok (.invokestatic 28, 3) := by decide +kernel
theorem dX0_clear_8 : decode cX0_clear 8 = .ok (.aload_n 0, 1) := by decide +kernel
theorem dX0_clear_9 : decode cX0_clear 9 = .ok (.iconst 0, 1) := by decide +kernel
theorem dX0_clear_10 : decode cX0_clear 10 = .ok (.putfield 18, 3) := by decide +kernel
theorem dX0_clear_13 : decode cX0_clear 13 = .ok (.aload_n 0, 1) := by decide +kernel
theorem dX0_clear_14 : decode cX0_clear 14 = .ok (.iconst 0, 1) := by decide +kernel
theorem dX0_clear_15 : decode cX0_clear 15 = .ok (.putfield 22, 3) := by decide +kernel
theorem dX0_clear_18 : decode cX0_clear 18 = .ok (.aload_n 0, 1) := by decide +kernel
theorem dX0_clear_19 : decode cX0_clear 19 = .ok (.iconst 1, 1) := by decide +kernel
theorem dX0_clear_20 : decode cX0_clear 20 = .ok (.putfield 25, 3) := by decide +kernel
theorem dX0_clear_23 : decode cX0_clear 23 = .ok (.return_, 1) := by decide +kernel
theorem dX0_speakAndHear_0 : decode cX0_speakAndHear 0 = .ok (.iload_n 1, 1) := by decide +kernel
theorem dX0_speakAndHear_1 : decode cX0_speakAndHear 1 = .ok (.invokestatic 34, 3) := by decide +kernel
theorem dX0_speakAndHear_4 : decode cX0_speakAndHear 4 = .ok (.ifCond .eq 10, 3) := by decide +kernel
theorem dX0_speakAndHear_7 : decode cX0_speakAndHear 7 = .ok (.iload_n 2, 1) := by decide +kernel
theorem dX0_speakAndHear_8 : decode cX0_speakAndHear 8 = .ok (.invokestatic 34, 3) := by decide +kernel
theorem dX0_speakAndHear_11 : decode cX0_speakAndHear 11 = .ok (.ifCond .ne 5, 3) := by decide +kernel
theorem dX0_speakAndHear_14 : decode cX0_speakAndHear 14 = .ok (.iconst 0, 1) := by decide +kernel
theorem dX0_speakAndHear_15 : decode cX0_speakAndHear 15 = .ok (.ireturn, 1) := by decide +kernel
theorem dX0_speakAndHear_16 : decode cX0_speakAndHear 16 = .ok (.aload_n 0, 1) := by decide +kernel
theorem dX0_speakAndHear_17 : decode cX0_speakAndHear 17 = .ok (.iload_n 1, 1) := by decide +kernel
theorem dX0_speakAndHear_18 : decode cX0_speakAndHear 18 = .ok (.putfield 22, 3) := by decide +kernel
theorem dX0_speakAndHear_21 : decode cX0_speakAndHear 21 = .ok (.aload_n 0, 1) := by decide +kernel
theorem dX0_speakAndHear_22 : decode cX0_speakAndHear 22 = .ok (.iload_n 2, 1) := by decide +kernel
theorem dX0_speakAndHear_23 : decode cX0_speakAndHear 23 = .ok (.putfield 25, 3) := by decide +kernel
theorem dX0_speakAndHear_26 : decode cX0_speakAndHear 26 = .ok (.iconst 1, 1) := by decide +kernel
theorem dX0_speakAndHear_27 : decode cX0_speakAndHear 27 = .ok (.ireturn, 1) := by decide +kernel
theorem dX0_admit_0 : decode cX0_admit 0 = .ok (.aload_n 0, 1) := by decide +kernel
theorem dX0_admit_1 : decode cX0_admit 1 = .ok (.getfield 18, 3) := by decide +kernel
theorem dX0_admit_4 : decode cX0_admit 4 = .ok (.bipush 7, 2) := by decide +kernel
theorem dX0_admit_6 : decode cX0_admit 6 = .ok (.if_icmp .ge 22, 3) := by decide +kernel
theorem dX0_admit_9 : decode cX0_admit 9 = .ok (.iload_n 1, 1) := by decide +kernel
theorem dX0_admit_10 : decode cX0_admit 10 = .ok (.invokestatic 34, 3) := by decide +kernel
theorem dX0_admit_13 : decode cX0_admit 13 = .ok (.ifCond .eq 15, 3) := by decide +kernel
theorem dX0_admit_16 : decode cX0_admit 16 = .ok (.iload_n 2, 1) := by decide +kernel
theorem dX0_admit_17 : decode cX0_admit 17 = .ok (.invokestatic 34, 3) := by decide +kernel
theorem dX0_admit_20 : decode cX0_admit 20 = .ok (.ifCond .eq 8, 3) := by decide +kernel
theorem dX0_admit_23 : decode cX0_admit 23 = .ok (.iload_n 1, 1) := by decide +kernel
theorem dX0_admit_24 : decode cX0_admit 24 = .ok (.iload_n 2, 1) := by decide +kernel
theorem dX0_admit_25 : decode cX0_admit 25 = .ok (.if_icmp .ne 5, 3) := by decide +kernel
theorem dX0_admit_28 : decode cX0_admit 28 = .ok (.iconst 0, 1) := by decide +kernel
theorem dX0_admit_29 : decode cX0_admit 29 = .ok (.ireturn, 1) := by decide +kernel
theorem dX0_admit_30 : decode cX0_admit 30 = .ok (.iload_n 3, 1) := by decide +kernel
theorem dX0_admit_31 : decode cX0_admit 31 = .ok (.ifCond .lt 21, 3) := by decide +kernel
theorem dX0_admit_34 : decode cX0_admit 34 = .ok (.iload_n 3, 1) := by decide +kernel
theorem dX0_admit_35 : decode cX0_admit 35 = .ok (.bipush 6, 2) := by decide +kernel
theorem dX0_admit_37 : decode cX0_admit 37 = .ok (.if_icmp .ge 15, 3) := by decide +kernel
theorem dX0_admit_40 : decode cX0_admit 40 = .ok (.iload 4, 2) := by decide +kernel
theorem dX0_admit_42 : decode cX0_admit 42 = .ok (.ifCond .lt 10, 3) := by decide +kernel
theorem dX0_admit_45 : decode cX0_admit 45 = .ok (.iload 4, 2) := by decide +kernel
theorem dX0_admit_47 : decode cX0_admit 47 = .ok (.bipush 10, 2) := by decide +kernel
theorem dX0_admit_49 : decode cX0_admit 49 = .ok (.if_icmp .le 5, 3) := by decide +kernel
theorem dX0_admit_52 : decode cX0_admit 52 = .ok (.iconst 0, 1) := by decide +kernel
theorem dX0_admit_53 : decode cX0_admit 53 = .ok (.ireturn, 1) := by decide +kernel
theorem dX0_admit_54 : decode cX0_admit 54 = .ok (.iload 5, 2) := by decide +kernel
theorem dX0_admit_56 : decode cX0_admit 56 = .ok (.ifCond .lt 10, 3) := by decide +kernel
theorem dX0_admit_59 : decode cX0_admit 59 = .ok (.iload 5, 2) := by decide +kernel
theorem dX0_admit_61 : decode cX0_admit 61 = .ok (.bipush 100, 2) := by decide +kernel
theorem dX0_admit_63 : decode cX0_admit 63 = .ok (.if_icmp .lt 5, 3) := by decide +kernel
theorem dX0_admit_66 : decode cX0_admit 66 = .ok (.iconst 0, 1) := by decide +kernel
theorem dX0_admit_67 : decode cX0_admit 67 = .ok (.ireturn, 1) := by decide +kernel
theorem dX0_admit_68 : decode cX0_admit 68 = .ok (.aload_n 0, 1) := by decide +kernel
theorem dX0_admit_69 : decode cX0_admit 69 = .ok (.getfield 18, 3) := by decide +kernel
theorem dX0_admit_72 : decode cX0_admit 72 = .ok (.iconst 5, 1) := by decide +kernel
theorem dX0_admit_73 : decode cX0_admit 73 = .ok (.imul, 1) := by decide +kernel
theorem dX0_admit_74 : decode cX0_admit 74 = .ok (.istore 6, 2) := by decide +kernel
theorem dX0_admit_76 : decode cX0_admit 76 = .ok (.aload_n 0, 1) := by decide +kernel
theorem dX0_admit_77 : decode cX0_admit 77 = .ok (.getfield 9, 3) := by decide +kernel
theorem dX0_admit_80 : decode cX0_admit 80 = .ok (.iload 6, 2) := by decide +kernel
theorem dX0_admit_82 : decode cX0_admit 82 = .ok (.iload_n 1, 1) := by decide +kernel
theorem dX0_admit_83 : decode cX0_admit 83 = .ok (.iastore, 1) := by decide +kernel
theorem dX0_admit_84 : decode cX0_admit 84 = .ok (.aload_n 0, 1) := by decide +kernel
theorem dX0_admit_85 : decode cX0_admit 85 = .ok (.getfield 9, 3) := by decide +kernel
theorem dX0_admit_88 : decode cX0_admit 88 = .ok (.iload 6, 2) := by decide +kernel
theorem dX0_admit_90 : decode cX0_admit 90 = .ok (.iconst 1, 1) := by decide +kernel
theorem dX0_admit_91 : decode cX0_admit 91 = .ok (.iadd, 1) := by decide +kernel
theorem dX0_admit_92 : decode cX0_admit 92 = .ok (.iload_n 2, 1) := by decide +kernel
theorem dX0_admit_93 : decode cX0_admit 93 = .ok (.iastore, 1) := by decide +kernel
theorem dX0_admit_94 : decode cX0_admit 94 = .ok (.aload_n 0, 1) := by decide +kernel
theorem dX0_admit_95 : decode cX0_admit 95 = .ok (.getfield 9, 3) := by decide +kernel
theorem dX0_admit_98 : decode cX0_admit 98 = .ok (.iload 6, 2) := by decide +kernel
theorem dX0_admit_100 : decode cX0_admit 100 = .ok (.iconst 2, 1) := by decide +kernel
theorem dX0_admit_101 : decode cX0_admit 101 = .ok (.iadd, 1) := by decide +kernel
theorem dX0_admit_102 : decode cX0_admit 102 = .ok (.iload_n 3, 1) := by decide +kernel
theorem dX0_admit_103 : decode cX0_admit 103 = .ok (.iastore, 1) := by decide +kernel
theorem dX0_admit_104 : decode cX0_admit 104 = .ok (.aload_n 0, 1) := by decide +kernel
theorem dX0_admit_105 : decode cX0_admit 105 = .ok (.getfield 9, 3) := by decide +kernel
theorem dX0_admit_108 : decode cX0_admit 108 = .ok (.iload 6, 2) := by decide +kernel
theorem dX0_admit_110 : decode cX0_admit 110 = .ok (.iconst 3, 1) := by decide +kernel
theorem dX0_admit_111 : decode cX0_admit 111 = .ok (.iadd, 1) := by decide +kernel
theorem dX0_admit_112 : decode cX0_admit 112 = .ok (.iload 4, 2) := by decide +kernel
theorem dX0_admit_114 : decode cX0_admit 114 = .ok (.iastore, 1) := by decide +kernel
theorem dX0_admit_115 : decode cX0_admit 115 = .ok (.aload_n 0, 1) := by decide +kernel
theorem dX0_admit_116 : decode cX0_admit 116 = .ok (.getfield 9, 3) := by decide +kernel
theorem dX0_admit_119 : decode cX0_admit 119 = .ok (.iload 6, 2) := by decide +kernel
theorem dX0_admit_121 : decode cX0_admit 121 = .ok (.iconst 4, 1) := by decide +kernel
theorem dX0_admit_122 : decode cX0_admit 122 = .ok (.iadd, 1) := by decide +kernel
theorem dX0_admit_123 : decode cX0_admit 123 = .ok (.iload 5, 2) := by decide +kernel
theorem dX0_admit_125 : decode cX0_admit 125 = .ok (.iastore, 1) := by decide +kernel
theorem dX0_admit_126 : decode cX0_admit 126 = .ok (.aload_n 0, 1) := by decide +kernel
theorem dX0_admit_127 : decode cX0_admit 127 = .ok (.dup, 1) := by decide +kernel
theorem dX0_admit_128 : decode cX0_admit 128 = .ok (.getfield 18, 3) := by decide +kernel
theorem dX0_admit_131 : decode cX0_admit 131 = .ok (.iconst 1, 1) := by decide +kernel
theorem dX0_admit_132 : decode cX0_admit 132 = .ok (.iadd, 1) := by decide +kernel
theorem dX0_admit_133 : decode cX0_admit 133 = .ok (.putfield 18, 3) := by decide +kernel
theorem dX0_admit_136 : decode cX0_admit 136 = .ok (.iconst 1, 1) := by decide +kernel
theorem dX0_admit_137 : decode cX0_admit 137 = .ok (.ireturn, 1) := by decide +kernel
theorem dX0_setAtOdds_0 : decode cX0_setAtOdds 0 = .ok (.aload_n 0, 1) := by decide +kernel
theorem dX0_setAtOdds_1 : decode cX0_setAtOdds 1 = .ok (.iload_n 1, 1) := by decide +kernel
theorem dX0_setAtOdds_2 : decode cX0_setAtOdds 2 = .ok (.invokevirtual 38, 3) := by decide +kernel
theorem dX0_setAtOdds_5 : decode cX0_setAtOdds 5 = .ok (.ifCond .eq 16, 3) := by decide +kernel
theorem dX0_setAtOdds_8 : decode cX0_setAtOdds 8 = .ok (.aload_n 0, 1) := by decide +kernel
theorem dX0_setAtOdds_9 : decode cX0_setAtOdds 9 = .ok (.iload_n 2, 1) := by decide +kernel
theorem dX0_setAtOdds_10 : decode cX0_setAtOdds 10 = .ok (.invokevirtual 38, 3) := by decide +kernel
theorem dX0_setAtOdds_13 : decode cX0_setAtOdds 13 = .ok (.ifCond .eq 8, 3) := by decide +kernel
theorem dX0_setAtOdds_16 : decode cX0_setAtOdds 16 = .ok (.iload_n 1, 1) := by decide +kernel
theorem dX0_setAtOdds_17 : decode cX0_setAtOdds 17 = .ok (.iload_n 2, 1) := by decide +kernel
theorem dX0_setAtOdds_18 : decode cX0_setAtOdds 18 = .ok (.if_icmp .ne 5, 3) := by decide +kernel
theorem dX0_setAtOdds_21 : decode cX0_setAtOdds 21 = .ok (.iconst 0, 1) := by decide +kernel
theorem dX0_setAtOdds_22 : decode cX0_setAtOdds 22 = .ok (.ireturn, 1) := by decide +kernel
theorem dX0_setAtOdds_23 : decode cX0_setAtOdds 23 = .ok (.aload_n 0, 1) := by decide +kernel
theorem dX0_setAtOdds_24 : decode cX0_setAtOdds 24 = .ok (.getfield 15, 3) := by decide +kernel
theorem dX0_setAtOdds_27 : decode cX0_setAtOdds 27 = .ok (.iload_n 1, 1) := by decide +kernel
theorem dX0_setAtOdds_28 : decode cX0_setAtOdds 28 = .ok (.dup2, 1) := by decide +kernel
theorem dX0_setAtOdds_29 : decode cX0_setAtOdds 29 = .ok (.iaload, 1) := by decide +kernel
theorem dX0_setAtOdds_30 : decode cX0_setAtOdds 30 = .ok (.iconst 1, 1) := by decide +kernel
theorem dX0_setAtOdds_31 : decode cX0_setAtOdds 31 = .ok (.iload_n 2, 1) := by decide +kernel
theorem dX0_setAtOdds_32 : decode cX0_setAtOdds 32 = .ok (.ishl, 1) := by decide +kernel
theorem dX0_setAtOdds_33 : decode cX0_setAtOdds 33 = .ok (.ior, 1) := by decide +kernel
theorem dX0_setAtOdds_34 : decode cX0_setAtOdds 34 = .ok (.iastore, 1) := by decide +kernel
theorem dX0_setAtOdds_35 : decode cX0_setAtOdds 35 = .ok (.aload_n 0, 1) := by decide +kernel
theorem dX0_setAtOdds_36 : decode cX0_setAtOdds 36 = .ok (.getfield 15, 3) := by decide +kernel
theorem dX0_setAtOdds_39 : decode cX0_setAtOdds 39 = .ok (.iload_n 2, 1) := by decide +kernel
theorem dX0_setAtOdds_40 : decode cX0_setAtOdds 40 = .ok (.dup2, 1) := by decide +kernel
theorem dX0_setAtOdds_41 : decode cX0_setAtOdds 41 = .ok (.iaload, 1) := by decide +kernel
theorem dX0_setAtOdds_42 : decode cX0_setAtOdds 42 = .ok (.iconst 1, 1) := by decide +kernel
theorem dX0_setAtOdds_43 : decode cX0_setAtOdds 43 = .ok (.iload_n 1, 1) := by decide +kernel
theorem dX0_setAtOdds_44 : decode cX0_setAtOdds 44 = .ok (.ishl, 1) := by decide +kernel
theorem dX0_setAtOdds_45 : decode cX0_setAtOdds 45 = .ok (.ior, 1) := by decide +kernel
theorem dX0_setAtOdds_46 : decode cX0_setAtOdds 46 = .ok (.iastore, 1) := by decide +kernel
theorem dX0_setAtOdds_47 : decode cX0_setAtOdds 47 = .ok (.iconst 1, 1) := by decide +kernel
theorem dX0_setAtOdds_48 : decode cX0_setAtOdds 48 = .ok (.ireturn, 1) := by decide +kernel
theorem dX0_areAtOdds_0 : decode cX0_areAtOdds 0 = .ok (.aload_n 0, 1) := by decide +kernel
theorem dX0_areAtOdds_1 : decode cX0_areAtOdds 1 = .ok (.iload_n 1, 1) := by decide +kernel
theorem dX0_areAtOdds_2 : decode cX0_areAtOdds 2 = .ok (.invokevirtual 38, 3) := by decide +kernel
theorem dX0_areAtOdds_5 : decode cX0_areAtOdds 5 = .ok (.ifCond .eq 28, 3) := by decide +kernel
theorem dX0_areAtOdds_8 : decode cX0_areAtOdds 8 = .ok (.aload_n 0, 1) := by decide +kernel
theorem dX0_areAtOdds_9 : decode cX0_areAtOdds 9 = .ok (.iload_n 2, 1) := by decide +kernel
theorem dX0_areAtOdds_10 : decode cX0_areAtOdds 10 = .ok (.invokevirtual 38, 3) := by decide +kernel
theorem dX0_areAtOdds_13 : decode cX0_areAtOdds 13 = .ok (.ifCond .eq 20, 3) := by decide +kernel
theorem dX0_areAtOdds_16 : decode cX0_areAtOdds 16 = .ok (.aload_n 0, 1) := by decide +kernel
theorem dX0_areAtOdds_17 : decode cX0_areAtOdds 17 = .ok (.getfield 15, 3) := by decide +kernel
theorem dX0_areAtOdds_20 : decode cX0_areAtOdds 20 = .ok (.iload_n 1, 1) := by decide +kernel
theorem dX0_areAtOdds_21 : decode cX0_areAtOdds 21 = .ok (.iaload, 1) := by decide +kernel
theorem dX0_areAtOdds_22 : decode cX0_areAtOdds 22 = .ok (.iload_n 2, 1) := by decide +kernel
theorem dX0_areAtOdds_23 : decode cX0_areAtOdds 23 = .ok (.ishr, 1) := by decide +kernel
theorem dX0_areAtOdds_24 : decode cX0_areAtOdds 24 = .ok (.iconst 1, 1) := by decide +kernel
theorem dX0_areAtOdds_25 : decode cX0_areAtOdds 25 = .ok (.iand, 1) := by decide +kernel
theorem dX0_areAtOdds_26 : decode cX0_areAtOdds 26 = .ok (.ifCond .eq 7, 3) := by decide +kernel
theorem dX0_areAtOdds_29 : decode cX0_areAtOdds 29 = .ok (.iconst 1, 1) := by decide +kernel
theorem dX0_areAtOdds_30 : decode cX0_areAtOdds 30 = .ok (.goto 4, 3) := by decide +kernel
theorem dX0_areAtOdds_33 : decode cX0_areAtOdds 33 = .ok (.iconst 0, 1) := by decide +kernel
theorem dX0_areAtOdds_34 : decode cX0_areAtOdds 34 = .ok (.ireturn, 1) := by decide +kernel
theorem dX0_trait_0 : decode cX0_trait 0 = .ok (.aload_n 0, 1) := by decide +kernel
theorem dX0_trait_1 : decode cX0_trait 1 = .ok (.iload_n 1, 1) := by decide +kernel
theorem dX0_trait_2 : decode cX0_trait 2 = .ok (.invokevirtual 38, 3) := by decide +kernel
theorem dX0_trait_5 : decode cX0_trait 5 = .ok (.ifCond .eq 12, 3) := by decide +kernel
theorem dX0_trait_8 : decode cX0_trait 8 = .ok (.iload_n 2, 1) := by decide +kernel
theorem dX0_trait_9 : decode cX0_trait 9 = .ok (.ifCond .lt 8, 3) := by decide +kernel
theorem dX0_trait_12 : decode cX0_trait 12 = .ok (.iload_n 2, 1) := by decide +kernel
theorem dX0_trait_13 : decode cX0_trait 13 = .ok (.iconst 5, 1) := by decide +kernel
theorem dX0_trait_14 : decode cX0_trait 14 = .ok (.if_icmp .lt 5, 3) := by decide +kernel
theorem dX0_trait_17 : decode cX0_trait 17 = .ok (.iconst (-1), 1) := by decide +kernel
theorem dX0_trait_18 : decode cX0_trait 18 = .ok (.ireturn, 1) := by decide +kernel
theorem dX0_trait_19 : decode cX0_trait 19 = .ok (.aload_n 0, 1) := by decide +kernel
theorem dX0_trait_20 : decode cX0_trait 20 = .ok (.getfield 9, 3) := by decide +kernel
theorem dX0_trait_23 : decode cX0_trait 23 = .ok (.iload_n 1, 1) := by decide +kernel
theorem dX0_trait_24 : decode cX0_trait 24 = .ok (.iconst 5, 1) := by decide +kernel
theorem dX0_trait_25 : decode cX0_trait 25 = .ok (.imul, 1) := by decide +kernel
theorem dX0_trait_26 : decode cX0_trait 26 = .ok (.iload_n 2, 1) := by decide +kernel
theorem dX0_trait_27 : decode cX0_trait 27 = .ok (.iadd, 1) := by decide +kernel
theorem dX0_trait_28 : decode cX0_trait 28 = .ok (.iaload, 1) := by decide +kernel
theorem dX0_trait_29 : decode cX0_trait 29 = .ok (.ireturn, 1) := by decide +kernel
theorem dX0_across_0 : decode cX0_across 0 = .ok (.aload_n 0, 1) := by decide +kernel
theorem dX0_across_1 : decode cX0_across 1 = .ok (.iload_n 1, 1) := by decide +kernel
theorem dX0_across_2 : decode cX0_across 2 = .ok (.invokevirtual 38, 3) := by decide +kernel
theorem dX0_across_5 : decode cX0_across 5 = .ok (.ifCond .ne 6, 3) := by decide +kernel
theorem dX0_across_8 : decode cX0_across 8 = .ok (.bipush (-4), 2) := by decide +kernel
theorem dX0_across_10 : decode cX0_across 10 = .ok (.ireturn, 1) := by decide +kernel
theorem dX0_across_11 : decode cX0_across 11 = .ok (.aload_n 0, 1) := by decide +kernel
theorem dX0_across_12 : decode cX0_across 12 = .ok (.getfield 9, 3) := by decide +kernel
theorem dX0_across_15 : decode cX0_across 15 = .ok (.iload_n 1, 1) := by decide +kernel
theorem dX0_across_16 : decode cX0_across 16 = .ok (.iconst 5, 1) := by decide +kernel
theorem dX0_across_17 : decode cX0_across 17 = .ok (.imul, 1) := by decide +kernel
theorem dX0_across_18 : decode cX0_across 18 = .ok (.iaload, 1) := by decide +kernel
theorem dX0_across_19 : decode cX0_across 19 = .ok (.istore_n 3, 1) := by decide +kernel
theorem dX0_across_20 : decode cX0_across 20 = .ok (.aload_n 0, 1) := by decide +kernel
theorem dX0_across_21 : decode cX0_across 21 = .ok (.getfield 9, 3) := by decide +kernel
theorem dX0_across_24 : decode cX0_across 24 = .ok (.iload_n 1, 1) := by decide +kernel
theorem dX0_across_25 : decode cX0_across 25 = .ok (.iconst 5, 1) := by decide +kernel
theorem dX0_across_26 : decode cX0_across 26 = .ok (.imul, 1) := by decide +kernel
theorem dX0_across_27 : decode cX0_across 27 = .ok (.iconst 1, 1) := by decide +kernel
theorem dX0_across_28 : decode cX0_across 28 = .ok (.iadd, 1) := by decide +kernel
theorem dX0_across_29 : decode cX0_across 29 = .ok (.iaload, 1) := by decide +kernel
theorem dX0_across_30 : decode cX0_across 30 = .ok (.istore 4, 2) := by decide +kernel
theorem dX0_across_32 : decode cX0_across 32 = .ok (.iload_n 3, 1) := by decide +kernel
theorem dX0_across_33 : decode cX0_across 33 = .ok (.iload_n 2, 1) := by decide +kernel
theorem dX0_across_34 : decode cX0_across 34 = .ok (.if_icmp .ne 6, 3) := by decide +kernel
theorem dX0_across_37 : decode cX0_across 37 = .ok (.iload 4, 2) := by decide +kernel
theorem dX0_across_39 : decode cX0_across 39 = .ok (.ireturn, 1) := by decide +kernel
theorem dX0_across_40 : decode cX0_across 40 = .ok (.iload 4, 2) := by decide +kernel
theorem dX0_across_42 : decode cX0_across 42 = .ok (.iload_n 2, 1) := by decide +kernel
theorem dX0_across_43 : decode cX0_across 43 = .ok (.if_icmp .ne 7, 3) := by decide +kernel
theorem dX0_across_46 : decode cX0_across 46 = .ok (.iload_n 3, 1) := by decide +kernel
theorem dX0_across_47 : decode cX0_across 47 = .ok (.goto 5, 3) := by decide +kernel
theorem dX0_across_50 : decode cX0_across 50 = .ok (.bipush (-4), 2) := by decide +kernel
theorem dX0_across_52 : decode cX0_across 52 = .ok (.ireturn, 1) := by decide +kernel
theorem dX0_isTongue_0 : decode cX0_isTongue 0 = .ok (.iload_n 0, 1) := by decide +kernel
theorem dX0_isTongue_1 : decode cX0_isTongue 1 = .ok (.ifCond .lt 13, 3) := by decide +kernel
theorem dX0_isTongue_4 : decode cX0_isTongue 4 = .ok (.iload_n 0, 1) := by decide +kernel
theorem dX0_isTongue_5 : decode cX0_isTongue 5 = .ok (.bipush 9, 2) := by decide +kernel
theorem dX0_isTongue_7 : decode cX0_isTongue 7 = .ok (.if_icmp .ge 7, 3) := by decide +kernel
theorem dX0_isTongue_10 : decode cX0_isTongue 10 = .ok (.iconst 1, 1) := by decide +kernel
theorem dX0_isTongue_11 : decode cX0_isTongue 11 = .ok (.goto 4, 3) := by decide +kernel
theorem dX0_isTongue_14 : decode cX0_isTongue 14 = .ok (.iconst 0, 1) := by decide +kernel
theorem dX0_isTongue_15 : decode cX0_isTongue 15 = .ok (.ireturn, 1) := by decide +kernel
theorem dX1_init_0 : decode cX1_init 0 = .ok (.aload_n 0, 1) := by decide +kernel
theorem dX1_init_1 : decode cX1_init 1 = .ok (.invokespecial 3, 3) := by decide +kernel
theorem dX1_init_4 : decode cX1_init 4 = .ok (.aload_n 0, 1) := by decide +kernel
theorem dX1_init_5 : decode cX1_init 5 = .ok (.bipush 7, 2) := by decide +kernel
theorem dX1_init_7 : decode cX1_init 7 = .ok (.newarray .int, 2) := by decide +kernel
theorem dX1_init_9 : decode cX1_init 9 = .ok (.putfield 9, 3) := by decide +kernel
theorem dX1_init_12 : decode cX1_init 12 = .ok (.aload_n 0, 1) := by decide +kernel
theorem dX1_init_13 : decode cX1_init 13 = .ok (.bipush 12, 2) := by decide +kernel
theorem dX1_init_15 : decode cX1_init 15 = .ok (.newarray .int, 2) := by decide +kernel
theorem dX1_init_17 : decode cX1_init 17 = .ok (.putfield 15, 3) := by decide +kernel
theorem dX1_init_20 : decode cX1_init 20 = .ok (.aload_n 0, 1) := by decide +kernel
theorem dX1_init_21 : decode cX1_init 21 = .ok (.iconst 0, 1) := by decide +kernel
theorem dX1_init_22 : decode cX1_init 22 = .ok (.putfield 18, 3) := by decide +kernel
theorem dX1_init_25 : decode cX1_init 25 = .ok (.aload_n 0, 1) := by decide +kernel
theorem dX1_init_26 : decode cX1_init 26 = .ok (.iconst 0, 1) := by decide +kernel
theorem dX1_init_27 : decode cX1_init 27 = .ok (.putfield 22, 3) := by decide +kernel
theorem dX1_init_30 : decode cX1_init 30 = .ok (.return_, 1) := by decide +kernel
theorem dX1_seated_0 : decode cX1_seated 0 = .ok (.aload_n 0, 1) := by decide +kernel
theorem dX1_seated_1 : decode cX1_seated 1 = .ok (.getfield 18, 3) := by decide +kernel
theorem dX1_seated_4 : decode cX1_seated 4 = .ok (.ireturn, 1) := by decide +kernel
theorem dX1_spoken_0 : decode cX1_spoken 0 = .ok (.aload_n 0, 1) := by decide +kernel
theorem dX1_spoken_1 : decode cX1_spoken 1 = .ok (.getfield 22, 3) := by decide +kernel
theorem dX1_spoken_4 : decode cX1_spoken 4 = .ok (.ireturn, 1) := by decide +kernel
theorem dX1_clear_0 : decode cX1_clear 0 = .ok (.aload_n 0, 1) := by decide +kernel
theorem dX1_clear_1 : decode cX1_clear 1 = .ok (.iconst 0, 1) := by decide +kernel
theorem dX1_clear_2 : decode cX1_clear 2 = .ok (.putfield 18, 3) := by decide +kernel
theorem dX1_clear_5 : decode cX1_clear 5 = .ok (.aload_n 0, 1) := by decide +kernel
theorem dX1_clear_6 : decode cX1_clear 6 = .ok (.iconst 0, 1) := by decide +kernel
theorem dX1_clear_7 : decode cX1_clear 7 = .ok (.putfield 22, 3) := by decide +kernel
theorem dX1_clear_10 : decode cX1_clear 10 = .ok (.return_, 1) := by decide +kernel
theorem dX1_hush_0 : decode cX1_hush 0 = .ok (.aload_n 0, 1) := by decide +kernel
theorem dX1_hush_1 : decode cX1_hush 1 = .ok (.iconst 0, 1) := by decide +kernel
theorem dX1_hush_2 : decode cX1_hush 2 = .ok (.putfield 22, 3) := by decide +kernel
theorem dX1_hush_5 : decode cX1_hush 5 = .ok (.return_, 1) := by decide +kernel
theorem dX1_holds_0 : decode cX1_holds 0 = .ok (.iconst 0, 1) := by decide +kernel
theorem dX1_holds_1 : decode cX1_holds 1 = .ok (.istore_n 2, 1) := by decide +kernel
theorem dX1_holds_2 : decode cX1_holds 2 = .ok (.iload_n 2, 1) := by decide +kernel
theorem dX1_holds_3 : decode cX1_holds 3 = .ok (.aload_n 0, 1) := by decide +kernel
theorem dX1_holds_4 : decode cX1_holds 4 = .ok (.getfield 18, 3) := by decide +kernel
theorem dX1_holds_7 : decode cX1_holds 7 = .ok (.if_icmp .ge 27, 3) := by decide +kernel
theorem dX1_holds_10 : decode cX1_holds 10 = .ok (.iload_n 2, 1) := by decide +kernel
theorem dX1_holds_11 : decode cX1_holds 11 = .ok (.bipush 7, 2) := by decide +kernel
theorem dX1_holds_13 : decode cX1_holds 13 = .ok (.if_icmp .ge 21, 3) := by decide +kernel
theorem dX1_holds_16 : decode cX1_holds 16 = .ok (.aload_n 0, 1) := by decide +kernel
theorem dX1_holds_17 : decode cX1_holds 17 = .ok (.getfield 9, 3) := by decide +kernel
theorem dX1_holds_20 : decode cX1_holds 20 = .ok (.iload_n 2, 1) := by decide +kernel
theorem dX1_holds_21 : decode cX1_holds 21 = .ok (.iaload, 1) := by decide +kernel
theorem dX1_holds_22 : decode cX1_holds 22 = .ok (.iload_n 1, 1) := by decide +kernel
theorem dX1_holds_23 : decode cX1_holds 23 = .ok (.if_icmp .ne 5, 3) := by decide +kernel
theorem dX1_holds_26 : decode cX1_holds 26 = .ok (.iconst 1, 1) := by decide +kernel
theorem dX1_holds_27 : decode cX1_holds 27 = .ok (.ireturn, 1) := by decide +kernel
theorem dX1_holds_28 : decode cX1_holds 28 = .ok (.iinc 2 1, 3) := by decide +kernel
theorem dX1_holds_31 : decode cX1_holds 31 = .ok (.goto (-29), 3) := by decide +kernel
theorem dX1_holds_34 : decode cX1_holds 34 = .ok (.iconst 0, 1) := by decide +kernel
theorem dX1_holds_35 : decode cX1_holds 35 = .ok (.ireturn, 1) := by decide +kernel
theorem dX1_seatBits_0 : decode cX1_seatBits 0 = .ok (.iconst 0, 1) := by decide +kernel
theorem dX1_seatBits_1 : decode cX1_seatBits 1 = .ok (.istore_n 1, 1) := by decide +kernel
theorem dX1_seatBits_2 : decode cX1_seatBits 2 = .ok (.iconst 0, 1) := by decide +kernel
theorem dX1_seatBits_3 : decode cX1_seatBits 3 = .ok (.istore_n 2, 1) := by decide +kernel
theorem dX1_seatBits_4 : decode cX1_seatBits 4 = .ok (.iload_n 2, 1) := by decide +kernel
theorem dX1_seatBits_5 : decode cX1_seatBits 5 = .ok (.aload_n 0, 1) := by decide +kernel
theorem dX1_seatBits_6 : decode cX1_seatBits 6 = .ok (.getfield 18, 3) := by decide +kernel
theorem dX1_seatBits_9 : decode cX1_seatBits 9 = .ok (.if_icmp .ge 26, 3) := by decide +kernel
theorem dX1_seatBits_12 : decode cX1_seatBits 12 = .ok (.iload_n 2, 1) := by decide +kernel
theorem dX1_seatBits_13 : decode cX1_seatBits 13 = .ok (.bipush 7, 2) := by decide +kernel
theorem dX1_seatBits_15 : decode cX1_seatBits 15 = .ok (.if_icmp .ge 20, 3) := by decide +kernel
theorem dX1_seatBits_18 : decode cX1_seatBits 18 = .ok (.iload_n 1, 1) := by decide +kernel
theorem dX1_seatBits_19 : decode cX1_seatBits 19 = .ok (.iconst 1, 1) := by decide +kernel
theorem dX1_seatBits_20 : decode cX1_seatBits 20 = .ok (.aload_n 0, 1) := by decide +kernel
theorem dX1_seatBits_21 : decode cX1_seatBits 21 = .ok (.getfield 9, 3) := by decide +kernel
theorem dX1_seatBits_24 : decode cX1_seatBits 24 = .ok (.iload_n 2, 1) := by decide +kernel
theorem dX1_seatBits_25 : decode cX1_seatBits 25 = .ok (.iaload, 1) := by decide +kernel
theorem dX1_seatBits_26 : decode cX1_seatBits 26 = .ok (.ishl, 1) := by decide +kernel
theorem dX1_seatBits_27 : decode cX1_seatBits 27 = .ok (.ior, 1) := by decide +kernel
theorem dX1_seatBits_28 : decode cX1_seatBits 28 = .ok (.istore_n 1, 1) := by decide +kernel
theorem dX1_seatBits_29 : decode cX1_seatBits 29 = .ok (.iinc 2 1, 3) := by decide +kernel
theorem dX1_seatBits_32 : decode cX1_seatBits 32 = .ok (.goto (-28), 3) := by decide +kernel
theorem dX1_seatBits_35 : decode cX1_seatBits 35 = .ok (.iload_n 1, 1) := by decide +kernel
theorem dX1_seatBits_36 : decode cX1_seatBits 36 = .ok (.ireturn, 1) := by decide +kernel
theorem dX1_sit_0 : decode cX1_sit 0 = .ok (.aload_n 0, 1) := by decide +kernel
theorem dX1_sit_1 : decode cX1_sit 1 = .ok (.getfield 18, 3) := by decide +kernel
theorem dX1_sit_4 : decode cX1_sit 4 = .ok (.bipush 7, 2) := by decide +kernel
theorem dX1_sit_6 : decode cX1_sit 6 = .ok (.if_icmp .ge 23, 3) := by decide +kernel
theorem dX1_sit_9 : decode cX1_sit 9 = .ok (.aload_n 0, 1) := by decide +kernel
theorem dX1_sit_10 : decode cX1_sit 10 = .ok (.getfield 9, 3) := by decide +kernel
theorem dX1_sit_13 : decode cX1_sit 13 = .ok (.aload_n 0, 1) := by decide +kernel
theorem dX1_sit_14 : decode cX1_sit 14 = .ok (.getfield 18, 3) := by decide +kernel
theorem dX1_sit_17 : decode cX1_sit 17 = .ok (.iload_n 1, 1) := by decide +kernel
theorem dX1_sit_18 : decode cX1_sit 18 = .ok (.iastore, 1) := by decide +kernel
theorem dX1_sit_19 : decode cX1_sit 19 = .ok (.aload_n 0, 1) := by decide +kernel
theorem dX1_sit_20 : decode cX1_sit 20 = .ok (.dup, 1) := by decide +kernel
theorem dX1_sit_21 : decode cX1_sit 21 = .ok (.getfield 18, 3) := by decide +kernel
theorem dX1_sit_24 : decode cX1_sit 24 = .ok (.iconst 1, 1) := by decide +kernel
theorem dX1_sit_25 : decode cX1_sit 25 = .ok (.iadd, 1) := by decide +kernel
theorem dX1_sit_26 : decode cX1_sit 26 = .ok (.putfield 18, 3) := by decide +kernel
theorem dX1_sit_29 : decode cX1_sit 29 = .ok (.return_, 1) := by decide +kernel
theorem dX1_rise_0 : decode cX1_rise 0 = .ok (.aload_n 0, 1) := by decide +kernel
theorem dX1_rise_1 : decode cX1_rise 1 = .ok (.getfield 18, 3) := by decide +kernel
theorem dX1_rise_4 : decode cX1_rise 4 = .ok (.ifCond .gt 6, 3) := by decide +kernel
theorem dX1_rise_7 : decode cX1_rise 7 = .ok (.bipush (-4), 2) := by decide +kernel
theorem dX1_rise_9 : decode cX1_rise 9 = .ok (.ireturn, 1) := by decide +kernel
theorem dX1_rise_10 : decode cX1_rise 10 = .ok (.aload_n 0, 1) := by decide +kernel
theorem dX1_rise_11 : decode cX1_rise 11 = .ok (.dup, 1) := by decide +kernel
theorem dX1_rise_12 : decode cX1_rise 12 = .ok (.getfield 18, 3) := by decide +kernel
theorem dX1_rise_15 : decode cX1_rise 15 = .ok (.iconst 1, 1) := by decide +kernel
theorem dX1_rise_16 : decode cX1_rise 16 = .ok (.isub, 1) := by decide +kernel
theorem dX1_rise_17 : decode cX1_rise 17 = .ok (.putfield 18, 3) := by decide +kernel
theorem dX1_rise_20 : decode cX1_rise 20 = .ok (.aload_n 0, 1) := by decide +kernel
theorem dX1_rise_21 : decode cX1_rise 21 = .ok (.getfield 9, 3) := by decide +kernel
theorem dX1_rise_24 : decode cX1_rise 24 = .ok (.aload_n 0, 1) := by decide +kernel
theorem dX1_rise_25 : decode cX1_rise 25 = .ok (.getfield 18, 3) := by decide +kernel
theorem dX1_rise_28 : decode cX1_rise 28 = .ok (.iaload, 1) := by decide +kernel
theorem dX1_rise_29 : decode cX1_rise 29 = .ok (.ireturn, 1) := by decide +kernel
theorem dX1_seatAt_0 : decode cX1_seatAt 0 = .ok (.iload_n 1, 1) := by decide +kernel
theorem dX1_seatAt_1 : decode cX1_seatAt 1 = .ok (.ifCond .lt 26, 3) := by decide +kernel
theorem dX1_seatAt_4 : decode cX1_seatAt 4 = .ok (.iload_n 1, 1) := by decide +kernel
theorem dX1_seatAt_5 : decode cX1_seatAt 5 = .ok (.aload_n 0, 1) := by decide +kernel
theorem dX1_seatAt_6 : decode cX1_seatAt 6 = .ok (.getfield 18, 3) := by decide +kernel
theorem dX1_seatAt_9 : decode cX1_seatAt 9 = .ok (.if_icmp .ge 18, 3) := by decide +kernel
theorem dX1_seatAt_12 : decode cX1_seatAt 12 = .ok (.iload_n 1, 1) := by decide +kernel
theorem dX1_seatAt_13 : decode cX1_seatAt 13 = .ok (.bipush 7, 2) := by decide +kernel
theorem dX1_seatAt_15 : decode cX1_seatAt 15 = .ok (.if_icmp .ge 12, 3) := by decide +kernel
theorem dX1_seatAt_18 : decode cX1_seatAt 18 = .ok (.aload_n 0, 1) := by decide +kernel
theorem dX1_seatAt_19 : decode cX1_seatAt 19 = .ok (.getfield 9, 3) := by decide +kernel
theorem dX1_seatAt_22 : decode cX1_seatAt 22 = .ok (.iload_n 1, 1) := by decide +kernel
theorem dX1_seatAt_23 : decode cX1_seatAt 23 = .ok (.iaload, 1) := by decide +kernel
theorem dX1_seatAt_24 : decode cX1_seatAt 24 = .ok (.goto 5, 3) := by decide +kernel
theorem dX1_seatAt_27 : decode cX1_seatAt 27 = .ok (.bipush (-4), 2) := by decide +kernel
theorem dX1_seatAt_29 : decode cX1_seatAt 29 = .ok (.ireturn, 1) := by decide +kernel
theorem dX1_speak_0 : decode cX1_speak 0 = .ok (.aload_n 0, 1) := by decide +kernel
theorem dX1_speak_1 : decode cX1_speak 1 = .ok (.getfield 22, 3) := by decide +kernel
theorem dX1_speak_4 : decode cX1_speak 4 = .ok (.bipush 12, 2) := by decide +kernel
theorem dX1_speak_6 : decode cX1_speak 6 = .ok (.if_icmp .ge 23, 3) := by decide +kernel
theorem dX1_speak_9 : decode cX1_speak 9 = .ok (.aload_n 0, 1) := by decide +kernel
theorem dX1_speak_10 : decode cX1_speak 10 = .ok (.getfield 15, 3) := by decide +kernel
theorem dX1_speak_13 : decode cX1_speak 13 = .ok (.aload_n 0, 1) := by decide +kernel
theorem dX1_speak_14 : decode cX1_speak 14 = .ok (.getfield 22, 3) := by decide +kernel
theorem dX1_speak_17 : decode cX1_speak 17 = .ok (.iload_n 1, 1) := by decide +kernel
theorem dX1_speak_18 : decode cX1_speak 18 = .ok (.iastore, 1) := by decide +kernel
theorem dX1_speak_19 : decode cX1_speak 19 = .ok (.aload_n 0, 1) := by decide +kernel
theorem dX1_speak_20 : decode cX1_speak 20 = .ok (.dup, 1) := by decide +kernel
theorem dX1_speak_21 : decode cX1_speak 21 = .ok (.getfield 22, 3) := by decide +kernel
theorem dX1_speak_24 : decode cX1_speak 24 = .ok (.iconst 1, 1) := by decide +kernel
theorem dX1_speak_25 : decode cX1_speak 25 = .ok (.iadd, 1) := by decide +kernel
theorem dX1_speak_26 : decode cX1_speak 26 = .ok (.putfield 22, 3) := by decide +kernel
theorem dX1_speak_29 : decode cX1_speak 29 = .ok (.return_, 1) := by decide +kernel
theorem dX1_wordAt_0 : decode cX1_wordAt 0 = .ok (.iload_n 1, 1) := by decide +kernel
theorem dX1_wordAt_1 : decode cX1_wordAt 1 = .ok (.ifCond .lt 26, 3) := by decide +kernel
theorem dX1_wordAt_4 : decode cX1_wordAt 4 = .ok (.iload_n 1, 1) := by decide +kernel
theorem dX1_wordAt_5 : decode cX1_wordAt 5 = .ok (.aload_n 0, 1) := by decide +kernel
theorem dX1_wordAt_6 : decode cX1_wordAt 6 = .ok (.getfield 22, 3) := by decide +kernel
theorem dX1_wordAt_9 : decode cX1_wordAt 9 = .ok (.if_icmp .ge 18, 3) := by decide +kernel
theorem dX1_wordAt_12 : decode cX1_wordAt 12 = .ok (.iload_n 1, 1) := by decide +kernel
theorem dX1_wordAt_13 : decode cX1_wordAt 13 = .ok (.bipush 12, 2) := by decide +kernel
theorem dX1_wordAt_15 : decode cX1_wordAt 15 = .ok (.if_icmp .ge 12, 3) := by decide +kernel
theorem dX1_wordAt_18 : decode cX1_wordAt 18 = .ok (.aload_n 0, 1) := by decide +kernel
theorem dX1_wordAt_19 : decode cX1_wordAt 19 = .ok (.getfield 15, 3) := by decide +kernel
theorem dX1_wordAt_22 : decode cX1_wordAt 22 = .ok (.iload_n 1, 1) := by decide +kernel
theorem dX1_wordAt_23 : decode cX1_wordAt 23 = .ok (.iaload, 1) := by decide +kernel
theorem dX1_wordAt_24 : decode cX1_wordAt 24 = .ok (.goto 5, 3) := by decide +kernel
theorem dX1_wordAt_27 : decode cX1_wordAt 27 = .ok (.bipush (-4), 2) := by decide +kernel
theorem dX1_wordAt_29 : decode cX1_wordAt 29 = .ok (.ireturn, 1) := by decide +kernel
theorem dX1_copyFrom_0 : decode cX1_copyFrom 0 = .ok (.aload_n 1, 1) := by decide +kernel
theorem dX1_copyFrom_1 : decode cX1_copyFrom 1 = .ok (.getfield 9, 3) := by decide +kernel
theorem dX1_copyFrom_4 : decode cX1_copyFrom 4 = .ok (.iconst 0, 1) := by decide +kernel
theorem dX1_copyFrom_5 : decode cX1_copyFrom 5 = .ok (.aload_n 0, 1) := by decide +kernel
theorem dX1_copyFrom_6 : decode cX1_copyFrom 6 = .ok (.getfield 9, 3) := by decide +kernel
theorem dX1_copyFrom_9 : decode cX1_copyFrom 9 = .ok (.iconst 0, 1) := by decide +kernel
theorem dX1_copyFrom_10 : decode cX1_copyFrom 10 = .ok (.bipush 7, 2) := by decide +kernel
theorem dX1_copyFrom_12 : decode cX1_copyFrom 12 = .ok (.invokestatic 25, 3) := by decide +kernel
theorem dX1_copyFrom_15 : decode cX1_copyFrom 15 = .ok (.aload_n 1, 1) := by decide +kernel
theorem dX1_copyFrom_16 : decode cX1_copyFrom 16 = .ok (.getfield 15, 3) := by decide +kernel
theorem dX1_copyFrom_19 : decode cX1_copyFrom 19 = .ok (.iconst 0, 1) := by decide +kernel
theorem dX1_copyFrom_20 : decode cX1_copyFrom 20 = .ok (.aload_n 0, 1) := by decide +kernel
theorem dX1_copyFrom_21 : decode cX1_copyFrom 21 = .ok (.getfield 15, 3) := by decide +kernel
theorem dX1_copyFrom_24 : decode cX1_copyFrom 24 = .ok (.iconst 0, 1) := by decide +kernel
theorem dX1_copyFrom_25 : decode cX1_copyFrom 25 = .ok (.bipush 12, 2) := by decide +kernel
theorem dX1_copyFrom_27 : decode cX1_copyFrom 27 = .ok (.invokestatic 25, 3) := by decide +kernel
theorem dX1_copyFrom_30 : decode cX1_copyFrom 30 = .ok (.aload_n 0, 1) := by decide +kernel
theorem dX1_copyFrom_31 : decode cX1_copyFrom 31 = .ok (.aload_n 1, 1) := by decide +kernel
theorem dX1_copyFrom_32 : decode cX1_copyFrom 32 = .ok (.getfield 18, 3) := by decide +kernel
theorem dX1_copyFrom_35 : decode cX1_copyFrom 35 = .ok (.putfield 18, 3) := by decide +kernel
theorem dX1_copyFrom_38 : decode cX1_copyFrom 38 = .ok (.aload_n 0, 1) := by decide +kernel
theorem dX1_copyFrom_39 : decode cX1_copyFrom 39 = .ok (.aload_n 1, 1) := by decide +kernel
theorem dX1_copyFrom_40 : decode cX1_copyFrom 40 = .ok (.getfield 22, 3) := by decide +kernel
theorem dX1_copyFrom_43 : decode cX1_copyFrom 43 = .ok (.putfield 22, 3) := by decide +kernel
theorem dX1_copyFrom_46 : decode cX1_copyFrom 46 = .ok (.return_, 1) := by decide +kernel
theorem dX2_init_0 : decode cX2_init 0 = .ok (.aload_n 0, 1) := by decide +kernel
theorem dX2_init_1 : decode cX2_init 1 = .ok (.invokespecial 3, 3) := by decide +kernel
theorem dX2_init_4 : decode cX2_init 4 = .ok (.aload_n 0, 1) := by decide +kernel
theorem dX2_init_5 : decode cX2_init 5 = .ok (.bipush 100, 2) := by decide +kernel
theorem dX2_init_7 : decode cX2_init 7 = .ok (.newarray .long, 2) := by decide +kernel
theorem dX2_init_9 : decode cX2_init 9 = .ok (.putfield 9, 3) := by decide +kernel
theorem dX2_init_12 : decode cX2_init 12 = .ok (.aload_n 0, 1) := by decide +kernel
theorem dX2_init_13 : decode cX2_init 13 = .ok (.bipush 100, 2) := by decide +kernel
theorem dX2_init_15 : decode cX2_init 15 = .ok (.newarray .long, 2) := by decide +kernel
theorem dX2_init_17 : decode cX2_init 17 = .ok (.putfield 15, 3) := by decide +kernel
theorem dX2_init_20 : decode cX2_init 20 = .ok (.aload_n 0, 1) := by decide +kernel
theorem dX2_init_21 : decode cX2_init 21 = .ok (.lconst 1, 1) := by decide +kernel
theorem dX2_init_22 : decode cX2_init 22 = .ok (.putfield 18, 3) := by decide +kernel
theorem dX2_init_25 : decode cX2_init 25 = .ok (.return_, 1) := by decide +kernel
theorem dX2_clear_0 : decode cX2_clear 0 = .ok (.aload_n 0, 1) := by decide +kernel
theorem dX2_clear_1 : decode cX2_clear 1 = .ok (.getfield 9, 3) := by decide +kernel
theorem dX2_clear_4 : decode cX2_clear 4 = .ok (.lconst 0, 1) := by decide +kernel
theorem dX2_clear_5 : decode cX2_clear 5 = .ok (.invokestatic 22, 3) := by decide +kernel
theorem dX2_clear_8 : decode cX2_clear 8 = .ok (.iconst 0, 1) := by decide +kernel
theorem dX2_clear_9 : decode cX2_clear 9 = .ok (.istore_n 1, 1) := by decide +kernel
theorem dX2_clear_10 : decode cX2_clear 10 = .ok (.iload_n 1, 1) := by decide +kernel
theorem dX2_clear_11 : decode cX2_clear 11 = .ok (.bipush 10, 2) := by decide +kernel
theorem dX2_clear_13 : decode cX2_clear 13 = .ok (.if_icmp .ge 21, 3) := by decide +kernel
theorem dX2_clear_16 : decode cX2_clear 16 = .ok (.aload_n 0, 1) := by decide +kernel
theorem dX2_clear_17 : decode cX2_clear 17 = .ok (.getfield 9, 3) := by decide +kernel
theorem dX2_clear_20 : decode cX2_clear 20 = .ok (.iload_n 1, 1) := by decide +kernel
theorem dX2_clear_21 : decode cX2_clear 21 = .ok (.bipush 10, 2) := by decide +kernel
theorem dX2_clear_23 : decode cX2_clear 23 = .ok (.imul, 1) := by decide +kernel
theorem dX2_clear_24 : decode cX2_clear 24 = .ok (.iload_n 1, 1) := by decide +kernel
theorem dX2_clear_25 : decode cX2_clear 25 = .ok (.iadd, 1) := by decide +kernel
theorem dX2_clear_26 : decode cX2_clear 26 = .ok (.lconst 1, 1) := by decide +kernel
theorem dX2_clear_27 : decode cX2_clear 27 = .ok (.lastore, 1) := by decide +kernel
theorem dX2_clear_28 : decode cX2_clear 28 = .ok (.iinc 1 1, 3) := by decide +kernel
theorem dX2_clear_31 : decode cX2_clear 31 = .ok (.goto (-21), 3) := by decide +kernel
theorem dX2_clear_34 : decode cX2_clear 34 = .ok (.aload_n 0, 1) := by decide +kernel
theorem dX2_clear_35 : decode cX2_clear 35 = .ok (.lconst 1, 1) := by decide +kernel
theorem dX2_clear_36 : decode cX2_clear 36 = .ok (.putfield 18, 3) := by decide +kernel
theorem dX2_clear_39 : decode cX2_clear 39 = .ok (.return_, 1) := by decide +kernel
theorem dX2_copyFrom_0 : decode cX2_copyFrom 0 = .ok (.aload_n 1, 1) := by decide +kernel
theorem dX2_copyFrom_1 : decode cX2_copyFrom 1 = .ok (.getfield 9, 3) := by decide +kernel
theorem dX2_copyFrom_4 : decode cX2_copyFrom 4 = .ok (.iconst 0, 1) := by decide +kernel
theorem dX2_copyFrom_5 : decode cX2_copyFrom 5 = .ok (.aload_n 0, 1) := by decide +kernel
theorem dX2_copyFrom_6 : decode cX2_copyFrom 6 = .ok (.getfield 9, 3) := by decide +kernel
theorem dX2_copyFrom_9 : decode cX2_copyFrom 9 = .ok (.iconst 0, 1) := by decide +kernel
theorem dX2_copyFrom_10 : decode cX2_copyFrom 10 = .ok (.bipush 100, 2) := by decide +kernel
theorem dX2_copyFrom_12 : decode cX2_copyFrom 12 = .ok (.invokestatic 28, 3) := by decide +kernel
theorem dX2_copyFrom_15 : decode cX2_copyFrom 15 = .ok (.aload_n 0, 1) := by decide +kernel
theorem dX2_copyFrom_16 : decode cX2_copyFrom 16 = .ok (.aload_n 1, 1) := by decide +kernel
theorem dX2_copyFrom_17 : decode cX2_copyFrom 17 = .ok (.getfield 18, 3) := by decide +kernel
theorem dX2_copyFrom_20 : decode cX2_copyFrom 20 = .ok (.putfield 18, 3) := by decide +kernel
theorem dX2_copyFrom_23 : decode cX2_copyFrom 23 = .ok (.return_, 1) := by decide +kernel
theorem dX2_pass_0 : decode cX2_pass 0 = .ok (.aload_n 0, 1) := by decide +kernel
theorem dX2_pass_1 : decode cX2_pass 1 = .ok (.getfield 15, 3) := by decide +kernel
theorem dX2_pass_4 : decode cX2_pass 4 = .ok (.lconst 0, 1) := by decide +kernel
theorem dX2_pass_5 : decode cX2_pass 5 = .ok (.invokestatic 22, 3) := by decide +kernel
theorem dX2_pass_8 : decode cX2_pass 8 = .ok (.iconst 0, 1) := by decide +kernel
theorem dX2_pass_9 : decode cX2_pass 9 = .ok (.istore_n 3, 1) := by decide +kernel
theorem dX2_pass_10 : decode cX2_pass 10 = .ok (.iload_n 3, 1) := by decide +kernel
theorem dX2_pass_11 : decode cX2_pass 11 = .ok (.bipush 10, 2) := by decide +kernel
theorem dX2_pass_13 : decode cX2_pass 13 = .ok (.if_icmp .ge 38, 3) := by decide +kernel
theorem dX2_pass_16 : decode cX2_pass 16 = .ok (.iload_n 1, 1) := by decide +kernel
theorem dX2_pass_17 : decode cX2_pass 17 = .ok (.iload_n 3, 1) := by decide +kernel
theorem dX2_pass_18 : decode cX2_pass 18 = .ok (.invokestatic 34, 3) := by decide +kernel
theorem dX2_pass_21 : decode cX2_pass 21 = .ok (.istore 4, 2) := by decide +kernel
theorem dX2_pass_23 : decode cX2_pass 23 = .ok (.aload_n 0, 1) := by decide +kernel
theorem dX2_pass_24 : decode cX2_pass 24 = .ok (.iload_n 3, 1) := by decide +kernel
theorem dX2_pass_25 : decode cX2_pass 25 = .ok (.iload 4, 2) := by decide +kernel
theorem dX2_pass_27 : decode cX2_pass 27 = .ok (.iload_n 2, 1) := by decide +kernel
theorem dX2_pass_28 : decode cX2_pass 28 = .ok (.invokevirtual 38, 3) := by decide +kernel
theorem dX2_pass_31 : decode cX2_pass 31 = .ok (.aload_n 0, 1) := by decide +kernel
theorem dX2_pass_32 : decode cX2_pass 32 = .ok (.iload_n 3, 1) := by decide +kernel
theorem dX2_pass_33 : decode cX2_pass 33 = .ok (.iload 4, 2) := by decide +kernel
theorem dX2_pass_35 : decode cX2_pass 35 = .ok (.invokestatic 42, 3) := by decide +kernel
theorem dX2_pass_38 : decode cX2_pass 38 = .ok (.bipush 10, 2) := by decide +kernel
theorem dX2_pass_40 : decode cX2_pass 40 = .ok (.iload_n 2, 1) := by decide +kernel
theorem dX2_pass_41 : decode cX2_pass 41 = .ok (.isub, 1) := by decide +kernel
theorem dX2_pass_42 : decode cX2_pass 42 = .ok (.invokevirtual 38, 3) := by decide +kernel
theorem dX2_pass_45 : decode cX2_pass 45 = .ok (.iinc 3 1, 3) := by decide +kernel
theorem dX2_pass_48 : decode cX2_pass 48 = .ok (.goto (-38), 3) := by decide +kernel
theorem dX2_pass_51 : decode cX2_pass 51 = .ok (.aload_n 0, 1) := by decide +kernel
theorem dX2_pass_52 : decode cX2_pass 52 = .ok (.getfield 9, 3) := by decide +kernel
theorem dX2_pass_55 : decode cX2_pass 55 = .ok (.astore_n 3, 1) := by decide +kernel
theorem dX2_pass_56 : decode cX2_pass 56 = .ok (.aload_n 0, 1) := by decide +kernel
theorem dX2_pass_57 : decode cX2_pass 57 = .ok (.aload_n 0, 1) := by decide +kernel
theorem dX2_pass_58 : decode cX2_pass 58 = .ok (.getfield 15, 3) := by decide +kernel
theorem dX2_pass_61 : decode cX2_pass 61 = .ok (.putfield 9, 3) := by decide +kernel
theorem dX2_pass_64 : decode cX2_pass 64 = .ok (.aload_n 0, 1) := by decide +kernel
theorem dX2_pass_65 : decode cX2_pass 65 = .ok (.aload_n 3, 1) := by decide +kernel
theorem dX2_pass_66 : decode cX2_pass 66 = .ok (.putfield 15, 3) := by decide +kernel
theorem dX2_pass_69 : decode cX2_pass 69 = .ok (.aload_n 0, 1) := by decide +kernel
theorem dX2_pass_70 : decode cX2_pass 70 = .ok (.dup, 1) := by decide +kernel
theorem dX2_pass_71 : decode cX2_pass 71 = .ok (.getfield 18, 3) := by decide +kernel
theorem dX2_pass_74 : decode cX2_pass 74 = .ok (.ldc2_w 46, 3) := by decide +kernel
theorem dX2_pass_77 : decode cX2_pass 77 = .ok (.lmul, 1) := by decide +kernel
theorem dX2_pass_78 : decode cX2_pass 78 = .ok (.putfield 18, 3) := by decide +kernel
theorem dX2_pass_81 : decode cX2_pass 81 = .ok (.return_, 1) := by decide +kernel
theorem dX2_pour_0 : decode cX2_pour 0 = .ok (.iload_n 3, 1) := by decide +kernel
theorem dX2_pour_1 : decode cX2_pour 1 = .ok (.ifCond .eq 17, 3) := by decide +kernel
theorem dX2_pour_4 : decode cX2_pour 4 = .ok (.iload_n 1, 1) := by decide +kernel
theorem dX2_pour_5 : decode cX2_pour 5 = .ok (.invokestatic 48, 3) := by decide +kernel
theorem dX2_pour_8 : decode cX2_pour 8 = .ok (.ifCond .eq 10, 3) := by decide +kernel
theorem dX2_pour_11 : decode cX2_pour 11 = .ok (.iload_n 2, 1) := by decide +kernel
theorem dX2_pour_12 : decode cX2_pour 12 = .ok (.invokestatic 48, 3) := by decide +kernel
theorem dX2_pour_15 : decode cX2_pour 15 = .ok (.ifCond .ne 4, 3) := by decide +kernel
theorem dX2_pour_18 : decode cX2_pour 18 = .ok (.return_, 1) := by decide +kernel
theorem dX2_pour_19 : decode cX2_pour 19 = .ok (.iconst 0, 1) := by decide +kernel
theorem dX2_pour_20 : decode cX2_pour 20 = .ok (.istore 4, 2) := by decide +kernel
theorem dX2_pour_22 : decode cX2_pour 22 = .ok (.iload 4, 2) := by decide +kernel
theorem dX2_pour_24 : decode cX2_pour 24 = .ok (.bipush 10, 2) := by decide +kernel
theorem dX2_pour_26 : decode cX2_pour 26 = .ok (.if_icmp .ge 39, 3) := by decide +kernel
theorem dX2_pour_29 : decode cX2_pour 29 = .ok (.aload_n 0, 1) := by decide +kernel
theorem dX2_pour_30 : decode cX2_pour 30 = .ok (.getfield 15, 3) := by decide +kernel
theorem dX2_pour_33 : decode cX2_pour 33 = .ok (.iload_n 2, 1) := by decide +kernel
theorem dX2_pour_34 : decode cX2_pour 34 = .ok (.bipush 10, 2) := by decide +kernel
theorem dX2_pour_36 : decode cX2_pour 36 = .ok (.imul, 1) := by decide +kernel
theorem dX2_pour_37 : decode cX2_pour 37 = .ok (.iload 4, 2) := by decide +kernel
theorem dX2_pour_39 : decode cX2_pour 39 = .ok (.iadd, 1) := by decide +kernel
theorem dX2_pour_40 : decode cX2_pour 40 = .ok (.dup2, 1) := by decide +kernel
theorem dX2_pour_41 : decode cX2_pour 41 = .ok (.laload, 1) := by decide +kernel
theorem dX2_pour_42 : decode cX2_pour 42 = .ok (.aload_n 0, 1) := by decide +kernel
theorem dX2_pour_43 : decode cX2_pour 43 = .ok (.getfield 9, 3) := by decide +kernel
theorem dX2_pour_46 : decode cX2_pour 46 = .ok (.iload_n 1, 1) := by decide +kernel
theorem dX2_pour_47 : decode cX2_pour 47 = .ok (.bipush 10, 2) := by decide +kernel
theorem dX2_pour_49 : decode cX2_pour 49 = .ok (.imul, 1) := by decide +kernel
theorem dX2_pour_50 : decode cX2_pour 50 = .ok (.iload 4, 2) := by decide +kernel
theorem dX2_pour_52 : decode cX2_pour 52 = .ok (.iadd, 1) := by decide +kernel
theorem dX2_pour_53 : decode cX2_pour 53 = .ok (.laload, 1) := by decide +kernel
theorem dX2_pour_54 : decode cX2_pour 54 = .ok (.iload_n 3, 1) := by decide +kernel
theorem dX2_pour_55 : decode cX2_pour 55 = .ok (.i2l, 1) := by decide +kernel
theorem dX2_pour_56 : decode cX2_pour 56 = .ok (.lmul, 1) := by decide +kernel
theorem dX2_pour_57 : decode cX2_pour 57 = .ok (.ladd, 1) := by decide +kernel
theorem dX2_pour_58 : decode cX2_pour 58 = .ok (.lastore, 1) := by decide +kernel
theorem dX2_pour_59 : decode cX2_pour 59 = .ok (.iinc 4 1, 3) := by decide +kernel
theorem dX2_pour_62 : decode cX2_pour 62 = .ok (.goto (-40), 3) := by decide +kernel
theorem dX2_pour_65 : decode cX2_pour 65 = .ok (.return_, 1) := by decide +kernel
theorem dX2_above_0 : decode cX2_above 0 = .ok (.iload_n 1, 1) := by decide +kernel
theorem dX2_above_1 : decode cX2_above 1 = .ok (.invokestatic 48, 3) := by decide +kernel
theorem dX2_above_4 : decode cX2_above 4 = .ok (.ifCond .eq 24, 3) := by decide +kernel
theorem dX2_above_7 : decode cX2_above 7 = .ok (.iload_n 2, 1) := by decide +kernel
theorem dX2_above_8 : decode cX2_above 8 = .ok (.invokestatic 48, 3) := by decide +kernel
theorem dX2_above_11 : decode cX2_above 11 = .ok (.ifCond .eq 17, 3) := by decide +kernel
theorem dX2_above_14 : decode cX2_above 14 = .ok (.aload_n 0, 1) := by decide +kernel
