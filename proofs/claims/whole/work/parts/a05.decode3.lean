theorem dX4_weigh_32 : decode cX4_weigh 32 = .ok (.getstatic 95, 3) := by decide +kernel
theorem dX4_weigh_35 : decode cX4_weigh 35 = .ok (.iload_n 2, 1) := by decide +kernel
theorem dX4_weigh_36 : decode cX4_weigh 36 = .ok (.iconst 1, 1) := by decide +kernel
theorem dX4_weigh_37 : decode cX4_weigh 37 = .ok (.iadd, 1) := by decide +kernel
theorem dX4_weigh_38 : decode cX4_weigh 38 = .ok (.laload, 1) := by decide +kernel
theorem dX4_weigh_39 : decode cX4_weigh 39 = .ok (.lmul, 1) := by decide +kernel
theorem dX4_weigh_40 : decode cX4_weigh 40 = .ok (.lstore 4, 2) := by decide +kernel
theorem dX4_weigh_42 : decode cX4_weigh 42 = .ok (.aload_n 0, 1) := by decide +kernel
theorem dX4_weigh_43 : decode cX4_weigh 43 = .ok (.lload 4, 2) := by decide +kernel
theorem dX4_weigh_45 : decode cX4_weigh 45 = .ok (.iload_n 2, 1) := by decide +kernel
theorem dX4_weigh_46 : decode cX4_weigh 46 = .ok (.iconst 1, 1) := by decide +kernel
theorem dX4_weigh_47 : decode cX4_weigh 47 = .ok (.iadd, 1) := by decide +kernel
theorem dX4_weigh_48 : decode cX4_weigh 48 = .ok (.invokevirtual 99, 3) := by decide +kernel
theorem dX4_weigh_51 : decode cX4_weigh 51 = .ok (.ifCond .eq 43, 3) := by decide +kernel
theorem dX4_weigh_54 : decode cX4_weigh 54 = .ok (.aload_n 0, 1) := by decide +kernel
theorem dX4_weigh_55 : decode cX4_weigh 55 = .ok (.lload 4, 2) := by decide +kernel
theorem dX4_weigh_57 : decode cX4_weigh 57 = .ok (.putfield 33, 3) := by decide +kernel
theorem dX4_weigh_60 : decode cX4_weigh 60 = .ok (.aload_n 0, 1) := by decide +kernel
theorem dX4_weigh_61 : decode cX4_weigh 61 = .ok (.getfield 24, 3) := by decide +kernel
theorem dX4_weigh_64 : decode cX4_weigh 64 = .ok (.aload_n 0, 1) := by decide +kernel
theorem dX4_weigh_65 : decode cX4_weigh 65 = .ok (.getfield 27, 3) := by decide +kernel
theorem dX4_weigh_68 : decode cX4_weigh 68 = .ok (.iload_n 2, 1) := by decide +kernel
theorem dX4_weigh_69 : decode cX4_weigh 69 = .ok (.iconst 1, 1) := by decide +kernel
theorem dX4_weigh_70 : decode cX4_weigh 70 = .ok (.iadd, 1) := by decide +kernel
theorem dX4_weigh_71 : decode cX4_weigh 71 = .ok (.iastore, 1) := by decide +kernel
theorem dX4_weigh_72 : decode cX4_weigh 72 = .ok (.aload_n 0, 1) := by decide +kernel
theorem dX4_weigh_73 : decode cX4_weigh 73 = .ok (.getfield 17, 3) := by decide +kernel
theorem dX4_weigh_76 : decode cX4_weigh 76 = .ok (.iconst 0, 1) := by decide +kernel
theorem dX4_weigh_77 : decode cX4_weigh 77 = .ok (.aload_n 0, 1) := by decide +kernel
theorem dX4_weigh_78 : decode cX4_weigh 78 = .ok (.getfield 21, 3) := by decide +kernel
theorem dX4_weigh_81 : decode cX4_weigh 81 = .ok (.aload_n 0, 1) := by decide +kernel
theorem dX4_weigh_82 : decode cX4_weigh 82 = .ok (.getfield 27, 3) := by decide +kernel
theorem dX4_weigh_85 : decode cX4_weigh 85 = .ok (.bipush 7, 2) := by decide +kernel
theorem dX4_weigh_87 : decode cX4_weigh 87 = .ok (.imul, 1) := by decide +kernel
theorem dX4_weigh_88 : decode cX4_weigh 88 = .ok (.iload_n 2, 1) := by decide +kernel
theorem dX4_weigh_89 : decode cX4_weigh 89 = .ok (.iconst 1, 1) := by decide +kernel
theorem dX4_weigh_90 : decode cX4_weigh 90 = .ok (.iadd, 1) := by decide +kernel
theorem dX4_weigh_91 : decode cX4_weigh 91 = .ok (.invokestatic 103, 3) := by decide +kernel
theorem dX4_weigh_94 : decode cX4_weigh 94 = .ok (.return_, 1) := by decide +kernel
theorem dX4_descend_0 : decode cX4_descend 0 = .ok (.iload_n 2, 1) := by decide +kernel
theorem dX4_descend_1 : decode cX4_descend 1 = .ok (.iconst 1, 1) := by decide +kernel
theorem dX4_descend_2 : decode cX4_descend 2 = .ok (.iadd, 1) := by decide +kernel
theorem dX4_descend_3 : decode cX4_descend 3 = .ok (.aload_n 0, 1) := by decide +kernel
theorem dX4_descend_4 : decode cX4_descend 4 = .ok (.getfield 27, 3) := by decide +kernel
theorem dX4_descend_7 : decode cX4_descend 7 = .ok (.if_icmp .ge 13, 3) := by decide +kernel
theorem dX4_descend_10 : decode cX4_descend 10 = .ok (.iload_n 2, 1) := by decide +kernel
theorem dX4_descend_11 : decode cX4_descend 11 = .ok (.iconst 1, 1) := by decide +kernel
theorem dX4_descend_12 : decode cX4_descend 12 = .ok (.iadd, 1) := by decide +kernel
theorem dX4_descend_13 : decode cX4_descend 13 = .ok (.aload_n 1, 1) := by decide +kernel
theorem dX4_descend_14 : decode cX4_descend 14 = .ok (.invokevirtual 67, 3) := by decide +kernel
theorem dX4_descend_17 : decode cX4_descend 17 = .ok (.if_icmp .lt 5, 3) := by decide +kernel
theorem dX4_descend_20 : decode cX4_descend 20 = .ok (.iconst 0, 1) := by decide +kernel
theorem dX4_descend_21 : decode cX4_descend 21 = .ok (.ireturn, 1) := by decide +kernel
theorem dX4_descend_22 : decode cX4_descend 22 = .ok (.aload_n 0, 1) := by decide +kernel
theorem dX4_descend_23 : decode cX4_descend 23 = .ok (.getfield 17, 3) := by decide +kernel
theorem dX4_descend_26 : decode cX4_descend 26 = .ok (.iload_n 2, 1) := by decide +kernel
theorem dX4_descend_27 : decode cX4_descend 27 = .ok (.iaload, 1) := by decide +kernel
theorem dX4_descend_28 : decode cX4_descend 28 = .ok (.istore_n 3, 1) := by decide +kernel
theorem dX4_descend_29 : decode cX4_descend 29 = .ok (.aload_n 0, 1) := by decide +kernel
theorem dX4_descend_30 : decode cX4_descend 30 = .ok (.getfield 11, 3) := by decide +kernel
theorem dX4_descend_33 : decode cX4_descend 33 = .ok (.iload_n 2, 1) := by decide +kernel
theorem dX4_descend_34 : decode cX4_descend 34 = .ok (.iconst 1, 1) := by decide +kernel
theorem dX4_descend_35 : decode cX4_descend 35 = .ok (.iadd, 1) := by decide +kernel
theorem dX4_descend_36 : decode cX4_descend 36 = .ok (.aaload, 1) := by decide +kernel
theorem dX4_descend_37 : decode cX4_descend 37 = .ok (.astore 4, 2) := by decide +kernel
theorem dX4_descend_39 : decode cX4_descend 39 = .ok (.aload 4, 2) := by decide +kernel
theorem dX4_descend_41 : decode cX4_descend 41 = .ok (.aload_n 0, 1) := by decide +kernel
theorem dX4_descend_42 : decode cX4_descend 42 = .ok (.getfield 11, 3) := by decide +kernel
theorem dX4_descend_45 : decode cX4_descend 45 = .ok (.iload_n 2, 1) := by decide +kernel
theorem dX4_descend_46 : decode cX4_descend 46 = .ok (.aaload, 1) := by decide +kernel
theorem dX4_descend_47 : decode cX4_descend 47 = .ok (.invokevirtual 109, 3) := by decide +kernel
theorem dX4_descend_50 : decode cX4_descend 50 = .ok (.aload 4, 2) := by decide +kernel
theorem dX4_descend_52 : decode cX4_descend 52 = .ok (.aload_n 1, 1) := by decide +kernel
theorem dX4_descend_53 : decode cX4_descend 53 = .ok (.iload_n 3, 1) := by decide +kernel
theorem dX4_descend_54 : decode cX4_descend 54 = .ok (.iconst 2, 1) := by decide +kernel
theorem dX4_descend_55 : decode cX4_descend 55 = .ok (.invokevirtual 88, 3) := by decide +kernel
theorem dX4_descend_58 : decode cX4_descend 58 = .ok (.aload_n 1, 1) := by decide +kernel
theorem dX4_descend_59 : decode cX4_descend 59 = .ok (.iload_n 3, 1) := by decide +kernel
theorem dX4_descend_60 : decode cX4_descend 60 = .ok (.iconst 3, 1) := by decide +kernel
theorem dX4_descend_61 : decode cX4_descend 61 = .ok (.invokevirtual 88, 3) := by decide +kernel
theorem dX4_descend_64 : decode cX4_descend 64 = .ok (.invokevirtual 113, 3) := by decide +kernel
theorem dX4_descend_67 : decode cX4_descend 67 = .ok (.aload_n 0, 1) := by decide +kernel
theorem dX4_descend_68 : decode cX4_descend 68 = .ok (.aload 4, 2) := by decide +kernel
theorem dX4_descend_70 : decode cX4_descend 70 = .ok (.invokevirtual 117, 3) := by decide +kernel
theorem dX4_descend_73 : decode cX4_descend 73 = .ok (.getstatic 95, 3) := by decide +kernel
theorem dX4_descend_76 : decode cX4_descend 76 = .ok (.iload_n 2, 1) := by decide +kernel
theorem dX4_descend_77 : decode cX4_descend 77 = .ok (.iconst 1, 1) := by decide +kernel
theorem dX4_descend_78 : decode cX4_descend 78 = .ok (.iadd, 1) := by decide +kernel
theorem dX4_descend_79 : decode cX4_descend 79 = .ok (.laload, 1) := by decide +kernel
theorem dX4_descend_80 : decode cX4_descend 80 = .ok (.lmul, 1) := by decide +kernel
theorem dX4_descend_81 : decode cX4_descend 81 = .ok (.iload_n 2, 1) := by decide +kernel
theorem dX4_descend_82 : decode cX4_descend 82 = .ok (.iconst 2, 1) := by decide +kernel
theorem dX4_descend_83 : decode cX4_descend 83 = .ok (.iadd, 1) := by decide +kernel
theorem dX4_descend_84 : decode cX4_descend 84 = .ok (.invokevirtual 99, 3) := by decide +kernel
theorem dX4_descend_87 : decode cX4_descend 87 = .ok (.ireturn, 1) := by decide +kernel
theorem dX4_isBetter_0 : decode cX4_isBetter 0 = .ok (.lload_n 1, 1) := by decide +kernel
theorem dX4_isBetter_1 : decode cX4_isBetter 1 = .ok (.aload_n 0, 1) := by decide +kernel
theorem dX4_isBetter_2 : decode cX4_isBetter 2 = .ok (.getfield 33, 3) := by decide +kernel
theorem dX4_isBetter_5 : decode cX4_isBetter 5 = .ok (.lcmp, 1) := by decide +kernel
theorem dX4_isBetter_6 : decode cX4_isBetter 6 = .ok (.ifCond .gt 25, 3) := by decide +kernel
theorem dX4_isBetter_9 : decode cX4_isBetter 9 = .ok (.lload_n 1, 1) := by decide +kernel
theorem dX4_isBetter_10 : decode cX4_isBetter 10 = .ok (.aload_n 0, 1) := by decide +kernel
theorem dX4_isBetter_11 : decode cX4_isBetter 11 = .ok (.getfield 33, 3) := by decide +kernel
theorem dX4_isBetter_14 : decode cX4_isBetter 14 = .ok (.lcmp, 1) := by decide +kernel
theorem dX4_isBetter_15 : decode cX4_isBetter 15 = .ok (.ifCond .ne 20, 3) := by decide +kernel
theorem dX4_isBetter_18 : decode cX4_isBetter 18 = .ok (.iload_n 3, 1) := by decide +kernel
theorem dX4_isBetter_19 : decode cX4_isBetter 19 = .ok (.aload_n 0, 1) := by decide +kernel
theorem dX4_isBetter_20 : decode cX4_isBetter 20 = .ok (.getfield 24, 3) := by decide +kernel
theorem dX4_isBetter_23 : decode cX4_isBetter 23 = .ok (.aload_n 0, 1) := by decide +kernel
theorem dX4_isBetter_24 : decode cX4_isBetter 24 = .ok (.getfield 27, 3) := by decide +kernel
theorem dX4_isBetter_27 : decode cX4_isBetter 27 = .ok (.iaload, 1) := by decide +kernel
theorem dX4_isBetter_28 : decode cX4_isBetter 28 = .ok (.if_icmp .ge 7, 3) := by decide +kernel
theorem dX4_isBetter_31 : decode cX4_isBetter 31 = .ok (.iconst 1, 1) := by decide +kernel
theorem dX4_isBetter_32 : decode cX4_isBetter 32 = .ok (.goto 4, 3) := by decide +kernel
theorem dX4_isBetter_35 : decode cX4_isBetter 35 = .ok (.iconst 0, 1) := by decide +kernel
theorem dX4_isBetter_36 : decode cX4_isBetter 36 = .ok (.ireturn, 1) := by decide +kernel
theorem dX5_init_0 : decode cX5_init 0 = .ok (.aload_n 0, 1) := by decide +kernel
theorem dX5_init_1 : decode cX5_init 1 = .ok (.invokespecial 3, 3) := by decide +kernel
theorem dX5_init_4 : decode cX5_init 4 = .ok (.aload_n 0, 1) := by decide +kernel
theorem dX5_init_5 : decode cX5_init 5 = .ok (.bipush 8, 2) := by decide +kernel
theorem dX5_init_7 : decode cX5_init 7 = .ok (.newarray .int, 2) := by decide +kernel
theorem dX5_init_9 : decode cX5_init 9 = .ok (.putfield 9, 3) := by decide +kernel
theorem dX5_init_12 : decode cX5_init 12 = .ok (.aload_n 0, 1) := by decide +kernel
theorem dX5_init_13 : decode cX5_init 13 = .ok (.iconst 0, 1) := by decide +kernel
theorem dX5_init_14 : decode cX5_init 14 = .ok (.putfield 15, 3) := by decide +kernel
theorem dX5_init_17 : decode cX5_init 17 = .ok (.return_, 1) := by decide +kernel
theorem dX5_held_0 : decode cX5_held 0 = .ok (.aload_n 0, 1) := by decide +kernel
theorem dX5_held_1 : decode cX5_held 1 = .ok (.getfield 15, 3) := by decide +kernel
theorem dX5_held_4 : decode cX5_held 4 = .ok (.ireturn, 1) := by decide +kernel
theorem dX5_forget_0 : decode cX5_forget 0 = .ok (.aload_n 0, 1) := by decide +kernel
theorem dX5_forget_1 : decode cX5_forget 1 = .ok (.iconst 0, 1) := by decide +kernel
theorem dX5_forget_2 : decode cX5_forget 2 = .ok (.putfield 15, 3) := by decide +kernel
theorem dX5_forget_5 : decode cX5_forget 5 = .ok (.return_, 1) := by decide +kernel
theorem dX5_note_0 : decode cX5_note 0 = .ok (.aload_n 0, 1) := by decide +kernel
theorem dX5_note_1 : decode cX5_note 1 = .ok (.getfield 15, 3) := by decide +kernel
theorem dX5_note_4 : decode cX5_note 4 = .ok (.bipush 8, 2) := by decide +kernel
theorem dX5_note_6 : decode cX5_note 6 = .ok (.if_icmp .lt 24, 3) := by decide +kernel
theorem dX5_note_9 : decode cX5_note 9 = .ok (.aload_n 0, 1) := by decide +kernel
theorem dX5_note_10 : decode cX5_note 10 = .ok (.getfield 9, 3) := by decide +kernel
theorem dX5_note_13 : decode cX5_note 13 = .ok (.iconst 1, 1) := by decide +kernel
theorem dX5_note_14 : decode cX5_note 14 = .ok (.aload_n 0, 1) := by decide +kernel
theorem dX5_note_15 : decode cX5_note 15 = .ok (.getfield 9, 3) := by decide +kernel
theorem dX5_note_18 : decode cX5_note 18 = .ok (.iconst 0, 1) := by decide +kernel
theorem dX5_note_19 : decode cX5_note 19 = .ok (.bipush 7, 2) := by decide +kernel
theorem dX5_note_21 : decode cX5_note 21 = .ok (.invokestatic 19, 3) := by decide +kernel
theorem dX5_note_24 : decode cX5_note 24 = .ok (.aload_n 0, 1) := by decide +kernel
theorem dX5_note_25 : decode cX5_note 25 = .ok (.bipush 7, 2) := by decide +kernel
theorem dX5_note_27 : decode cX5_note 27 = .ok (.putfield 15, 3) := by decide +kernel
theorem dX5_note_30 : decode cX5_note 30 = .ok (.aload_n 0, 1) := by decide +kernel
theorem dX5_note_31 : decode cX5_note 31 = .ok (.getfield 9, 3) := by decide +kernel
theorem dX5_note_34 : decode cX5_note 34 = .ok (.aload_n 0, 1) := by decide +kernel
theorem dX5_note_35 : decode cX5_note 35 = .ok (.getfield 15, 3) := by decide +kernel
theorem dX5_note_38 : decode cX5_note 38 = .ok (.iload_n 1, 1) := by decide +kernel
theorem dX5_note_39 : decode cX5_note 39 = .ok (.iastore, 1) := by decide +kernel
theorem dX5_note_40 : decode cX5_note 40 = .ok (.aload_n 0, 1) := by decide +kernel
theorem dX5_note_41 : decode cX5_note 41 = .ok (.dup, 1) := by decide +kernel
theorem dX5_note_42 : decode cX5_note 42 = .ok (.getfield 15, 3) := by decide +kernel
theorem dX5_note_45 : decode cX5_note 45 = .ok (.iconst 1, 1) := by decide +kernel
theorem dX5_note_46 : decode cX5_note 46 = .ok (.iadd, 1) := by decide +kernel
theorem dX5_note_47 : decode cX5_note 47 = .ok (.putfield 15, 3) := by decide +kernel
theorem dX5_note_50 : decode cX5_note 50 = .ok (.return_, 1) := by decide +kernel
theorem dX5_takeLatest_0 : decode cX5_takeLatest 0 = .ok (.aload_n 0, 1) := by decide +kernel
theorem dX5_takeLatest_1 : decode cX5_takeLatest 1 = .ok (.getfield 15, 3) := by decide +kernel
theorem dX5_takeLatest_4 : decode cX5_takeLatest 4 = .ok (.ifCond .gt 5, 3) := by decide +kernel
theorem dX5_takeLatest_7 : decode cX5_takeLatest 7 = .ok (.iconst (-1), 1) := by decide +kernel
theorem dX5_takeLatest_8 : decode cX5_takeLatest 8 = .ok (.ireturn, 1) := by decide +kernel
theorem dX5_takeLatest_9 : decode cX5_takeLatest 9 = .ok (.aload_n 0, 1) := by decide +kernel
theorem dX5_takeLatest_10 : decode cX5_takeLatest 10 = .ok (.dup, 1) := by decide +kernel
theorem dX5_takeLatest_11 : decode cX5_takeLatest 11 = .ok (.getfield 15, 3) := by decide +kernel
theorem dX5_takeLatest_14 : decode cX5_takeLatest 14 = .ok (.iconst 1, 1) := by decide +kernel
theorem dX5_takeLatest_15 : decode cX5_takeLatest 15 = .ok (.isub, 1) := by decide +kernel
theorem dX5_takeLatest_16 : decode cX5_takeLatest 16 = .ok (.putfield 15, 3) := by decide +kernel
theorem dX5_takeLatest_19 : decode cX5_takeLatest 19 = .ok (.aload_n 0, 1) := by decide +kernel
theorem dX5_takeLatest_20 : decode cX5_takeLatest 20 = .ok (.getfield 9, 3) := by decide +kernel
theorem dX5_takeLatest_23 : decode cX5_takeLatest 23 = .ok (.aload_n 0, 1) := by decide +kernel
theorem dX5_takeLatest_24 : decode cX5_takeLatest 24 = .ok (.getfield 15, 3) := by decide +kernel
theorem dX5_takeLatest_27 : decode cX5_takeLatest 27 = .ok (.iaload, 1) := by decide +kernel
theorem dX5_takeLatest_28 : decode cX5_takeLatest 28 = .ok (.ireturn, 1) := by decide +kernel
theorem dX6_init_0 : decode cX6_init 0 = .ok (.aload_n 0, 1) := by decide +kernel
theorem dX6_init_1 : decode cX6_init 1 = .ok (.invokespecial 1, 3) := by decide +kernel
theorem dX6_init_4 : decode cX6_init 4 = .ok (.aload_n 0, 1) := by decide +kernel
theorem dX6_init_5 : decode cX6_init 5 = .ok (.new 7, 3) := by decide +kernel
theorem dX6_init_8 : decode cX6_init 8 = .ok (.dup, 1) := by decide +kernel
theorem dX6_init_9 : decode cX6_init 9 = .ok (.invokespecial 9, 3) := by decide +kernel
theorem dX6_init_12 : decode cX6_init 12 = .ok (.putfield 10, 3) := by decide +kernel
theorem dX6_init_15 : decode cX6_init 15 = .ok (.aload_n 0, 1) := by decide +kernel
theorem dX6_init_16 : decode cX6_init 16 = .ok (.new 16, 3) := by decide +kernel
theorem dX6_init_19 : decode cX6_init 19 = .ok (.dup, 1) := by decide +kernel
theorem dX6_init_20 : decode cX6_init 20 = .ok (.invokespecial 18, 3) := by decide +kernel
theorem dX6_init_23 : decode cX6_init 23 = .ok (.putfield 19, 3) := by decide +kernel
theorem dX6_init_26 : decode cX6_init 26 = .ok (.aload_n 0, 1) := by decide +kernel
theorem dX6_init_27 : decode cX6_init 27 = .ok (.new 23, 3) := by decide +kernel
theorem dX6_init_30 : decode cX6_init 30 = .ok (.dup, 1) := by decide +kernel
theorem dX6_init_31 : decode cX6_init 31 = .ok (.invokespecial 25, 3) := by decide +kernel
theorem dX6_init_34 : decode cX6_init 34 = .ok (.putfield 26, 3) := by decide +kernel
theorem dX6_init_37 : decode cX6_init 37 = .ok (.aload_n 0, 1) := by decide +kernel
theorem dX6_init_38 : decode cX6_init 38 = .ok (.new 16, 3) := by decide +kernel
theorem dX6_init_41 : decode cX6_init 41 = .ok (.dup, 1) := by decide +kernel
theorem dX6_init_42 : decode cX6_init 42 = .ok (.invokespecial 18, 3) := by decide +kernel
theorem dX6_init_45 : decode cX6_init 45 = .ok (.putfield 30, 3) := by decide +kernel
theorem dX6_init_48 : decode cX6_init 48 = .ok (.aload_n 0, 1) := by decide +kernel
theorem dX6_init_49 : decode cX6_init 49 = .ok (.new 16, 3) := by decide +kernel
theorem dX6_init_52 : decode cX6_init 52 = .ok (.dup, 1) := by decide +kernel
theorem dX6_init_53 : decode cX6_init 53 = .ok (.invokespecial 18, 3) := by decide +kernel
theorem dX6_init_56 : decode cX6_init 56 = .ok (.putfield 33, 3) := by decide +kernel
theorem dX6_init_59 : decode cX6_init 59 = .ok (.aload_n 0, 1) := by decide +kernel
theorem dX6_init_60 : decode cX6_init 60 = .ok (.new 36, 3) := by decide +kernel
theorem dX6_init_63 : decode cX6_init 63 = .ok (.dup, 1) := by decide +kernel
theorem dX6_init_64 : decode cX6_init 64 = .ok (.invokespecial 38, 3) := by decide +kernel
theorem dX6_init_67 : decode cX6_init 67 = .ok (.putfield 39, 3) := by decide +kernel
theorem dX6_init_70 : decode cX6_init 70 = .ok (.aload_n 0, 1) := by decide +kernel
theorem dX6_init_71 : decode cX6_init 71 = .ok (.new 43, 3) := by decide +kernel
theorem dX6_init_74 : decode cX6_init 74 = .ok (.dup, 1) := by decide +kernel
theorem dX6_init_75 : decode cX6_init 75 = .ok (.invokespecial 45, 3) := by decide +kernel
theorem dX6_init_78 : decode cX6_init 78 = .ok (.putfield 46, 3) := by decide +kernel
theorem dX6_init_81 : decode cX6_init 81 = .ok (.aload_n 0, 1) := by decide +kernel
theorem dX6_init_82 : decode cX6_init 82 = .ok (.new 50, 3) := by decide +kernel
theorem dX6_init_85 : decode cX6_init 85 = .ok (.dup, 1) := by decide +kernel
theorem dX6_init_86 : decode cX6_init 86 = .ok (.invokespecial 52, 3) := by decide +kernel
theorem dX6_init_89 : decode cX6_init 89 = .ok (.putfield 53, 3) := by decide +kernel
theorem dX6_init_92 : decode cX6_init 92 = .ok (.aload_n 0, 1) := by decide +kernel
theorem dX6_init_93 : decode cX6_init 93 = .ok (.new 50, 3) := by decide +kernel
theorem dX6_init_96 : decode cX6_init 96 = .ok (.dup, 1) := by decide +kernel
theorem dX6_init_97 : decode cX6_init 97 = .ok (.invokespecial 52, 3) := by decide +kernel
theorem dX6_init_100 : decode cX6_init 100 = .ok (.putfield 57, 3) := by decide +kernel
theorem dX6_init_103 : decode cX6_init 103 = .ok (.aload_n 0, 1) := by decide +kernel
theorem dX6_init_104 : decode cX6_init 104 = .ok (.iconst 0, 1) := by decide +kernel
theorem dX6_init_105 : decode cX6_init 105 = .ok (.putfield 60, 3) := by decide +kernel
theorem dX6_init_108 : decode cX6_init 108 = .ok (.aload_n 0, 1) := by decide +kernel
theorem dX6_init_109 : decode cX6_init 109 = .ok (.getfield 53, 3) := by decide +kernel
theorem dX6_init_112 : decode cX6_init 112 = .ok (.iconst 0, 1) := by decide +kernel
theorem dX6_init_113 : decode cX6_init 113 = .ok (.iconst 1, 1) := by decide +kernel
theorem dX6_init_114 : decode cX6_init 114 = .ok (.iconst 0, 1) := by decide +kernel
theorem dX6_init_115 : decode cX6_init 115 = .ok (.bipush 10, 2) := by decide +kernel
theorem dX6_init_117 : decode cX6_init 117 = .ok (.iconst 5, 1) := by decide +kernel
theorem dX6_init_118 : decode cX6_init 118 = .ok (.invokevirtual 64, 3) := by decide +kernel
theorem dX6_init_121 : decode cX6_init 121 = .ok (.pop, 1) := by decide +kernel
theorem dX6_init_122 : decode cX6_init 122 = .ok (.return_, 1) := by decide +kernel
theorem dX6_write_0 : decode cX6_write 0 = .ok (.iload_n 1, 1) := by decide +kernel
theorem dX6_write_1 : decode cX6_write 1 = .ok (.iconst 1, 1) := by decide +kernel
theorem dX6_write_2 : decode cX6_write 2 = .ok (.if_icmp .lt 9, 3) := by decide +kernel
theorem dX6_write_5 : decode cX6_write 5 = .ok (.iload_n 1, 1) := by decide +kernel
theorem dX6_write_6 : decode cX6_write 6 = .ok (.bipush 8, 2) := by decide +kernel
theorem dX6_write_8 : decode cX6_write 8 = .ok (.if_icmp .le 5, 3) := by decide +kernel
theorem dX6_write_11 : decode cX6_write 11 = .ok (.iconst (-1), 1) := by decide +kernel
theorem dX6_write_12 : decode cX6_write 12 = .ok (.ireturn, 1) := by decide +kernel
theorem dX6_write_13 : decode cX6_write 13 = .ok (.aload_n 0, 1) := by decide +kernel
theorem dX6_write_14 : decode cX6_write 14 = .ok (.getfield 10, 3) := by decide +kernel
theorem dX6_write_17 : decode cX6_write 17 = .ok (.invokevirtual 68, 3) := by decide +kernel
theorem dX6_write_20 : decode cX6_write 20 = .ok (.iload_n 1, 1) := by decide +kernel
theorem dX6_write_21 : decode cX6_write 21 = .ok (.iadd, 1) := by decide +kernel
theorem dX6_write_22 : decode cX6_write 22 = .ok (.sipush 200, 3) := by decide +kernel
theorem dX6_write_25 : decode cX6_write 25 = .ok (.if_icmp .le 6, 3) := by decide +kernel
theorem dX6_write_28 : decode cX6_write 28 = .ok (.bipush (-3), 2) := by decide +kernel
theorem dX6_write_30 : decode cX6_write 30 = .ok (.ireturn, 1) := by decide +kernel
theorem dX6_write_31 : decode cX6_write 31 = .ok (.iload_n 1, 1) := by decide +kernel
theorem dX6_write_32 : decode cX6_write 32 = .ok (.iconst 1, 1) := by decide +kernel
theorem dX6_write_33 : decode cX6_write 33 = .ok (.isub, 1) := by decide +kernel
theorem dX6_write_34 : decode cX6_write 34 = .ok (.istore 4, 2) := by decide +kernel
theorem dX6_write_36 : decode cX6_write 36 = .ok (.iload 4, 2) := by decide +kernel
theorem dX6_write_38 : decode cX6_write 38 = .ok (.ifCond .lt 28, 3) := by decide +kernel
theorem dX6_write_41 : decode cX6_write 41 = .ok (.aload_n 0, 1) := by decide +kernel
theorem dX6_write_42 : decode cX6_write 42 = .ok (.getfield 10, 3) := by decide +kernel
theorem dX6_write_45 : decode cX6_write 45 = .ok (.lload_n 2, 1) := by decide +kernel
theorem dX6_write_46 : decode cX6_write 46 = .ok (.bipush 8, 2) := by decide +kernel
theorem dX6_write_48 : decode cX6_write 48 = .ok (.iload 4, 2) := by decide +kernel
theorem dX6_write_50 : decode cX6_write 50 = .ok (.imul, 1) := by decide +kernel
theorem dX6_write_51 : decode cX6_write 51 = .ok (.lushr, 1) := by decide +kernel
theorem dX6_write_52 : decode cX6_write 52 = .ok (.l2i, 1) := by decide +kernel
theorem dX6_write_53 : decode cX6_write 53 = .ok (.sipush 255, 3) := by decide +kernel
theorem dX6_write_56 : decode cX6_write 56 = .ok (.iand, 1) := by decide +kernel
theorem dX6_write_57 : decode cX6_write 57 = .ok (.invokevirtual 72, 3) := by decide +kernel
theorem dX6_write_60 : decode cX6_write 60 = .ok (.iinc 4 (-1), 3) := by decide +kernel
theorem dX6_write_63 : decode cX6_write 63 = .ok (.goto (-27), 3) := by decide +kernel
theorem dX6_write_66 : decode cX6_write 66 = .ok (.aload_n 0, 1) := by decide +kernel
theorem dX6_write_67 : decode cX6_write 67 = .ok (.getfield 10, 3) := by decide +kernel
theorem dX6_write_70 : decode cX6_write 70 = .ok (.invokevirtual 68, 3) := by decide +kernel
theorem dX6_write_73 : decode cX6_write 73 = .ok (.ireturn, 1) := by decide +kernel
theorem dX6_wipe_0 : decode cX6_wipe 0 = .ok (.aload_n 0, 1) := by decide +kernel
theorem dX6_wipe_1 : decode cX6_wipe 1 = .ok (.getfield 10, 3) := by decide +kernel
theorem dX6_wipe_4 : decode cX6_wipe 4 = .ok (.invokevirtual 68, 3) := by decide +kernel
theorem dX6_wipe_7 : decode cX6_wipe 7 = .ok (.istore_n 1, 1) := by decide +kernel
theorem dX6_wipe_8 : decode cX6_wipe 8 = .ok (.aload_n 0, 1) := by decide +kernel
theorem dX6_wipe_9 : decode cX6_wipe 9 = .ok (.getfield 10, 3) := by decide +kernel
theorem dX6_wipe_12 : decode cX6_wipe 12 = .ok (.invokevirtual 76, 3) := by decide +kernel
theorem dX6_wipe_15 : decode cX6_wipe 15 = .ok (.iload_n 1, 1) := by decide +kernel
theorem dX6_wipe_16 : decode cX6_wipe 16 = .ok (.ireturn, 1) := by decide +kernel
theorem dX6_fault_0 : decode cX6_fault 0 = .ok (.aload_n 0, 1) := by decide +kernel
theorem dX6_fault_1 : decode cX6_fault 1 = .ok (.getfield 10, 3) := by decide +kernel
theorem dX6_fault_4 : decode cX6_fault 4 = .ok (.aload_n 0, 1) := by decide +kernel
theorem dX6_fault_5 : decode cX6_fault 5 = .ok (.getfield 57, 3) := by decide +kernel
theorem dX6_fault_8 : decode cX6_fault 8 = .ok (.invokevirtual 79, 3) := by decide +kernel
theorem dX6_fault_11 : decode cX6_fault 11 = .ok (.ireturn, 1) := by decide +kernel
theorem dX6_lay_0 : decode cX6_lay 0 = .ok (.aload_n 0, 1) := by decide +kernel
theorem dX6_lay_1 : decode cX6_lay 1 = .ok (.getfield 10, 3) := by decide +kernel
theorem dX6_lay_4 : decode cX6_lay 4 = .ok (.aload_n 0, 1) := by decide +kernel
theorem dX6_lay_5 : decode cX6_lay 5 = .ok (.getfield 57, 3) := by decide +kernel
theorem dX6_lay_8 : decode cX6_lay 8 = .ok (.invokevirtual 79, 3) := by decide +kernel
theorem dX6_lay_11 : decode cX6_lay 11 = .ok (.bipush (-4), 2) := by decide +kernel
theorem dX6_lay_13 : decode cX6_lay 13 = .ok (.if_icmp .ne 13, 3) := by decide +kernel
theorem dX6_lay_16 : decode cX6_lay 16 = .ok (.aload_n 0, 1) := by decide +kernel
theorem dX6_lay_17 : decode cX6_lay 17 = .ok (.getfield 57, 3) := by decide +kernel
theorem dX6_lay_20 : decode cX6_lay 20 = .ok (.invokevirtual 83, 3) := by decide +kernel
theorem dX6_lay_23 : decode cX6_lay 23 = .ok (.ifCond .ne 6, 3) := by decide +kernel
theorem dX6_lay_26 : decode cX6_lay 26 = .ok (.bipush (-2), 2) := by decide +kernel
theorem dX6_lay_28 : decode cX6_lay 28 = .ok (.ireturn, 1) := by decide +kernel
theorem dX6_lay_29 : decode cX6_lay 29 = .ok (.aload_n 0, 1) := by decide +kernel
theorem dX6_lay_30 : decode cX6_lay 30 = .ok (.getfield 53, 3) := by decide +kernel
theorem dX6_lay_33 : decode cX6_lay 33 = .ok (.astore_n 1, 1) := by decide +kernel
theorem dX6_lay_34 : decode cX6_lay 34 = .ok (.aload_n 0, 1) := by decide +kernel
theorem dX6_lay_35 : decode cX6_lay 35 = .ok (.aload_n 0, 1) := by decide +kernel
theorem dX6_lay_36 : decode cX6_lay 36 = .ok (.getfield 57, 3) := by decide +kernel
theorem dX6_lay_39 : decode cX6_lay 39 = .ok (.putfield 53, 3) := by decide +kernel
theorem dX6_lay_42 : decode cX6_lay 42 = .ok (.aload_n 0, 1) := by decide +kernel
theorem dX6_lay_43 : decode cX6_lay 43 = .ok (.aload_n 1, 1) := by decide +kernel
theorem dX6_lay_44 : decode cX6_lay 44 = .ok (.putfield 57, 3) := by decide +kernel
theorem dX6_lay_47 : decode cX6_lay 47 = .ok (.aload_n 0, 1) := by decide +kernel
theorem dX6_lay_48 : decode cX6_lay 48 = .ok (.getfield 19, 3) := by decide +kernel
theorem dX6_lay_51 : decode cX6_lay 51 = .ok (.invokevirtual 86, 3) := by decide +kernel
theorem dX6_lay_54 : decode cX6_lay 54 = .ok (.aload_n 0, 1) := by decide +kernel
theorem dX6_lay_55 : decode cX6_lay 55 = .ok (.getfield 26, 3) := by decide +kernel
theorem dX6_lay_58 : decode cX6_lay 58 = .ok (.invokevirtual 87, 3) := by decide +kernel
theorem dX6_lay_61 : decode cX6_lay 61 = .ok (.aload_n 0, 1) := by decide +kernel
theorem dX6_lay_62 : decode cX6_lay 62 = .ok (.getfield 46, 3) := by decide +kernel
theorem dX6_lay_65 : decode cX6_lay 65 = .ok (.invokevirtual 90, 3) := by decide +kernel
theorem dX6_lay_68 : decode cX6_lay 68 = .ok (.aload_n 0, 1) := by decide +kernel
theorem dX6_lay_69 : decode cX6_lay 69 = .ok (.iconst 0, 1) := by decide +kernel
theorem dX6_lay_70 : decode cX6_lay 70 = .ok (.putfield 60, 3) := by decide +kernel
theorem dX6_lay_73 : decode cX6_lay 73 = .ok (.aload_n 0, 1) := by decide +kernel
theorem dX6_lay_74 : decode cX6_lay 74 = .ok (.getfield 53, 3) := by decide +kernel
theorem dX6_lay_77 : decode cX6_lay 77 = .ok (.invokevirtual 83, 3) := by decide +kernel
theorem dX6_lay_80 : decode cX6_lay 80 = .ok (.ireturn, 1) := by decide +kernel
theorem dX6_mouth_0 : decode cX6_mouth 0 = .ok (.aload_n 0, 1) := by decide +kernel
theorem dX6_mouth_1 : decode cX6_mouth 1 = .ok (.getfield 53, 3) := by decide +kernel
theorem dX6_mouth_4 : decode cX6_mouth 4 = .ok (.iload_n 1, 1) := by decide +kernel
theorem dX6_mouth_5 : decode cX6_mouth 5 = .ok (.iload_n 2, 1) := by decide +kernel
theorem dX6_mouth_6 : decode cX6_mouth 6 = .ok (.invokevirtual 91, 3) := by decide +kernel
theorem dX6_mouth_9 : decode cX6_mouth 9 = .ok (.ireturn, 1) := by decide +kernel
theorem dX6_makes_0 : decode cX6_makes 0 = .ok (.iload_n 1, 1) := by decide +kernel
theorem dX6_makes_1 : decode cX6_makes 1 = .ok (.ifCond .lt 16, 3) := by decide +kernel
theorem dX6_makes_4 : decode cX6_makes 4 = .ok (.iload_n 1, 1) := by decide +kernel
theorem dX6_makes_5 : decode cX6_makes 5 = .ok (.bipush 6, 2) := by decide +kernel
theorem dX6_makes_7 : decode cX6_makes 7 = .ok (.if_icmp .ge 10, 3) := by decide +kernel
theorem dX6_makes_10 : decode cX6_makes 10 = .ok (.iload_n 2, 1) := by decide +kernel
theorem dX6_makes_11 : decode cX6_makes 11 = .ok (.invokestatic 95, 3) := by decide +kernel
theorem dX6_makes_14 : decode cX6_makes 14 = .ok (.ifCond .ne 5, 3) := by decide +kernel
theorem dX6_makes_17 : decode cX6_makes 17 = .ok (.iconst (-1), 1) := by decide +kernel
theorem dX6_makes_18 : decode cX6_makes 18 = .ok (.ireturn, 1) := by decide +kernel
theorem dX6_makes_19 : decode cX6_makes 19 = .ok (.iload_n 1, 1) := by decide +kernel
theorem dX6_makes_20 : decode cX6_makes 20 = .ok (.iload_n 2, 1) := by decide +kernel
theorem dX6_makes_21 : decode cX6_makes 21 = .ok (.invokestatic 99, 3) := by decide +kernel
theorem dX6_makes_24 : decode cX6_makes 24 = .ok (.ireturn, 1) := by decide +kernel
theorem dX6_seat_0 : decode cX6_seat 0 = .ok (.aload_n 0, 1) := by decide +kernel
theorem dX6_seat_1 : decode cX6_seat 1 = .ok (.getfield 53, 3) := by decide +kernel
theorem dX6_seat_4 : decode cX6_seat 4 = .ok (.iload_n 1, 1) := by decide +kernel
theorem dX6_seat_5 : decode cX6_seat 5 = .ok (.invokevirtual 102, 3) := by decide +kernel
theorem dX6_seat_8 : decode cX6_seat 8 = .ok (.ifCond .ne 5, 3) := by decide +kernel
theorem dX6_seat_11 : decode cX6_seat 11 = .ok (.iconst (-1), 1) := by decide +kernel
theorem dX6_seat_12 : decode cX6_seat 12 = .ok (.ireturn, 1) := by decide +kernel
theorem dX6_seat_13 : decode cX6_seat 13 = .ok (.aload_n 0, 1) := by decide +kernel
theorem dX6_seat_14 : decode cX6_seat 14 = .ok (.getfield 19, 3) := by decide +kernel
theorem dX6_seat_17 : decode cX6_seat 17 = .ok (.iload_n 1, 1) := by decide +kernel
theorem dX6_seat_18 : decode cX6_seat 18 = .ok (.invokevirtual 105, 3) := by decide +kernel
theorem dX6_seat_21 : decode cX6_seat 21 = .ok (.ifCond .eq 6, 3) := by decide +kernel
theorem dX6_seat_24 : decode cX6_seat 24 = .ok (.bipush (-2), 2) := by decide +kernel
theorem dX6_seat_26 : decode cX6_seat 26 = .ok (.ireturn, 1) := by decide +kernel
theorem dX6_seat_27 : decode cX6_seat 27 = .ok (.aload_n 0, 1) := by decide +kernel
theorem dX6_seat_28 : decode cX6_seat 28 = .ok (.getfield 19, 3) := by decide +kernel
theorem dX6_seat_31 : decode cX6_seat 31 = .ok (.iload_n 1, 1) := by decide +kernel
theorem dX6_seat_32 : decode cX6_seat 32 = .ok (.invokevirtual 108, 3) := by decide +kernel
theorem dX6_seat_35 : decode cX6_seat 35 = .ok (.aload_n 0, 1) := by decide +kernel
theorem dX6_seat_36 : decode cX6_seat 36 = .ok (.getfield 26, 3) := by decide +kernel
theorem dX6_seat_39 : decode cX6_seat 39 = .ok (.iconst (-1), 1) := by decide +kernel
theorem dX6_seat_40 : decode cX6_seat 40 = .ok (.invokevirtual 111, 3) := by decide +kernel
theorem dX6_seat_43 : decode cX6_seat 43 = .ok (.aload_n 0, 1) := by decide +kernel
theorem dX6_seat_44 : decode cX6_seat 44 = .ok (.getfield 19, 3) := by decide +kernel
theorem dX6_seat_47 : decode cX6_seat 47 = .ok (.invokevirtual 114, 3) := by decide +kernel
theorem dX6_seat_50 : decode cX6_seat 50 = .ok (.ireturn, 1) := by decide +kernel
theorem dX6_unseat_0 : decode cX6_unseat 0 = .ok (.aload_n 0, 1) := by decide +kernel
theorem dX6_unseat_1 : decode cX6_unseat 1 = .ok (.getfield 19, 3) := by decide +kernel
theorem dX6_unseat_4 : decode cX6_unseat 4 = .ok (.invokevirtual 114, 3) := by decide +kernel
theorem dX6_unseat_7 : decode cX6_unseat 7 = .ok (.ifCond .ne 6, 3) := by decide +kernel
theorem dX6_unseat_10 : decode cX6_unseat 10 = .ok (.bipush (-2), 2) := by decide +kernel
theorem dX6_unseat_12 : decode cX6_unseat 12 = .ok (.ireturn, 1) := by decide +kernel
theorem dX6_unseat_13 : decode cX6_unseat 13 = .ok (.aload_n 0, 1) := by decide +kernel
theorem dX6_unseat_14 : decode cX6_unseat 14 = .ok (.getfield 19, 3) := by decide +kernel
theorem dX6_unseat_17 : decode cX6_unseat 17 = .ok (.invokevirtual 117, 3) := by decide +kernel
theorem dX6_unseat_20 : decode cX6_unseat 20 = .ok (.istore_n 1, 1) := by decide +kernel
theorem dX6_unseat_21 : decode cX6_unseat 21 = .ok (.aload_n 0, 1) := by decide +kernel
theorem dX6_unseat_22 : decode cX6_unseat 22 = .ok (.getfield 26, 3) := by decide +kernel
theorem dX6_unseat_25 : decode cX6_unseat 25 = .ok (.iload_n 1, 1) := by decide +kernel
theorem dX6_unseat_26 : decode cX6_unseat 26 = .ok (.invokevirtual 111, 3) := by decide +kernel
theorem dX6_unseat_29 : decode cX6_unseat 29 = .ok (.iload_n 1, 1) := by decide +kernel
theorem dX6_unseat_30 : decode cX6_unseat 30 = .ok (.ireturn, 1) := by decide +kernel
theorem dX6_undo_0 : decode cX6_undo 0 = .ok (.aload_n 0, 1) := by decide +kernel
theorem dX6_undo_1 : decode cX6_undo 1 = .ok (.getfield 26, 3) := by decide +kernel
theorem dX6_undo_4 : decode cX6_undo 4 = .ok (.invokevirtual 120, 3) := by decide +kernel
theorem dX6_undo_7 : decode cX6_undo 7 = .ok (.ifCond .ne 6, 3) := by decide +kernel
theorem dX6_undo_10 : decode cX6_undo 10 = .ok (.bipush (-2), 2) := by decide +kernel
theorem dX6_undo_12 : decode cX6_undo 12 = .ok (.ireturn, 1) := by decide +kernel
theorem dX6_undo_13 : decode cX6_undo 13 = .ok (.aload_n 0, 1) := by decide +kernel
theorem dX6_undo_14 : decode cX6_undo 14 = .ok (.getfield 26, 3) := by decide +kernel
theorem dX6_undo_17 : decode cX6_undo 17 = .ok (.invokevirtual 123, 3) := by decide +kernel
theorem dX6_undo_20 : decode cX6_undo 20 = .ok (.istore_n 1, 1) := by decide +kernel
theorem dX6_undo_21 : decode cX6_undo 21 = .ok (.iload_n 1, 1) := by decide +kernel
theorem dX6_undo_22 : decode cX6_undo 22 = .ok (.iconst (-1), 1) := by decide +kernel
theorem dX6_undo_23 : decode cX6_undo 23 = .ok (.if_icmp .ne 14, 3) := by decide +kernel
theorem dX6_undo_26 : decode cX6_undo 26 = .ok (.aload_n 0, 1) := by decide +kernel
theorem dX6_undo_27 : decode cX6_undo 27 = .ok (.getfield 19, 3) := by decide +kernel
theorem dX6_undo_30 : decode cX6_undo 30 = .ok (.invokevirtual 117, 3) := by decide +kernel
theorem dX6_undo_33 : decode cX6_undo 33 = .ok (.pop, 1) := by decide +kernel
theorem dX6_undo_34 : decode cX6_undo 34 = .ok (.goto 11, 3) := by decide +kernel
theorem dX6_undo_37 : decode cX6_undo 37 = .ok (.aload_n 0, 1) := by decide +kernel
theorem dX6_undo_38 : decode cX6_undo 38 = .ok (.getfield 19, 3) := by decide +kernel
theorem dX6_undo_41 : decode cX6_undo 41 = .ok (.iload_n 1, 1) := by decide +kernel
theorem dX6_undo_42 : decode cX6_undo 42 = .ok (.invokevirtual 108, 3) := by decide +kernel
theorem dX6_undo_45 : decode cX6_undo 45 = .ok (.aload_n 0, 1) := by decide +kernel
theorem dX6_undo_46 : decode cX6_undo 46 = .ok (.getfield 26, 3) := by decide +kernel
theorem dX6_undo_49 : decode cX6_undo 49 = .ok (.invokevirtual 120, 3) := by decide +kernel
theorem dX6_undo_52 : decode cX6_undo 52 = .ok (.ireturn, 1) := by decide +kernel
theorem dX6_chain_0 : decode cX6_chain 0 = .ok (.iload_n 1, 1) := by decide +kernel
theorem dX6_chain_1 : decode cX6_chain 1 = .ok (.ifCond .ge 5, 3) := by decide +kernel
theorem dX6_chain_4 : decode cX6_chain 4 = .ok (.iconst (-1), 1) := by decide +kernel
theorem dX6_chain_5 : decode cX6_chain 5 = .ok (.ireturn, 1) := by decide +kernel
theorem dX6_chain_6 : decode cX6_chain 6 = .ok (.aload_n 0, 1) := by decide +kernel
theorem dX6_chain_7 : decode cX6_chain 7 = .ok (.getfield 19, 3) := by decide +kernel
theorem dX6_chain_10 : decode cX6_chain 10 = .ok (.iload_n 1, 1) := by decide +kernel
theorem dX6_chain_11 : decode cX6_chain 11 = .ok (.invokevirtual 126, 3) := by decide +kernel
theorem dX6_chain_14 : decode cX6_chain 14 = .ok (.ireturn, 1) := by decide +kernel
theorem dX6_judged_0 : decode cX6_judged 0 = .ok (.aload_n 0, 1) := by decide +kernel
theorem dX6_judged_1 : decode cX6_judged 1 = .ok (.getfield 53, 3) := by decide +kernel
theorem dX6_judged_4 : decode cX6_judged 4 = .ok (.invokevirtual 130, 3) := by decide +kernel
theorem dX6_judged_7 : decode cX6_judged 7 = .ok (.istore_n 1, 1) := by decide +kernel
theorem dX6_judged_8 : decode cX6_judged 8 = .ok (.iconst 0, 1) := by decide +kernel
theorem dX6_judged_9 : decode cX6_judged 9 = .ok (.istore_n 2, 1) := by decide +kernel
theorem dX6_judged_10 : decode cX6_judged 10 = .ok (.iload_n 2, 1) := by decide +kernel
theorem dX6_judged_11 : decode cX6_judged 11 = .ok (.aload_n 0, 1) := by decide +kernel
theorem dX6_judged_12 : decode cX6_judged 12 = .ok (.getfield 19, 3) := by decide +kernel
theorem dX6_judged_15 : decode cX6_judged 15 = .ok (.invokevirtual 114, 3) := by decide +kernel
theorem dX6_judged_18 : decode cX6_judged 18 = .ok (.if_icmp .ge 34, 3) := by decide +kernel
theorem dX6_judged_21 : decode cX6_judged 21 = .ok (.aload_n 0, 1) := by decide +kernel
theorem dX6_judged_22 : decode cX6_judged 22 = .ok (.getfield 53, 3) := by decide +kernel
theorem dX6_judged_25 : decode cX6_judged 25 = .ok (.aload_n 0, 1) := by decide +kernel
theorem dX6_judged_26 : decode cX6_judged 26 = .ok (.getfield 19, 3) := by decide +kernel
theorem dX6_judged_29 : decode cX6_judged 29 = .ok (.iload_n 2, 1) := by decide +kernel
theorem dX6_judged_30 : decode cX6_judged 30 = .ok (.invokevirtual 126, 3) := by decide +kernel
theorem dX6_judged_33 : decode cX6_judged 33 = .ok (.iload_n 1, 1) := by decide +kernel
theorem dX6_judged_34 : decode cX6_judged 34 = .ok (.invokevirtual 133, 3) := by decide +kernel
theorem dX6_judged_37 : decode cX6_judged 37 = .ok (.istore_n 1, 1) := by decide +kernel
theorem dX6_judged_38 : decode cX6_judged 38 = .ok (.iload_n 1, 1) := by decide +kernel
theorem dX6_judged_39 : decode cX6_judged 39 = .ok (.bipush (-4), 2) := by decide +kernel
theorem dX6_judged_41 : decode cX6_judged 41 = .ok (.if_icmp .ne 5, 3) := by decide +kernel
theorem dX6_judged_44 : decode cX6_judged 44 = .ok (.iload_n 2, 1) := by decide +kernel
theorem dX6_judged_45 : decode cX6_judged 45 = .ok (.ireturn, 1) := by decide +kernel
theorem dX6_judged_46 : decode cX6_judged 46 = .ok (.iinc 2 1, 3) := by decide +kernel
theorem dX6_judged_49 : decode cX6_judged 49 = .ok (.goto (-39), 3) := by decide +kernel
theorem dX6_judged_52 : decode cX6_judged 52 = .ok (.iload_n 1, 1) := by decide +kernel
theorem dX6_judged_53 : decode cX6_judged 53 = .ok (.aload_n 0, 1) := by decide +kernel
theorem dX6_judged_54 : decode cX6_judged 54 = .ok (.getfield 53, 3) := by decide +kernel
theorem dX6_judged_57 : decode cX6_judged 57 = .ok (.invokevirtual 136, 3) := by decide +kernel
theorem dX6_judged_60 : decode cX6_judged 60 = .ok (.if_icmp .ne 8, 3) := by decide +kernel
theorem dX6_judged_63 : decode cX6_judged 63 = .ok (.bipush (-4), 2) := by decide +kernel
theorem dX6_judged_65 : decode cX6_judged 65 = .ok (.goto 10, 3) := by decide +kernel
theorem dX6_judged_68 : decode cX6_judged 68 = .ok (.aload_n 0, 1) := by decide +kernel
theorem dX6_judged_69 : decode cX6_judged 69 = .ok (.getfield 19, 3) := by decide +kernel
theorem dX6_judged_72 : decode cX6_judged 72 = .ok (.invokevirtual 114, 3) := by decide +kernel
theorem dX6_judged_75 : decode cX6_judged 75 = .ok (.ireturn, 1) := by decide +kernel
theorem dX6_word_0 : decode cX6_word 0 = .ok (.iload_n 1, 1) := by decide +kernel
theorem dX6_word_1 : decode cX6_word 1 = .ok (.invokestatic 95, 3) := by decide +kernel
theorem dX6_word_4 : decode cX6_word 4 = .ok (.ifCond .ne 5, 3) := by decide +kernel
theorem dX6_word_7 : decode cX6_word 7 = .ok (.iconst (-1), 1) := by decide +kernel
theorem dX6_word_8 : decode cX6_word 8 = .ok (.ireturn, 1) := by decide +kernel
theorem dX6_word_9 : decode cX6_word 9 = .ok (.aload_n 0, 1) := by decide +kernel
theorem dX6_word_10 : decode cX6_word 10 = .ok (.getfield 19, 3) := by decide +kernel
theorem dX6_word_13 : decode cX6_word 13 = .ok (.invokevirtual 139, 3) := by decide +kernel
theorem dX6_word_16 : decode cX6_word 16 = .ok (.bipush 12, 2) := by decide +kernel
theorem dX6_word_18 : decode cX6_word 18 = .ok (.if_icmp .lt 6, 3) := by decide +kernel
theorem dX6_word_21 : decode cX6_word 21 = .ok (.bipush (-3), 2) := by decide +kernel
theorem dX6_word_23 : decode cX6_word 23 = .ok (.ireturn, 1) := by decide +kernel
theorem dX6_word_24 : decode cX6_word 24 = .ok (.aload_n 0, 1) := by decide +kernel
theorem dX6_word_25 : decode cX6_word 25 = .ok (.getfield 19, 3) := by decide +kernel
theorem dX6_word_28 : decode cX6_word 28 = .ok (.iload_n 1, 1) := by decide +kernel
theorem dX6_word_29 : decode cX6_word 29 = .ok (.invokevirtual 142, 3) := by decide +kernel
theorem dX6_word_32 : decode cX6_word 32 = .ok (.aload_n 0, 1) := by decide +kernel
theorem dX6_word_33 : decode cX6_word 33 = .ok (.getfield 19, 3) := by decide +kernel
theorem dX6_word_36 : decode cX6_word 36 = .ok (.invokevirtual 139, 3) := by decide +kernel
theorem dX6_word_39 : decode cX6_word 39 = .ok (.ireturn, 1) := by decide +kernel
theorem dX6_silence_0 : decode cX6_silence 0 = .ok (.aload_n 0, 1) := by decide +kernel
theorem dX6_silence_1 : decode cX6_silence 1 = .ok (.getfield 19, 3) := by decide +kernel
theorem dX6_silence_4 : decode cX6_silence 4 = .ok (.invokevirtual 139, 3) := by decide +kernel
theorem dX6_silence_7 : decode cX6_silence 7 = .ok (.istore_n 1, 1) := by decide +kernel
theorem dX6_silence_8 : decode cX6_silence 8 = .ok (.aload_n 0, 1) := by decide +kernel
theorem dX6_silence_9 : decode cX6_silence 9 = .ok (.getfield 19, 3) := by decide +kernel
theorem dX6_silence_12 : decode cX6_silence 12 = .ok (.invokevirtual 145, 3) := by decide +kernel
theorem dX6_silence_15 : decode cX6_silence 15 = .ok (.iload_n 1, 1) := by decide +kernel
theorem dX6_silence_16 : decode cX6_silence 16 = .ok (.ireturn, 1) := by decide +kernel
theorem dX6_said_0 : decode cX6_said 0 = .ok (.iload_n 1, 1) := by decide +kernel
theorem dX6_said_1 : decode cX6_said 1 = .ok (.ifCond .lt 18, 3) := by decide +kernel
theorem dX6_said_4 : decode cX6_said 4 = .ok (.iload_n 2, 1) := by decide +kernel
theorem dX6_said_5 : decode cX6_said 5 = .ok (.ifCond .lt 14, 3) := by decide +kernel
theorem dX6_said_8 : decode cX6_said 8 = .ok (.iload_n 2, 1) := by decide +kernel
theorem dX6_said_9 : decode cX6_said 9 = .ok (.aload_n 0, 1) := by decide +kernel
theorem dX6_said_10 : decode cX6_said 10 = .ok (.getfield 19, 3) := by decide +kernel
theorem dX6_said_13 : decode cX6_said 13 = .ok (.invokevirtual 114, 3) := by decide +kernel
theorem dX6_said_16 : decode cX6_said 16 = .ok (.if_icmp .le 5, 3) := by decide +kernel
theorem dX6_said_19 : decode cX6_said 19 = .ok (.iconst (-1), 1) := by decide +kernel
theorem dX6_said_20 : decode cX6_said 20 = .ok (.ireturn, 1) := by decide +kernel
theorem dX6_said_21 : decode cX6_said 21 = .ok (.iload_n 1, 1) := by decide +kernel
theorem dX6_said_22 : decode cX6_said 22 = .ok (.aload_n 0, 1) := by decide +kernel
theorem dX6_said_23 : decode cX6_said 23 = .ok (.getfield 19, 3) := by decide +kernel
theorem dX6_said_26 : decode cX6_said 26 = .ok (.invokevirtual 139, 3) := by decide +kernel
theorem dX6_said_29 : decode cX6_said 29 = .ok (.if_icmp .lt 6, 3) := by decide +kernel
theorem dX6_said_32 : decode cX6_said 32 = .ok (.bipush (-4), 2) := by decide +kernel
theorem dX6_said_34 : decode cX6_said 34 = .ok (.ireturn, 1) := by decide +kernel
theorem dX6_said_35 : decode cX6_said 35 = .ok (.aload_n 0, 1) := by decide +kernel
theorem dX6_said_36 : decode cX6_said 36 = .ok (.aload_n 0, 1) := by decide +kernel
theorem dX6_said_37 : decode cX6_said 37 = .ok (.getfield 19, 3) := by decide +kernel
theorem dX6_said_40 : decode cX6_said 40 = .ok (.iload_n 1, 1) := by decide +kernel
theorem dX6_said_41 : decode cX6_said 41 = .ok (.invokevirtual 148, 3) := by decide +kernel
theorem dX6_said_44 : decode cX6_said 44 = .ok (.iload_n 2, 1) := by decide +kernel
theorem dX6_said_45 : decode cX6_said 45 = .ok (.iconst 0, 1) := by decide +kernel
theorem dX6_said_46 : decode cX6_said 46 = .ok (.invokevirtual 151, 3) := by decide +kernel
theorem dX6_said_49 : decode cX6_said 49 = .ok (.ireturn, 1) := by decide +kernel
theorem dX6_comes_0 : decode cX6_comes 0 = .ok (.iload_n 1, 1) := by decide +kernel
theorem dX6_comes_1 : decode cX6_comes 1 = .ok (.invokestatic 95, 3) := by decide +kernel
theorem dX6_comes_4 : decode cX6_comes 4 = .ok (.ifCond .eq 17, 3) := by decide +kernel
theorem dX6_comes_7 : decode cX6_comes 7 = .ok (.iload_n 2, 1) := by decide +kernel
theorem dX6_comes_8 : decode cX6_comes 8 = .ok (.invokestatic 95, 3) := by decide +kernel
theorem dX6_comes_11 : decode cX6_comes 11 = .ok (.ifCond .eq 10, 3) := by decide +kernel
theorem dX6_comes_14 : decode cX6_comes 14 = .ok (.iload_n 3, 1) := by decide +kernel
theorem dX6_comes_15 : decode cX6_comes 15 = .ok (.invokestatic 155, 3) := by decide +kernel
theorem dX6_comes_18 : decode cX6_comes 18 = .ok (.ifCond .ne 5, 3) := by decide +kernel
theorem dX6_comes_21 : decode cX6_comes 21 = .ok (.iconst (-1), 1) := by decide +kernel
theorem dX6_comes_22 : decode cX6_comes 22 = .ok (.ireturn, 1) := by decide +kernel
theorem dX6_comes_23 : decode cX6_comes 23 = .ok (.aload_n 0, 1) := by decide +kernel
theorem dX6_comes_24 : decode cX6_comes 24 = .ok (.invokevirtual 158, 3) := by decide +kernel
theorem dX6_comes_27 : decode cX6_comes 27 = .ok (.aload_n 0, 1) := by decide +kernel
theorem dX6_comes_28 : decode cX6_comes 28 = .ok (.getfield 39, 3) := by decide +kernel
theorem dX6_comes_31 : decode cX6_comes 31 = .ok (.iload_n 1, 1) := by decide +kernel
theorem dX6_comes_32 : decode cX6_comes 32 = .ok (.iload_n 2, 1) := by decide +kernel
theorem dX6_comes_33 : decode cX6_comes 33 = .ok (.invokevirtual 161, 3) := by decide +kernel
theorem dX6_comes_36 : decode cX6_comes 36 = .ok (.aload_n 0, 1) := by decide +kernel
theorem dX6_comes_37 : decode cX6_comes 37 = .ok (.getfield 39, 3) := by decide +kernel
theorem dX6_comes_40 : decode cX6_comes 40 = .ok (.invokevirtual 165, 3) := by decide +kernel
theorem dX6_comes_43 : decode cX6_comes 43 = .ok (.iload_n 3, 1) := by decide +kernel
theorem dX6_comes_44 : decode cX6_comes 44 = .ok (.invokestatic 169, 3) := by decide +kernel
theorem dX6_comes_47 : decode cX6_comes 47 = .ok (.l2i, 1) := by decide +kernel
theorem dX6_comes_48 : decode cX6_comes 48 = .ok (.ireturn, 1) := by decide +kernel
theorem dX6_was_0 : decode cX6_was 0 = .ok (.iload_n 1, 1) := by decide +kernel
theorem dX6_was_1 : decode cX6_was 1 = .ok (.invokestatic 95, 3) := by decide +kernel
theorem dX6_was_4 : decode cX6_was 4 = .ok (.ifCond .eq 17, 3) := by decide +kernel
theorem dX6_was_7 : decode cX6_was 7 = .ok (.iload_n 2, 1) := by decide +kernel
theorem dX6_was_8 : decode cX6_was 8 = .ok (.invokestatic 95, 3) := by decide +kernel
theorem dX6_was_11 : decode cX6_was 11 = .ok (.ifCond .eq 10, 3) := by decide +kernel
theorem dX6_was_14 : decode cX6_was 14 = .ok (.iload_n 3, 1) := by decide +kernel
theorem dX6_was_15 : decode cX6_was 15 = .ok (.invokestatic 155, 3) := by decide +kernel
theorem dX6_was_18 : decode cX6_was 18 = .ok (.ifCond .ne 5, 3) := by decide +kernel
theorem dX6_was_21 : decode cX6_was 21 = .ok (.iconst (-1), 1) := by decide +kernel
theorem dX6_was_22 : decode cX6_was 22 = .ok (.ireturn, 1) := by decide +kernel
theorem dX6_was_23 : decode cX6_was 23 = .ok (.aload_n 0, 1) := by decide +kernel
theorem dX6_was_24 : decode cX6_was 24 = .ok (.invokevirtual 158, 3) := by decide +kernel
theorem dX6_was_27 : decode cX6_was 27 = .ok (.aload_n 0, 1) := by decide +kernel
theorem dX6_was_28 : decode cX6_was 28 = .ok (.getfield 39, 3) := by decide +kernel
theorem dX6_was_31 : decode cX6_was 31 = .ok (.iload_n 2, 1) := by decide +kernel
theorem dX6_was_32 : decode cX6_was 32 = .ok (.invokevirtual 173, 3) := by decide +kernel
theorem dX6_was_35 : decode cX6_was 35 = .ok (.lstore 4, 2) := by decide +kernel
theorem dX6_was_37 : decode cX6_was 37 = .ok (.lload 4, 2) := by decide +kernel
theorem dX6_was_39 : decode cX6_was 39 = .ok (.lconst 0, 1) := by decide +kernel
theorem dX6_was_40 : decode cX6_was 40 = .ok (.lcmp, 1) := by decide +kernel
theorem dX6_was_41 : decode cX6_was 41 = .ok (.ifCond .ne 6, 3) := by decide +kernel
theorem dX6_was_44 : decode cX6_was 44 = .ok (.bipush (-4), 2) := by decide +kernel
theorem dX6_was_46 : decode cX6_was 46 = .ok (.ireturn, 1) := by decide +kernel
theorem dX6_was_47 : decode cX6_was 47 = .ok (.aload_n 0, 1) := by decide +kernel
theorem dX6_was_48 : decode cX6_was 48 = .ok (.getfield 39, 3) := by decide +kernel
theorem dX6_was_51 : decode cX6_was 51 = .ok (.iload_n 1, 1) := by decide +kernel
theorem dX6_was_52 : decode cX6_was 52 = .ok (.iload_n 2, 1) := by decide +kernel
theorem dX6_was_53 : decode cX6_was 53 = .ok (.invokevirtual 161, 3) := by decide +kernel
theorem dX6_was_56 : decode cX6_was 56 = .ok (.lload 4, 2) := by decide +kernel
theorem dX6_was_58 : decode cX6_was 58 = .ok (.iload_n 3, 1) := by decide +kernel
theorem dX6_was_59 : decode cX6_was 59 = .ok (.invokestatic 169, 3) := by decide +kernel
theorem dX6_was_62 : decode cX6_was 62 = .ok (.l2i, 1) := by decide +kernel
theorem dX6_was_63 : decode cX6_was 63 = .ok (.ireturn, 1) := by decide +kernel
theorem dX6_back_0 : decode cX6_back 0 = .ok (.iload_n 1, 1) := by decide +kernel
theorem dX6_back_1 : decode cX6_back 1 = .ok (.invokestatic 95, 3) := by decide +kernel
theorem dX6_back_4 : decode cX6_back 4 = .ok (.ifCond .eq 10, 3) := by decide +kernel
theorem dX6_back_7 : decode cX6_back 7 = .ok (.iload_n 2, 1) := by decide +kernel
theorem dX6_back_8 : decode cX6_back 8 = .ok (.invokestatic 155, 3) := by decide +kernel
theorem dX6_back_11 : decode cX6_back 11 = .ok (.ifCond .ne 7, 3) := by decide +kernel
theorem dX6_back_14 : decode cX6_back 14 = .ok (.ldc2_w 177, 3) := by decide +kernel
theorem dX6_back_17 : decode cX6_back 17 = .ok (.lreturn, 1) := by decide +kernel
theorem dX6_back_18 : decode cX6_back 18 = .ok (.aload_n 0, 1) := by decide +kernel
theorem dX6_back_19 : decode cX6_back 19 = .ok (.invokevirtual 158, 3) := by decide +kernel
theorem dX6_back_22 : decode cX6_back 22 = .ok (.aload_n 0, 1) := by decide +kernel
theorem dX6_back_23 : decode cX6_back 23 = .ok (.getfield 19, 3) := by decide +kernel
theorem dX6_back_26 : decode cX6_back 26 = .ok (.invokevirtual 114, 3) := by decide +kernel
theorem dX6_back_29 : decode cX6_back 29 = .ok (.iconst 1, 1) := by decide +kernel
theorem dX6_back_30 : decode cX6_back 30 = .ok (.isub, 1) := by decide +kernel
theorem dX6_back_31 : decode cX6_back 31 = .ok (.istore_n 3, 1) := by decide +kernel
theorem dX6_back_32 : decode cX6_back 32 = .ok (.iload_n 3, 1) := by decide +kernel
theorem dX6_back_33 : decode cX6_back 33 = .ok (.ifCond .lt 14, 3) := by decide +kernel
