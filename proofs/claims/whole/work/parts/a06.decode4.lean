theorem dX6_back_36 : decode cX6_back 36 = .ok (.aload_n 0, 1) := by decide +kernel
theorem dX6_back_37 : decode cX6_back 37 = .ok (.iload_n 3, 1) := by decide +kernel
theorem dX6_back_38 : decode cX6_back 38 = .ok (.invokevirtual 179, 3) := by decide +kernel
theorem dX6_back_41 : decode cX6_back 41 = .ok (.iinc 3 (-1), 3) := by decide +kernel
theorem dX6_back_44 : decode cX6_back 44 = .ok (.goto (-12), 3) := by decide +kernel
theorem dX6_back_47 : decode cX6_back 47 = .ok (.aload_n 0, 1) := by decide +kernel
theorem dX6_back_48 : decode cX6_back 48 = .ok (.getfield 39, 3) := by decide +kernel
theorem dX6_back_51 : decode cX6_back 51 = .ok (.iload_n 1, 1) := by decide +kernel
theorem dX6_back_52 : decode cX6_back 52 = .ok (.iload_n 1, 1) := by decide +kernel
theorem dX6_back_53 : decode cX6_back 53 = .ok (.invokevirtual 161, 3) := by decide +kernel
theorem dX6_back_56 : decode cX6_back 56 = .ok (.aload_n 0, 1) := by decide +kernel
theorem dX6_back_57 : decode cX6_back 57 = .ok (.getfield 39, 3) := by decide +kernel
theorem dX6_back_60 : decode cX6_back 60 = .ok (.invokevirtual 165, 3) := by decide +kernel
theorem dX6_back_63 : decode cX6_back 63 = .ok (.iload_n 2, 1) := by decide +kernel
theorem dX6_back_64 : decode cX6_back 64 = .ok (.invokestatic 169, 3) := by decide +kernel
theorem dX6_back_67 : decode cX6_back 67 = .ok (.lreturn, 1) := by decide +kernel
theorem dX6_best_0 : decode cX6_best 0 = .ok (.iload_n 1, 1) := by decide +kernel
theorem dX6_best_1 : decode cX6_best 1 = .ok (.iconst 1, 1) := by decide +kernel
theorem dX6_best_2 : decode cX6_best 2 = .ok (.if_icmp .lt 14, 3) := by decide +kernel
theorem dX6_best_5 : decode cX6_best 5 = .ok (.iload_n 1, 1) := by decide +kernel
theorem dX6_best_6 : decode cX6_best 6 = .ok (.bipush 7, 2) := by decide +kernel
theorem dX6_best_8 : decode cX6_best 8 = .ok (.if_icmp .gt 8, 3) := by decide +kernel
theorem dX6_best_11 : decode cX6_best 11 = .ok (.iload_n 2, 1) := by decide +kernel
theorem dX6_best_12 : decode cX6_best 12 = .ok (.iconst (-1), 1) := by decide +kernel
theorem dX6_best_13 : decode cX6_best 13 = .ok (.if_icmp .ge 5, 3) := by decide +kernel
theorem dX6_best_16 : decode cX6_best 16 = .ok (.iconst (-1), 1) := by decide +kernel
theorem dX6_best_17 : decode cX6_best 17 = .ok (.ireturn, 1) := by decide +kernel
theorem dX6_best_18 : decode cX6_best 18 = .ok (.aload_n 0, 1) := by decide +kernel
theorem dX6_best_19 : decode cX6_best 19 = .ok (.getfield 46, 3) := by decide +kernel
theorem dX6_best_22 : decode cX6_best 22 = .ok (.aload_n 0, 1) := by decide +kernel
theorem dX6_best_23 : decode cX6_best 23 = .ok (.getfield 53, 3) := by decide +kernel
theorem dX6_best_26 : decode cX6_best 26 = .ok (.iload_n 1, 1) := by decide +kernel
theorem dX6_best_27 : decode cX6_best 27 = .ok (.invokevirtual 182, 3) := by decide +kernel
theorem dX6_best_30 : decode cX6_best 30 = .ok (.aload_n 0, 1) := by decide +kernel
theorem dX6_best_31 : decode cX6_best 31 = .ok (.getfield 46, 3) := by decide +kernel
theorem dX6_best_34 : decode cX6_best 34 = .ok (.iload_n 1, 1) := by decide +kernel
theorem dX6_best_35 : decode cX6_best 35 = .ok (.invokevirtual 186, 3) := by decide +kernel
theorem dX6_best_38 : decode cX6_best 38 = .ok (.istore_n 3, 1) := by decide +kernel
theorem dX6_best_39 : decode cX6_best 39 = .ok (.iload_n 3, 1) := by decide +kernel
theorem dX6_best_40 : decode cX6_best 40 = .ok (.ifCond .eq 8, 3) := by decide +kernel
theorem dX6_best_43 : decode cX6_best 43 = .ok (.iload_n 2, 1) := by decide +kernel
theorem dX6_best_44 : decode cX6_best 44 = .ok (.iload_n 3, 1) := by decide +kernel
theorem dX6_best_45 : decode cX6_best 45 = .ok (.if_icmp .lt 6, 3) := by decide +kernel
theorem dX6_best_48 : decode cX6_best 48 = .ok (.bipush (-4), 2) := by decide +kernel
theorem dX6_best_50 : decode cX6_best 50 = .ok (.ireturn, 1) := by decide +kernel
theorem dX6_best_51 : decode cX6_best 51 = .ok (.iload_n 2, 1) := by decide +kernel
theorem dX6_best_52 : decode cX6_best 52 = .ok (.iconst (-1), 1) := by decide +kernel
theorem dX6_best_53 : decode cX6_best 53 = .ok (.if_icmp .ne 7, 3) := by decide +kernel
theorem dX6_best_56 : decode cX6_best 56 = .ok (.iload_n 3, 1) := by decide +kernel
theorem dX6_best_57 : decode cX6_best 57 = .ok (.goto 12, 3) := by decide +kernel
theorem dX6_best_60 : decode cX6_best 60 = .ok (.aload_n 0, 1) := by decide +kernel
theorem dX6_best_61 : decode cX6_best 61 = .ok (.getfield 46, 3) := by decide +kernel
theorem dX6_best_64 : decode cX6_best 64 = .ok (.iload_n 1, 1) := by decide +kernel
theorem dX6_best_65 : decode cX6_best 65 = .ok (.iload_n 2, 1) := by decide +kernel
theorem dX6_best_66 : decode cX6_best 66 = .ok (.invokevirtual 189, 3) := by decide +kernel
theorem dX6_best_69 : decode cX6_best 69 = .ok (.ireturn, 1) := by decide +kernel
theorem dX6_bribes_0 : decode cX6_bribes 0 = .ok (.iload_n 1, 1) := by decide +kernel
theorem dX6_bribes_1 : decode cX6_bribes 1 = .ok (.ifCond .lt 8, 3) := by decide +kernel
theorem dX6_bribes_4 : decode cX6_bribes 4 = .ok (.iload_n 1, 1) := by decide +kernel
theorem dX6_bribes_5 : decode cX6_bribes 5 = .ok (.iconst 1, 1) := by decide +kernel
theorem dX6_bribes_6 : decode cX6_bribes 6 = .ok (.if_icmp .le 5, 3) := by decide +kernel
theorem dX6_bribes_9 : decode cX6_bribes 9 = .ok (.iconst (-1), 1) := by decide +kernel
theorem dX6_bribes_10 : decode cX6_bribes 10 = .ok (.ireturn, 1) := by decide +kernel
theorem dX6_bribes_11 : decode cX6_bribes 11 = .ok (.aload_n 0, 1) := by decide +kernel
theorem dX6_bribes_12 : decode cX6_bribes 12 = .ok (.invokevirtual 192, 3) := by decide +kernel
theorem dX6_bribes_15 : decode cX6_bribes 15 = .ok (.istore_n 2, 1) := by decide +kernel
theorem dX6_bribes_16 : decode cX6_bribes 16 = .ok (.iload_n 2, 1) := by decide +kernel
theorem dX6_bribes_17 : decode cX6_bribes 17 = .ok (.bipush (-4), 2) := by decide +kernel
theorem dX6_bribes_19 : decode cX6_bribes 19 = .ok (.if_icmp .ne 6, 3) := by decide +kernel
theorem dX6_bribes_22 : decode cX6_bribes 22 = .ok (.bipush (-4), 2) := by decide +kernel
theorem dX6_bribes_24 : decode cX6_bribes 24 = .ok (.ireturn, 1) := by decide +kernel
theorem dX6_bribes_25 : decode cX6_bribes 25 = .ok (.iload_n 1, 1) := by decide +kernel
theorem dX6_bribes_26 : decode cX6_bribes 26 = .ok (.ifCond .ne 11, 3) := by decide +kernel
theorem dX6_bribes_29 : decode cX6_bribes 29 = .ok (.aload_n 0, 1) := by decide +kernel
theorem dX6_bribes_30 : decode cX6_bribes 30 = .ok (.iload_n 2, 1) := by decide +kernel
theorem dX6_bribes_31 : decode cX6_bribes 31 = .ok (.invokevirtual 195, 3) := by decide +kernel
theorem dX6_bribes_34 : decode cX6_bribes 34 = .ok (.goto 4, 3) := by decide +kernel
theorem dX6_bribes_37 : decode cX6_bribes 37 = .ok (.iload_n 2, 1) := by decide +kernel
theorem dX6_bribes_38 : decode cX6_bribes 38 = .ok (.ireturn, 1) := by decide +kernel
theorem dX6_parrot_0 : decode cX6_parrot 0 = .ok (.iload_n 1, 1) := by decide +kernel
theorem dX6_parrot_1 : decode cX6_parrot 1 = .ok (.iconst 1, 1) := by decide +kernel
theorem dX6_parrot_2 : decode cX6_parrot 2 = .ok (.if_icmp .lt 18, 3) := by decide +kernel
theorem dX6_parrot_5 : decode cX6_parrot 5 = .ok (.iload_n 1, 1) := by decide +kernel
theorem dX6_parrot_6 : decode cX6_parrot 6 = .ok (.bipush 7, 2) := by decide +kernel
theorem dX6_parrot_8 : decode cX6_parrot 8 = .ok (.if_icmp .gt 12, 3) := by decide +kernel
theorem dX6_parrot_11 : decode cX6_parrot 11 = .ok (.iload_n 2, 1) := by decide +kernel
theorem dX6_parrot_12 : decode cX6_parrot 12 = .ok (.ifCond .lt 8, 3) := by decide +kernel
theorem dX6_parrot_15 : decode cX6_parrot 15 = .ok (.iload_n 2, 1) := by decide +kernel
theorem dX6_parrot_16 : decode cX6_parrot 16 = .ok (.iconst 2, 1) := by decide +kernel
theorem dX6_parrot_17 : decode cX6_parrot 17 = .ok (.if_icmp .le 5, 3) := by decide +kernel
theorem dX6_parrot_20 : decode cX6_parrot 20 = .ok (.iconst (-1), 1) := by decide +kernel
theorem dX6_parrot_21 : decode cX6_parrot 21 = .ok (.ireturn, 1) := by decide +kernel
theorem dX6_parrot_22 : decode cX6_parrot 22 = .ok (.iload_n 1, 1) := by decide +kernel
theorem dX6_parrot_23 : decode cX6_parrot 23 = .ok (.aload_n 0, 1) := by decide +kernel
theorem dX6_parrot_24 : decode cX6_parrot 24 = .ok (.getfield 19, 3) := by decide +kernel
theorem dX6_parrot_27 : decode cX6_parrot 27 = .ok (.invokevirtual 114, 3) := by decide +kernel
theorem dX6_parrot_30 : decode cX6_parrot 30 = .ok (.if_icmp .le 6, 3) := by decide +kernel
theorem dX6_parrot_33 : decode cX6_parrot 33 = .ok (.bipush (-4), 2) := by decide +kernel
theorem dX6_parrot_35 : decode cX6_parrot 35 = .ok (.ireturn, 1) := by decide +kernel
theorem dX6_parrot_36 : decode cX6_parrot 36 = .ok (.aload_n 0, 1) := by decide +kernel
theorem dX6_parrot_37 : decode cX6_parrot 37 = .ok (.iload_n 1, 1) := by decide +kernel
theorem dX6_parrot_38 : decode cX6_parrot 38 = .ok (.invokevirtual 198, 3) := by decide +kernel
theorem dX6_parrot_41 : decode cX6_parrot 41 = .ok (.istore_n 3, 1) := by decide +kernel
theorem dX6_parrot_42 : decode cX6_parrot 42 = .ok (.iload_n 2, 1) := by decide +kernel
theorem dX6_parrot_43 : decode cX6_parrot 43 = .ok (.ifCond .ne 5, 3) := by decide +kernel
theorem dX6_parrot_46 : decode cX6_parrot 46 = .ok (.iload_n 3, 1) := by decide +kernel
theorem dX6_parrot_47 : decode cX6_parrot 47 = .ok (.ireturn, 1) := by decide +kernel
theorem dX6_parrot_48 : decode cX6_parrot 48 = .ok (.aload_n 0, 1) := by decide +kernel
theorem dX6_parrot_49 : decode cX6_parrot 49 = .ok (.iload_n 3, 1) := by decide +kernel
theorem dX6_parrot_50 : decode cX6_parrot 50 = .ok (.iload_n 1, 1) := by decide +kernel
theorem dX6_parrot_51 : decode cX6_parrot 51 = .ok (.invokevirtual 201, 3) := by decide +kernel
theorem dX6_parrot_54 : decode cX6_parrot 54 = .ok (.aload_n 0, 1) := by decide +kernel
theorem dX6_parrot_55 : decode cX6_parrot 55 = .ok (.getfield 39, 3) := by decide +kernel
theorem dX6_parrot_58 : decode cX6_parrot 58 = .ok (.invokevirtual 205, 3) := by decide +kernel
theorem dX6_parrot_61 : decode cX6_parrot 61 = .ok (.ldc2_w 207, 3) := by decide +kernel
theorem dX6_parrot_64 : decode cX6_parrot 64 = .ok (.aload_n 0, 1) := by decide +kernel
theorem dX6_parrot_65 : decode cX6_parrot 65 = .ok (.getfield 39, 3) := by decide +kernel
theorem dX6_parrot_68 : decode cX6_parrot 68 = .ok (.invokevirtual 165, 3) := by decide +kernel
theorem dX6_parrot_71 : decode cX6_parrot 71 = .ok (.lmul, 1) := by decide +kernel
theorem dX6_parrot_72 : decode cX6_parrot 72 = .ok (.iload_n 2, 1) := by decide +kernel
theorem dX6_parrot_73 : decode cX6_parrot 73 = .ok (.iconst 1, 1) := by decide +kernel
theorem dX6_parrot_74 : decode cX6_parrot 74 = .ok (.isub, 1) := by decide +kernel
theorem dX6_parrot_75 : decode cX6_parrot 75 = .ok (.invokestatic 169, 3) := by decide +kernel
theorem dX6_parrot_78 : decode cX6_parrot 78 = .ok (.l2i, 1) := by decide +kernel
theorem dX6_parrot_79 : decode cX6_parrot 79 = .ok (.ireturn, 1) := by decide +kernel
theorem dX6_trial_0 : decode cX6_trial 0 = .ok (.iload_n 1, 1) := by decide +kernel
theorem dX6_trial_1 : decode cX6_trial 1 = .ok (.ifCond .lt 14, 3) := by decide +kernel
theorem dX6_trial_4 : decode cX6_trial 4 = .ok (.iload_n 1, 1) := by decide +kernel
theorem dX6_trial_5 : decode cX6_trial 5 = .ok (.sipush 10000, 3) := by decide +kernel
theorem dX6_trial_8 : decode cX6_trial 8 = .ok (.if_icmp .ge 7, 3) := by decide +kernel
theorem dX6_trial_11 : decode cX6_trial 11 = .ok (.iload_n 2, 1) := by decide +kernel
theorem dX6_trial_12 : decode cX6_trial 12 = .ok (.ifCond .ge 5, 3) := by decide +kernel
theorem dX6_trial_15 : decode cX6_trial 15 = .ok (.iconst (-1), 1) := by decide +kernel
theorem dX6_trial_16 : decode cX6_trial 16 = .ok (.ireturn, 1) := by decide +kernel
theorem dX6_trial_17 : decode cX6_trial 17 = .ok (.iload_n 2, 1) := by decide +kernel
theorem dX6_trial_18 : decode cX6_trial 18 = .ok (.aload_n 0, 1) := by decide +kernel
theorem dX6_trial_19 : decode cX6_trial 19 = .ok (.getfield 19, 3) := by decide +kernel
theorem dX6_trial_22 : decode cX6_trial 22 = .ok (.invokevirtual 139, 3) := by decide +kernel
theorem dX6_trial_25 : decode cX6_trial 25 = .ok (.if_icmp .lt 6, 3) := by decide +kernel
theorem dX6_trial_28 : decode cX6_trial 28 = .ok (.bipush (-4), 2) := by decide +kernel
theorem dX6_trial_30 : decode cX6_trial 30 = .ok (.ireturn, 1) := by decide +kernel
theorem dX6_trial_31 : decode cX6_trial 31 = .ok (.aload_n 0, 1) := by decide +kernel
theorem dX6_trial_32 : decode cX6_trial 32 = .ok (.iload_n 1, 1) := by decide +kernel
theorem dX6_trial_33 : decode cX6_trial 33 = .ok (.iload_n 2, 1) := by decide +kernel
theorem dX6_trial_34 : decode cX6_trial 34 = .ok (.invokevirtual 209, 3) := by decide +kernel
theorem dX6_trial_37 : decode cX6_trial 37 = .ok (.ireturn, 1) := by decide +kernel
theorem dX6_falls_0 : decode cX6_falls 0 = .ok (.iload_n 1, 1) := by decide +kernel
theorem dX6_falls_1 : decode cX6_falls 1 = .ok (.ifCond .lt 10, 3) := by decide +kernel
theorem dX6_falls_4 : decode cX6_falls 4 = .ok (.iload_n 1, 1) := by decide +kernel
theorem dX6_falls_5 : decode cX6_falls 5 = .ok (.sipush 10000, 3) := by decide +kernel
theorem dX6_falls_8 : decode cX6_falls 8 = .ok (.if_icmp .lt 5, 3) := by decide +kernel
theorem dX6_falls_11 : decode cX6_falls 11 = .ok (.iconst (-1), 1) := by decide +kernel
theorem dX6_falls_12 : decode cX6_falls 12 = .ok (.ireturn, 1) := by decide +kernel
theorem dX6_falls_13 : decode cX6_falls 13 = .ok (.aload_n 0, 1) := by decide +kernel
theorem dX6_falls_14 : decode cX6_falls 14 = .ok (.invokevirtual 212, 3) := by decide +kernel
theorem dX6_falls_17 : decode cX6_falls 17 = .ok (.istore_n 2, 1) := by decide +kernel
theorem dX6_falls_18 : decode cX6_falls 18 = .ok (.iconst 0, 1) := by decide +kernel
theorem dX6_falls_19 : decode cX6_falls 19 = .ok (.istore_n 3, 1) := by decide +kernel
theorem dX6_falls_20 : decode cX6_falls 20 = .ok (.iconst 0, 1) := by decide +kernel
theorem dX6_falls_21 : decode cX6_falls 21 = .ok (.istore 4, 2) := by decide +kernel
theorem dX6_falls_23 : decode cX6_falls 23 = .ok (.iload 4, 2) := by decide +kernel
theorem dX6_falls_25 : decode cX6_falls 25 = .ok (.bipush 10, 2) := by decide +kernel
theorem dX6_falls_27 : decode cX6_falls 27 = .ok (.if_icmp .ge 28, 3) := by decide +kernel
theorem dX6_falls_30 : decode cX6_falls 30 = .ok (.aload_n 0, 1) := by decide +kernel
theorem dX6_falls_31 : decode cX6_falls 31 = .ok (.iload_n 1, 1) := by decide +kernel
theorem dX6_falls_32 : decode cX6_falls 32 = .ok (.iload 4, 2) := by decide +kernel
theorem dX6_falls_34 : decode cX6_falls 34 = .ok (.iadd, 1) := by decide +kernel
theorem dX6_falls_35 : decode cX6_falls 35 = .ok (.sipush 10000, 3) := by decide +kernel
theorem dX6_falls_38 : decode cX6_falls 38 = .ok (.irem, 1) := by decide +kernel
theorem dX6_falls_39 : decode cX6_falls 39 = .ok (.invokevirtual 215, 3) := by decide +kernel
theorem dX6_falls_42 : decode cX6_falls 42 = .ok (.iload_n 2, 1) := by decide +kernel
theorem dX6_falls_43 : decode cX6_falls 43 = .ok (.if_icmp .eq 6, 3) := by decide +kernel
theorem dX6_falls_46 : decode cX6_falls 46 = .ok (.iinc 3 1, 3) := by decide +kernel
theorem dX6_falls_49 : decode cX6_falls 49 = .ok (.iinc 4 1, 3) := by decide +kernel
theorem dX6_falls_52 : decode cX6_falls 52 = .ok (.goto (-29), 3) := by decide +kernel
theorem dX6_falls_55 : decode cX6_falls 55 = .ok (.iload_n 3, 1) := by decide +kernel
theorem dX6_falls_56 : decode cX6_falls 56 = .ok (.ireturn, 1) := by decide +kernel
theorem dX6_keep_0 : decode cX6_keep 0 = .ok (.aload_n 0, 1) := by decide +kernel
theorem dX6_keep_1 : decode cX6_keep 1 = .ok (.getfield 60, 3) := by decide +kernel
theorem dX6_keep_4 : decode cX6_keep 4 = .ok (.iconst 2, 1) := by decide +kernel
theorem dX6_keep_5 : decode cX6_keep 5 = .ok (.if_icmp .lt 6, 3) := by decide +kernel
theorem dX6_keep_8 : decode cX6_keep 8 = .ok (.bipush (-3), 2) := by decide +kernel
theorem dX6_keep_10 : decode cX6_keep 10 = .ok (.ireturn, 1) := by decide +kernel
theorem dX6_keep_11 : decode cX6_keep 11 = .ok (.aload_n 0, 1) := by decide +kernel
theorem dX6_keep_12 : decode cX6_keep 12 = .ok (.aload_n 0, 1) := by decide +kernel
theorem dX6_keep_13 : decode cX6_keep 13 = .ok (.getfield 60, 3) := by decide +kernel
theorem dX6_keep_16 : decode cX6_keep 16 = .ok (.invokevirtual 218, 3) := by decide +kernel
theorem dX6_keep_19 : decode cX6_keep 19 = .ok (.aload_n 0, 1) := by decide +kernel
theorem dX6_keep_20 : decode cX6_keep 20 = .ok (.getfield 19, 3) := by decide +kernel
theorem dX6_keep_23 : decode cX6_keep 23 = .ok (.invokevirtual 222, 3) := by decide +kernel
theorem dX6_keep_26 : decode cX6_keep 26 = .ok (.aload_n 0, 1) := by decide +kernel
theorem dX6_keep_27 : decode cX6_keep 27 = .ok (.dup, 1) := by decide +kernel
theorem dX6_keep_28 : decode cX6_keep 28 = .ok (.getfield 60, 3) := by decide +kernel
theorem dX6_keep_31 : decode cX6_keep 31 = .ok (.iconst 1, 1) := by decide +kernel
theorem dX6_keep_32 : decode cX6_keep 32 = .ok (.iadd, 1) := by decide +kernel
theorem dX6_keep_33 : decode cX6_keep 33 = .ok (.putfield 60, 3) := by decide +kernel
theorem dX6_keep_36 : decode cX6_keep 36 = .ok (.aload_n 0, 1) := by decide +kernel
theorem dX6_keep_37 : decode cX6_keep 37 = .ok (.getfield 60, 3) := by decide +kernel
theorem dX6_keep_40 : decode cX6_keep 40 = .ok (.ireturn, 1) := by decide +kernel
theorem dX6_again_0 : decode cX6_again 0 = .ok (.aload_n 0, 1) := by decide +kernel
theorem dX6_again_1 : decode cX6_again 1 = .ok (.getfield 60, 3) := by decide +kernel
theorem dX6_again_4 : decode cX6_again 4 = .ok (.ifCond .ne 6, 3) := by decide +kernel
theorem dX6_again_7 : decode cX6_again 7 = .ok (.bipush (-2), 2) := by decide +kernel
theorem dX6_again_9 : decode cX6_again 9 = .ok (.ireturn, 1) := by decide +kernel
theorem dX6_again_10 : decode cX6_again 10 = .ok (.aload_n 0, 1) := by decide +kernel
theorem dX6_again_11 : decode cX6_again 11 = .ok (.dup, 1) := by decide +kernel
theorem dX6_again_12 : decode cX6_again 12 = .ok (.getfield 60, 3) := by decide +kernel
theorem dX6_again_15 : decode cX6_again 15 = .ok (.iconst 1, 1) := by decide +kernel
theorem dX6_again_16 : decode cX6_again 16 = .ok (.isub, 1) := by decide +kernel
theorem dX6_again_17 : decode cX6_again 17 = .ok (.putfield 60, 3) := by decide +kernel
theorem dX6_again_20 : decode cX6_again 20 = .ok (.aload_n 0, 1) := by decide +kernel
theorem dX6_again_21 : decode cX6_again 21 = .ok (.getfield 19, 3) := by decide +kernel
theorem dX6_again_24 : decode cX6_again 24 = .ok (.aload_n 0, 1) := by decide +kernel
theorem dX6_again_25 : decode cX6_again 25 = .ok (.aload_n 0, 1) := by decide +kernel
theorem dX6_again_26 : decode cX6_again 26 = .ok (.getfield 60, 3) := by decide +kernel
theorem dX6_again_29 : decode cX6_again 29 = .ok (.invokevirtual 218, 3) := by decide +kernel
theorem dX6_again_32 : decode cX6_again 32 = .ok (.invokevirtual 222, 3) := by decide +kernel
theorem dX6_again_35 : decode cX6_again 35 = .ok (.aload_n 0, 1) := by decide +kernel
theorem dX6_again_36 : decode cX6_again 36 = .ok (.getfield 26, 3) := by decide +kernel
theorem dX6_again_39 : decode cX6_again 39 = .ok (.invokevirtual 87, 3) := by decide +kernel
theorem dX6_again_42 : decode cX6_again 42 = .ok (.aload_n 0, 1) := by decide +kernel
theorem dX6_again_43 : decode cX6_again 43 = .ok (.getfield 60, 3) := by decide +kernel
theorem dX6_again_46 : decode cX6_again 46 = .ok (.ireturn, 1) := by decide +kernel
theorem dX6_count_0 : decode cX6_count 0 = .ok (.iload_n 1, 1) := by decide +kernel
theorem dX6_count_1 : decode cX6_count 1 = .ok (.tableswitch 108 0 7 #[47, 55, 63, 71, 79, 84, 92, 100], 47) := by decide +kernel
theorem dX6_count_48 : decode cX6_count 48 = .ok (.aload_n 0, 1) := by decide +kernel
theorem dX6_count_49 : decode cX6_count 49 = .ok (.getfield 53, 3) := by decide +kernel
theorem dX6_count_52 : decode cX6_count 52 = .ok (.invokevirtual 83, 3) := by decide +kernel
theorem dX6_count_55 : decode cX6_count 55 = .ok (.ireturn, 1) := by decide +kernel
theorem dX6_count_56 : decode cX6_count 56 = .ok (.aload_n 0, 1) := by decide +kernel
theorem dX6_count_57 : decode cX6_count 57 = .ok (.getfield 19, 3) := by decide +kernel
theorem dX6_count_60 : decode cX6_count 60 = .ok (.invokevirtual 114, 3) := by decide +kernel
theorem dX6_count_63 : decode cX6_count 63 = .ok (.ireturn, 1) := by decide +kernel
theorem dX6_count_64 : decode cX6_count 64 = .ok (.aload_n 0, 1) := by decide +kernel
theorem dX6_count_65 : decode cX6_count 65 = .ok (.getfield 19, 3) := by decide +kernel
theorem dX6_count_68 : decode cX6_count 68 = .ok (.invokevirtual 139, 3) := by decide +kernel
theorem dX6_count_71 : decode cX6_count 71 = .ok (.ireturn, 1) := by decide +kernel
theorem dX6_count_72 : decode cX6_count 72 = .ok (.aload_n 0, 1) := by decide +kernel
theorem dX6_count_73 : decode cX6_count 73 = .ok (.getfield 26, 3) := by decide +kernel
theorem dX6_count_76 : decode cX6_count 76 = .ok (.invokevirtual 120, 3) := by decide +kernel
theorem dX6_count_79 : decode cX6_count 79 = .ok (.ireturn, 1) := by decide +kernel
theorem dX6_count_80 : decode cX6_count 80 = .ok (.aload_n 0, 1) := by decide +kernel
theorem dX6_count_81 : decode cX6_count 81 = .ok (.getfield 60, 3) := by decide +kernel
theorem dX6_count_84 : decode cX6_count 84 = .ok (.ireturn, 1) := by decide +kernel
theorem dX6_count_85 : decode cX6_count 85 = .ok (.aload_n 0, 1) := by decide +kernel
theorem dX6_count_86 : decode cX6_count 86 = .ok (.getfield 10, 3) := by decide +kernel
theorem dX6_count_89 : decode cX6_count 89 = .ok (.invokevirtual 68, 3) := by decide +kernel
theorem dX6_count_92 : decode cX6_count 92 = .ok (.ireturn, 1) := by decide +kernel
theorem dX6_count_93 : decode cX6_count 93 = .ok (.aload_n 0, 1) := by decide +kernel
theorem dX6_count_94 : decode cX6_count 94 = .ok (.getfield 53, 3) := by decide +kernel
theorem dX6_count_97 : decode cX6_count 97 = .ok (.invokevirtual 130, 3) := by decide +kernel
theorem dX6_count_100 : decode cX6_count 100 = .ok (.ireturn, 1) := by decide +kernel
theorem dX6_count_101 : decode cX6_count 101 = .ok (.aload_n 0, 1) := by decide +kernel
theorem dX6_count_102 : decode cX6_count 102 = .ok (.getfield 53, 3) := by decide +kernel
theorem dX6_count_105 : decode cX6_count 105 = .ok (.invokevirtual 136, 3) := by decide +kernel
theorem dX6_count_108 : decode cX6_count 108 = .ok (.ireturn, 1) := by decide +kernel
theorem dX6_count_109 : decode cX6_count 109 = .ok (.iconst (-1), 1) := by decide +kernel
theorem dX6_count_110 : decode cX6_count 110 = .ok (.ireturn, 1) := by decide +kernel
theorem dX6_isSense_0 : decode cX6_isSense 0 = .ok (.iload_n 0, 1) := by decide +kernel
theorem dX6_isSense_1 : decode cX6_isSense 1 = .ok (.ifCond .lt 13, 3) := by decide +kernel
theorem dX6_isSense_4 : decode cX6_isSense 4 = .ok (.iload_n 0, 1) := by decide +kernel
theorem dX6_isSense_5 : decode cX6_isSense 5 = .ok (.bipush 10, 2) := by decide +kernel
theorem dX6_isSense_7 : decode cX6_isSense 7 = .ok (.if_icmp .ge 7, 3) := by decide +kernel
theorem dX6_isSense_10 : decode cX6_isSense 10 = .ok (.iconst 1, 1) := by decide +kernel
theorem dX6_isSense_11 : decode cX6_isSense 11 = .ok (.goto 4, 3) := by decide +kernel
theorem dX6_isSense_14 : decode cX6_isSense 14 = .ok (.iconst 0, 1) := by decide +kernel
theorem dX6_isSense_15 : decode cX6_isSense 15 = .ok (.ireturn, 1) := by decide +kernel
theorem dX6_isPart_0 : decode cX6_isPart 0 = .ok (.iload_n 0, 1) := by decide +kernel
theorem dX6_isPart_1 : decode cX6_isPart 1 = .ok (.ifCond .eq 8, 3) := by decide +kernel
theorem dX6_isPart_4 : decode cX6_isPart 4 = .ok (.iload_n 0, 1) := by decide +kernel
theorem dX6_isPart_5 : decode cX6_isPart 5 = .ok (.iconst 1, 1) := by decide +kernel
theorem dX6_isPart_6 : decode cX6_isPart 6 = .ok (.if_icmp .ne 7, 3) := by decide +kernel
theorem dX6_isPart_9 : decode cX6_isPart 9 = .ok (.iconst 1, 1) := by decide +kernel
theorem dX6_isPart_10 : decode cX6_isPart 10 = .ok (.goto 4, 3) := by decide +kernel
theorem dX6_isPart_13 : decode cX6_isPart 13 = .ok (.iconst 0, 1) := by decide +kernel
theorem dX6_isPart_14 : decode cX6_isPart 14 = .ok (.ireturn, 1) := by decide +kernel
theorem dX6_turned_0 : decode cX6_turned 0 = .ok (.iload_n 0, 1) := by decide +kernel
theorem dX6_turned_1 : decode cX6_turned 1 = .ok (.ifCond .lt 19, 3) := by decide +kernel
theorem dX6_turned_4 : decode cX6_turned 4 = .ok (.iload_n 0, 1) := by decide +kernel
theorem dX6_turned_5 : decode cX6_turned 5 = .ok (.bipush 6, 2) := by decide +kernel
theorem dX6_turned_7 : decode cX6_turned 7 = .ok (.if_icmp .ge 13, 3) := by decide +kernel
theorem dX6_turned_10 : decode cX6_turned 10 = .ok (.iload_n 1, 1) := by decide +kernel
theorem dX6_turned_11 : decode cX6_turned 11 = .ok (.ifCond .lt 9, 3) := by decide +kernel
theorem dX6_turned_14 : decode cX6_turned 14 = .ok (.iload_n 1, 1) := by decide +kernel
theorem dX6_turned_15 : decode cX6_turned 15 = .ok (.bipush 10, 2) := by decide +kernel
theorem dX6_turned_17 : decode cX6_turned 17 = .ok (.if_icmp .lt 5, 3) := by decide +kernel
theorem dX6_turned_20 : decode cX6_turned 20 = .ok (.iload_n 1, 1) := by decide +kernel
theorem dX6_turned_21 : decode cX6_turned 21 = .ok (.ireturn, 1) := by decide +kernel
theorem dX6_turned_22 : decode cX6_turned 22 = .ok (.getstatic 226, 3) := by decide +kernel
theorem dX6_turned_25 : decode cX6_turned 25 = .ok (.iload_n 0, 1) := by decide +kernel
theorem dX6_turned_26 : decode cX6_turned 26 = .ok (.bipush 10, 2) := by decide +kernel
theorem dX6_turned_28 : decode cX6_turned 28 = .ok (.imul, 1) := by decide +kernel
theorem dX6_turned_29 : decode cX6_turned 29 = .ok (.iload_n 1, 1) := by decide +kernel
theorem dX6_turned_30 : decode cX6_turned 30 = .ok (.iadd, 1) := by decide +kernel
theorem dX6_turned_31 : decode cX6_turned 31 = .ok (.iaload, 1) := by decide +kernel
theorem dX6_turned_32 : decode cX6_turned 32 = .ok (.ireturn, 1) := by decide +kernel
theorem dX6_slipped_0 : decode cX6_slipped 0 = .ok (.iload_n 0, 1) := by decide +kernel
theorem dX6_slipped_1 : decode cX6_slipped 1 = .ok (.bipush 9, 2) := by decide +kernel
theorem dX6_slipped_3 : decode cX6_slipped 3 = .ok (.if_icmp .ne 7, 3) := by decide +kernel
theorem dX6_slipped_6 : decode cX6_slipped 6 = .ok (.iconst 0, 1) := by decide +kernel
theorem dX6_slipped_7 : decode cX6_slipped 7 = .ok (.goto 6, 3) := by decide +kernel
theorem dX6_slipped_10 : decode cX6_slipped 10 = .ok (.iload_n 0, 1) := by decide +kernel
theorem dX6_slipped_11 : decode cX6_slipped 11 = .ok (.iconst 1, 1) := by decide +kernel
theorem dX6_slipped_12 : decode cX6_slipped 12 = .ok (.iadd, 1) := by decide +kernel
theorem dX6_slipped_13 : decode cX6_slipped 13 = .ok (.ireturn, 1) := by decide +kernel
theorem dX6_lowest_0 : decode cX6_lowest 0 = .ok (.lload_n 0, 1) := by decide +kernel
theorem dX6_lowest_1 : decode cX6_lowest 1 = .ok (.lload_n 2, 1) := by decide +kernel
theorem dX6_lowest_2 : decode cX6_lowest 2 = .ok (.invokestatic 230, 3) := by decide +kernel
theorem dX6_lowest_5 : decode cX6_lowest 5 = .ok (.lstore 5, 2) := by decide +kernel
theorem dX6_lowest_7 : decode cX6_lowest 7 = .ok (.iload 4, 2) := by decide +kernel
theorem dX6_lowest_9 : decode cX6_lowest 9 = .ok (.ifCond .ne 7, 3) := by decide +kernel
theorem dX6_lowest_12 : decode cX6_lowest 12 = .ok (.lload_n 0, 1) := by decide +kernel
theorem dX6_lowest_13 : decode cX6_lowest 13 = .ok (.goto 4, 3) := by decide +kernel
theorem dX6_lowest_16 : decode cX6_lowest 16 = .ok (.lload_n 2, 1) := by decide +kernel
theorem dX6_lowest_17 : decode cX6_lowest 17 = .ok (.lstore 7, 2) := by decide +kernel
theorem dX6_lowest_19 : decode cX6_lowest 19 = .ok (.lload 5, 2) := by decide +kernel
theorem dX6_lowest_21 : decode cX6_lowest 21 = .ok (.lconst 0, 1) := by decide +kernel
theorem dX6_lowest_22 : decode cX6_lowest 22 = .ok (.lcmp, 1) := by decide +kernel
theorem dX6_lowest_23 : decode cX6_lowest 23 = .ok (.ifCond .ne 8, 3) := by decide +kernel
theorem dX6_lowest_26 : decode cX6_lowest 26 = .ok (.lload 7, 2) := by decide +kernel
theorem dX6_lowest_28 : decode cX6_lowest 28 = .ok (.goto 8, 3) := by decide +kernel
theorem dX6_lowest_31 : decode cX6_lowest 31 = .ok (.lload 7, 2) := by decide +kernel
theorem dX6_lowest_33 : decode cX6_lowest 33 = .ok (.lload 5, 2) := by decide +kernel
theorem dX6_lowest_35 : decode cX6_lowest 35 = .ok (.ldiv, 1) := by decide +kernel
theorem dX6_lowest_36 : decode cX6_lowest 36 = .ok (.lreturn, 1) := by decide +kernel
theorem dX6_sharedDivisor_0 : decode cX6_sharedDivisor 0 = .ok (.lload_n 0, 1) := by decide +kernel
theorem dX6_sharedDivisor_1 : decode cX6_sharedDivisor 1 = .ok (.lstore 4, 2) := by decide +kernel
theorem dX6_sharedDivisor_3 : decode cX6_sharedDivisor 3 = .ok (.lload_n 2, 1) := by decide +kernel
theorem dX6_sharedDivisor_4 : decode cX6_sharedDivisor 4 = .ok (.lstore 6, 2) := by decide +kernel
theorem dX6_sharedDivisor_6 : decode cX6_sharedDivisor 6 = .ok (.iconst 0, 1) := by decide +kernel
theorem dX6_sharedDivisor_7 : decode cX6_sharedDivisor 7 = .ok (.istore 8, 2) := by decide +kernel
theorem dX6_sharedDivisor_9 : decode cX6_sharedDivisor 9 = .ok (.iload 8, 2) := by decide +kernel
theorem dX6_sharedDivisor_11 : decode cX6_sharedDivisor 11 = .ok (.bipush 100, 2) := by decide +kernel
theorem dX6_sharedDivisor_13 : decode cX6_sharedDivisor 13 = .ok (.if_icmp .ge 31, 3) := by decide +kernel
theorem dX6_sharedDivisor_16 : decode cX6_sharedDivisor 16 = .ok (.lload 6, 2) := by decide +kernel
theorem dX6_sharedDivisor_18 : decode cX6_sharedDivisor 18 = .ok (.lconst 0, 1) := by decide +kernel
theorem dX6_sharedDivisor_19 : decode cX6_sharedDivisor 19 = .ok (.lcmp, 1) := by decide +kernel
theorem dX6_sharedDivisor_20 : decode cX6_sharedDivisor 20 = .ok (.ifCond .eq 24, 3) := by decide +kernel
theorem dX6_sharedDivisor_23 : decode cX6_sharedDivisor 23 = .ok (.lload 4, 2) := by decide +kernel
theorem dX6_sharedDivisor_25 : decode cX6_sharedDivisor 25 = .ok (.lload 6, 2) := by decide +kernel
theorem dX6_sharedDivisor_27 : decode cX6_sharedDivisor 27 = .ok (.lrem, 1) := by decide +kernel
theorem dX6_sharedDivisor_28 : decode cX6_sharedDivisor 28 = .ok (.lstore 9, 2) := by decide +kernel
theorem dX6_sharedDivisor_30 : decode cX6_sharedDivisor 30 = .ok (.lload 6, 2) := by decide +kernel
theorem dX6_sharedDivisor_32 : decode cX6_sharedDivisor 32 = .ok (.lstore 4, 2) := by decide +kernel
theorem dX6_sharedDivisor_34 : decode cX6_sharedDivisor 34 = .ok (.lload 9, 2) := by decide +kernel
theorem dX6_sharedDivisor_36 : decode cX6_sharedDivisor 36 = .ok (.lstore 6, 2) := by decide +kernel
theorem dX6_sharedDivisor_38 : decode cX6_sharedDivisor 38 = .ok (.iinc 8 1, 3) := by decide +kernel
theorem dX6_sharedDivisor_41 : decode cX6_sharedDivisor 41 = .ok (.goto (-32), 3) := by decide +kernel
theorem dX6_sharedDivisor_44 : decode cX6_sharedDivisor 44 = .ok (.lload 4, 2) := by decide +kernel
theorem dX6_sharedDivisor_46 : decode cX6_sharedDivisor 46 = .ok (.lreturn, 1) := by decide +kernel
theorem dX6_keptAt_0 : decode cX6_keptAt 0 = .ok (.iload_n 1, 1) := by decide +kernel
theorem dX6_keptAt_1 : decode cX6_keptAt 1 = .ok (.ifCond .ne 10, 3) := by decide +kernel
theorem dX6_keptAt_4 : decode cX6_keptAt 4 = .ok (.aload_n 0, 1) := by decide +kernel
theorem dX6_keptAt_5 : decode cX6_keptAt 5 = .ok (.getfield 30, 3) := by decide +kernel
theorem dX6_keptAt_8 : decode cX6_keptAt 8 = .ok (.goto 7, 3) := by decide +kernel
theorem dX6_keptAt_11 : decode cX6_keptAt 11 = .ok (.aload_n 0, 1) := by decide +kernel
theorem dX6_keptAt_12 : decode cX6_keptAt 12 = .ok (.getfield 33, 3) := by decide +kernel
theorem dX6_keptAt_15 : decode cX6_keptAt 15 = .ok (.areturn, 1) := by decide +kernel
theorem dX6_carried_0 : decode cX6_carried 0 = .ok (.iload_n 1, 1) := by decide +kernel
theorem dX6_carried_1 : decode cX6_carried 1 = .ok (.istore 4, 2) := by decide +kernel
theorem dX6_carried_3 : decode cX6_carried 3 = .ok (.iconst 0, 1) := by decide +kernel
theorem dX6_carried_4 : decode cX6_carried 4 = .ok (.istore 5, 2) := by decide +kernel
theorem dX6_carried_6 : decode cX6_carried 6 = .ok (.iload 5, 2) := by decide +kernel
theorem dX6_carried_8 : decode cX6_carried 8 = .ok (.iload_n 2, 1) := by decide +kernel
theorem dX6_carried_9 : decode cX6_carried 9 = .ok (.if_icmp .ge 74, 3) := by decide +kernel
theorem dX6_carried_12 : decode cX6_carried 12 = .ok (.iload 5, 2) := by decide +kernel
theorem dX6_carried_14 : decode cX6_carried 14 = .ok (.aload_n 0, 1) := by decide +kernel
theorem dX6_carried_15 : decode cX6_carried 15 = .ok (.getfield 19, 3) := by decide +kernel
theorem dX6_carried_18 : decode cX6_carried 18 = .ok (.invokevirtual 114, 3) := by decide +kernel
theorem dX6_carried_21 : decode cX6_carried 21 = .ok (.if_icmp .ge 62, 3) := by decide +kernel
theorem dX6_carried_24 : decode cX6_carried 24 = .ok (.aload_n 0, 1) := by decide +kernel
theorem dX6_carried_25 : decode cX6_carried 25 = .ok (.getfield 19, 3) := by decide +kernel
theorem dX6_carried_28 : decode cX6_carried 28 = .ok (.iload 5, 2) := by decide +kernel
theorem dX6_carried_30 : decode cX6_carried 30 = .ok (.invokevirtual 126, 3) := by decide +kernel
theorem dX6_carried_33 : decode cX6_carried 33 = .ok (.istore 6, 2) := by decide +kernel
theorem dX6_carried_35 : decode cX6_carried 35 = .ok (.iload_n 3, 1) := by decide +kernel
theorem dX6_carried_36 : decode cX6_carried 36 = .ok (.iload 6, 2) := by decide +kernel
theorem dX6_carried_38 : decode cX6_carried 38 = .ok (.ishr, 1) := by decide +kernel
theorem dX6_carried_39 : decode cX6_carried 39 = .ok (.iconst 1, 1) := by decide +kernel
theorem dX6_carried_40 : decode cX6_carried 40 = .ok (.iand, 1) := by decide +kernel
theorem dX6_carried_41 : decode cX6_carried 41 = .ok (.ifCond .eq 7, 3) := by decide +kernel
theorem dX6_carried_44 : decode cX6_carried 44 = .ok (.iconst 1, 1) := by decide +kernel
theorem dX6_carried_45 : decode cX6_carried 45 = .ok (.goto 4, 3) := by decide +kernel
theorem dX6_carried_48 : decode cX6_carried 48 = .ok (.iconst 0, 1) := by decide +kernel
theorem dX6_carried_49 : decode cX6_carried 49 = .ok (.istore 7, 2) := by decide +kernel
theorem dX6_carried_51 : decode cX6_carried 51 = .ok (.iload 7, 2) := by decide +kernel
theorem dX6_carried_53 : decode cX6_carried 53 = .ok (.ifCond .eq 7, 3) := by decide +kernel
theorem dX6_carried_56 : decode cX6_carried 56 = .ok (.iconst 4, 1) := by decide +kernel
theorem dX6_carried_57 : decode cX6_carried 57 = .ok (.goto 13, 3) := by decide +kernel
theorem dX6_carried_60 : decode cX6_carried 60 = .ok (.aload_n 0, 1) := by decide +kernel
theorem dX6_carried_61 : decode cX6_carried 61 = .ok (.getfield 53, 3) := by decide +kernel
theorem dX6_carried_64 : decode cX6_carried 64 = .ok (.iload 6, 2) := by decide +kernel
theorem dX6_carried_66 : decode cX6_carried 66 = .ok (.iconst 2, 1) := by decide +kernel
theorem dX6_carried_67 : decode cX6_carried 67 = .ok (.invokevirtual 91, 3) := by decide +kernel
theorem dX6_carried_70 : decode cX6_carried 70 = .ok (.iload 4, 2) := by decide +kernel
theorem dX6_carried_72 : decode cX6_carried 72 = .ok (.invokestatic 99, 3) := by decide +kernel
theorem dX6_carried_75 : decode cX6_carried 75 = .ok (.istore 4, 2) := by decide +kernel
theorem dX6_carried_77 : decode cX6_carried 77 = .ok (.iinc 5 1, 3) := by decide +kernel
theorem dX6_carried_80 : decode cX6_carried 80 = .ok (.goto (-74), 3) := by decide +kernel
theorem dX6_carried_83 : decode cX6_carried 83 = .ok (.iload 4, 2) := by decide +kernel
theorem dX6_carried_85 : decode cX6_carried 85 = .ok (.ireturn, 1) := by decide +kernel
theorem dX6_weighSeat_0 : decode cX6_weighSeat 0 = .ok (.aload_n 0, 1) := by decide +kernel
theorem dX6_weighSeat_1 : decode cX6_weighSeat 1 = .ok (.getfield 19, 3) := by decide +kernel
theorem dX6_weighSeat_4 : decode cX6_weighSeat 4 = .ok (.iload_n 1, 1) := by decide +kernel
theorem dX6_weighSeat_5 : decode cX6_weighSeat 5 = .ok (.invokevirtual 126, 3) := by decide +kernel
theorem dX6_weighSeat_8 : decode cX6_weighSeat 8 = .ok (.istore_n 2, 1) := by decide +kernel
theorem dX6_weighSeat_9 : decode cX6_weighSeat 9 = .ok (.aload_n 0, 1) := by decide +kernel
theorem dX6_weighSeat_10 : decode cX6_weighSeat 10 = .ok (.getfield 39, 3) := by decide +kernel
theorem dX6_weighSeat_13 : decode cX6_weighSeat 13 = .ok (.aload_n 0, 1) := by decide +kernel
theorem dX6_weighSeat_14 : decode cX6_weighSeat 14 = .ok (.getfield 53, 3) := by decide +kernel
theorem dX6_weighSeat_17 : decode cX6_weighSeat 17 = .ok (.iload_n 2, 1) := by decide +kernel
theorem dX6_weighSeat_18 : decode cX6_weighSeat 18 = .ok (.iconst 2, 1) := by decide +kernel
theorem dX6_weighSeat_19 : decode cX6_weighSeat 19 = .ok (.invokevirtual 91, 3) := by decide +kernel
theorem dX6_weighSeat_22 : decode cX6_weighSeat 22 = .ok (.aload_n 0, 1) := by decide +kernel
theorem dX6_weighSeat_23 : decode cX6_weighSeat 23 = .ok (.getfield 53, 3) := by decide +kernel
theorem dX6_weighSeat_26 : decode cX6_weighSeat 26 = .ok (.iload_n 2, 1) := by decide +kernel
theorem dX6_weighSeat_27 : decode cX6_weighSeat 27 = .ok (.iconst 3, 1) := by decide +kernel
theorem dX6_weighSeat_28 : decode cX6_weighSeat 28 = .ok (.invokevirtual 91, 3) := by decide +kernel
theorem dX6_weighSeat_31 : decode cX6_weighSeat 31 = .ok (.invokevirtual 234, 3) := by decide +kernel
theorem dX6_weighSeat_34 : decode cX6_weighSeat 34 = .ok (.return_, 1) := by decide +kernel
theorem dX6_weighForth_0 : decode cX6_weighForth 0 = .ok (.aload_n 0, 1) := by decide +kernel
theorem dX6_weighForth_1 : decode cX6_weighForth 1 = .ok (.iconst 0, 1) := by decide +kernel
theorem dX6_weighForth_2 : decode cX6_weighForth 2 = .ok (.iconst 0, 1) := by decide +kernel
theorem dX6_weighForth_3 : decode cX6_weighForth 3 = .ok (.invokevirtual 201, 3) := by decide +kernel
theorem dX6_weighForth_6 : decode cX6_weighForth 6 = .ok (.return_, 1) := by decide +kernel
theorem dX6_weighPassing_0 : decode cX6_weighPassing 0 = .ok (.aload_n 0, 1) := by decide +kernel
theorem dX6_weighPassing_1 : decode cX6_weighPassing 1 = .ok (.getfield 39, 3) := by decide +kernel
theorem dX6_weighPassing_4 : decode cX6_weighPassing 4 = .ok (.invokevirtual 237, 3) := by decide +kernel
theorem dX6_weighPassing_7 : decode cX6_weighPassing 7 = .ok (.iconst 0, 1) := by decide +kernel
theorem dX6_weighPassing_8 : decode cX6_weighPassing 8 = .ok (.istore_n 3, 1) := by decide +kernel
theorem dX6_weighPassing_9 : decode cX6_weighPassing 9 = .ok (.iload_n 3, 1) := by decide +kernel
theorem dX6_weighPassing_10 : decode cX6_weighPassing 10 = .ok (.aload_n 0, 1) := by decide +kernel
theorem dX6_weighPassing_11 : decode cX6_weighPassing 11 = .ok (.getfield 19, 3) := by decide +kernel
theorem dX6_weighPassing_14 : decode cX6_weighPassing 14 = .ok (.invokevirtual 114, 3) := by decide +kernel
theorem dX6_weighPassing_17 : decode cX6_weighPassing 17 = .ok (.if_icmp .ge 26, 3) := by decide +kernel
theorem dX6_weighPassing_20 : decode cX6_weighPassing 20 = .ok (.iload_n 3, 1) := by decide +kernel
theorem dX6_weighPassing_21 : decode cX6_weighPassing 21 = .ok (.iload_n 1, 1) := by decide +kernel
theorem dX6_weighPassing_22 : decode cX6_weighPassing 22 = .ok (.if_icmp .lt 10, 3) := by decide +kernel
theorem dX6_weighPassing_25 : decode cX6_weighPassing 25 = .ok (.iload_n 3, 1) := by decide +kernel
theorem dX6_weighPassing_26 : decode cX6_weighPassing 26 = .ok (.iload_n 1, 1) := by decide +kernel
theorem dX6_weighPassing_27 : decode cX6_weighPassing 27 = .ok (.iload_n 2, 1) := by decide +kernel
theorem dX6_weighPassing_28 : decode cX6_weighPassing 28 = .ok (.iadd, 1) := by decide +kernel
theorem dX6_weighPassing_29 : decode cX6_weighPassing 29 = .ok (.if_icmp .lt 8, 3) := by decide +kernel
theorem dX6_weighPassing_32 : decode cX6_weighPassing 32 = .ok (.aload_n 0, 1) := by decide +kernel
theorem dX6_weighPassing_33 : decode cX6_weighPassing 33 = .ok (.iload_n 3, 1) := by decide +kernel
theorem dX6_weighPassing_34 : decode cX6_weighPassing 34 = .ok (.invokevirtual 179, 3) := by decide +kernel
theorem dX6_weighPassing_37 : decode cX6_weighPassing 37 = .ok (.iinc 3 1, 3) := by decide +kernel
theorem dX6_weighPassing_40 : decode cX6_weighPassing 40 = .ok (.goto (-31), 3) := by decide +kernel
theorem dX6_weighPassing_43 : decode cX6_weighPassing 43 = .ok (.return_, 1) := by decide +kernel
theorem dX6_bestToPass_0 : decode cX6_bestToPass 0 = .ok (.iconst 0, 1) := by decide +kernel
theorem dX6_bestToPass_1 : decode cX6_bestToPass 1 = .ok (.istore_n 2, 1) := by decide +kernel
theorem dX6_bestToPass_2 : decode cX6_bestToPass 2 = .ok (.ldc2_w 177, 3) := by decide +kernel
theorem dX6_bestToPass_5 : decode cX6_bestToPass 5 = .ok (.lstore_n 3, 1) := by decide +kernel
theorem dX6_bestToPass_6 : decode cX6_bestToPass 6 = .ok (.iconst 0, 1) := by decide +kernel
theorem dX6_bestToPass_7 : decode cX6_bestToPass 7 = .ok (.istore 5, 2) := by decide +kernel
theorem dX6_bestToPass_9 : decode cX6_bestToPass 9 = .ok (.iload 5, 2) := by decide +kernel
theorem dX6_bestToPass_11 : decode cX6_bestToPass 11 = .ok (.iload_n 1, 1) := by decide +kernel
theorem dX6_bestToPass_12 : decode cX6_bestToPass 12 = .ok (.iadd, 1) := by decide +kernel
theorem dX6_bestToPass_13 : decode cX6_bestToPass 13 = .ok (.aload_n 0, 1) := by decide +kernel
theorem dX6_bestToPass_14 : decode cX6_bestToPass 14 = .ok (.getfield 19, 3) := by decide +kernel
theorem dX6_bestToPass_17 : decode cX6_bestToPass 17 = .ok (.invokevirtual 114, 3) := by decide +kernel
theorem dX6_bestToPass_20 : decode cX6_bestToPass 20 = .ok (.if_icmp .gt 39, 3) := by decide +kernel
theorem dX6_bestToPass_23 : decode cX6_bestToPass 23 = .ok (.aload_n 0, 1) := by decide +kernel
theorem dX6_bestToPass_24 : decode cX6_bestToPass 24 = .ok (.iload 5, 2) := by decide +kernel
theorem dX6_bestToPass_26 : decode cX6_bestToPass 26 = .ok (.iload_n 1, 1) := by decide +kernel
theorem dX6_bestToPass_27 : decode cX6_bestToPass 27 = .ok (.invokevirtual 201, 3) := by decide +kernel
theorem dX6_bestToPass_30 : decode cX6_bestToPass 30 = .ok (.aload_n 0, 1) := by decide +kernel
theorem dX6_bestToPass_31 : decode cX6_bestToPass 31 = .ok (.getfield 39, 3) := by decide +kernel
theorem dX6_bestToPass_34 : decode cX6_bestToPass 34 = .ok (.invokevirtual 205, 3) := by decide +kernel
theorem dX6_bestToPass_37 : decode cX6_bestToPass 37 = .ok (.lload_n 3, 1) := by decide +kernel
theorem dX6_bestToPass_38 : decode cX6_bestToPass 38 = .ok (.lcmp, 1) := by decide +kernel
theorem dX6_bestToPass_39 : decode cX6_bestToPass 39 = .ok (.ifCond .le 14, 3) := by decide +kernel
theorem dX6_bestToPass_42 : decode cX6_bestToPass 42 = .ok (.aload_n 0, 1) := by decide +kernel
theorem dX6_bestToPass_43 : decode cX6_bestToPass 43 = .ok (.getfield 39, 3) := by decide +kernel
theorem dX6_bestToPass_46 : decode cX6_bestToPass 46 = .ok (.invokevirtual 205, 3) := by decide +kernel
theorem dX6_bestToPass_49 : decode cX6_bestToPass 49 = .ok (.lstore_n 3, 1) := by decide +kernel
theorem dX6_bestToPass_50 : decode cX6_bestToPass 50 = .ok (.iload 5, 2) := by decide +kernel
theorem dX6_bestToPass_52 : decode cX6_bestToPass 52 = .ok (.istore_n 2, 1) := by decide +kernel
theorem dX6_bestToPass_53 : decode cX6_bestToPass 53 = .ok (.iinc 5 1, 3) := by decide +kernel
theorem dX6_bestToPass_56 : decode cX6_bestToPass 56 = .ok (.goto (-47), 3) := by decide +kernel
theorem dX6_bestToPass_59 : decode cX6_bestToPass 59 = .ok (.iload_n 2, 1) := by decide +kernel
theorem dX6_bestToPass_60 : decode cX6_bestToPass 60 = .ok (.ireturn, 1) := by decide +kernel
theorem dX6_leastBribes_0 : decode cX6_leastBribes 0 = .ok (.aload_n 0, 1) := by decide +kernel
theorem dX6_leastBribes_1 : decode cX6_leastBribes 1 = .ok (.getfield 19, 3) := by decide +kernel
theorem dX6_leastBribes_4 : decode cX6_leastBribes 4 = .ok (.invokevirtual 238, 3) := by decide +kernel
theorem dX6_leastBribes_7 : decode cX6_leastBribes 7 = .ok (.istore_n 1, 1) := by decide +kernel
theorem dX6_leastBribes_8 : decode cX6_leastBribes 8 = .ok (.bipush (-4), 2) := by decide +kernel
theorem dX6_leastBribes_10 : decode cX6_leastBribes 10 = .ok (.istore_n 2, 1) := by decide +kernel
theorem dX6_leastBribes_11 : decode cX6_leastBribes 11 = .ok (.iconst 0, 1) := by decide +kernel
theorem dX6_leastBribes_12 : decode cX6_leastBribes 12 = .ok (.istore_n 3, 1) := by decide +kernel
theorem dX6_leastBribes_13 : decode cX6_leastBribes 13 = .ok (.iload_n 3, 1) := by decide +kernel
theorem dX6_leastBribes_14 : decode cX6_leastBribes 14 = .ok (.sipush 128, 3) := by decide +kernel
theorem dX6_leastBribes_17 : decode cX6_leastBribes 17 = .ok (.if_icmp .ge 57, 3) := by decide +kernel
theorem dX6_leastBribes_20 : decode cX6_leastBribes 20 = .ok (.iload_n 3, 1) := by decide +kernel
theorem dX6_leastBribes_21 : decode cX6_leastBribes 21 = .ok (.iload_n 1, 1) := by decide +kernel
theorem dX6_leastBribes_22 : decode cX6_leastBribes 22 = .ok (.iconst (-1), 1) := by decide +kernel
theorem dX6_leastBribes_23 : decode cX6_leastBribes 23 = .ok (.ixor, 1) := by decide +kernel
theorem dX6_leastBribes_24 : decode cX6_leastBribes 24 = .ok (.iand, 1) := by decide +kernel
theorem dX6_leastBribes_25 : decode cX6_leastBribes 25 = .ok (.ifCond .eq 6, 3) := by decide +kernel
theorem dX6_leastBribes_28 : decode cX6_leastBribes 28 = .ok (.goto 40, 3) := by decide +kernel
theorem dX6_leastBribes_31 : decode cX6_leastBribes 31 = .ok (.aload_n 0, 1) := by decide +kernel
theorem dX6_leastBribes_32 : decode cX6_leastBribes 32 = .ok (.iconst 2, 1) := by decide +kernel
theorem dX6_leastBribes_33 : decode cX6_leastBribes 33 = .ok (.aload_n 0, 1) := by decide +kernel
theorem dX6_leastBribes_34 : decode cX6_leastBribes 34 = .ok (.getfield 19, 3) := by decide +kernel
theorem dX6_leastBribes_37 : decode cX6_leastBribes 37 = .ok (.invokevirtual 114, 3) := by decide +kernel
theorem dX6_leastBribes_40 : decode cX6_leastBribes 40 = .ok (.iload_n 3, 1) := by decide +kernel
theorem dX6_leastBribes_41 : decode cX6_leastBribes 41 = .ok (.invokevirtual 151, 3) := by decide +kernel
theorem dX6_leastBribes_44 : decode cX6_leastBribes 44 = .ok (.iconst 1, 1) := by decide +kernel
theorem dX6_leastBribes_45 : decode cX6_leastBribes 45 = .ok (.if_icmp .eq 6, 3) := by decide +kernel
theorem dX6_leastBribes_48 : decode cX6_leastBribes 48 = .ok (.goto 20, 3) := by decide +kernel
theorem dX6_leastBribes_51 : decode cX6_leastBribes 51 = .ok (.iload_n 2, 1) := by decide +kernel
theorem dX6_leastBribes_52 : decode cX6_leastBribes 52 = .ok (.bipush (-4), 2) := by decide +kernel
theorem dX6_leastBribes_54 : decode cX6_leastBribes 54 = .ok (.if_icmp .eq 12, 3) := by decide +kernel
theorem dX6_leastBribes_57 : decode cX6_leastBribes 57 = .ok (.aload_n 0, 1) := by decide +kernel
theorem dX6_leastBribes_58 : decode cX6_leastBribes 58 = .ok (.iload_n 3, 1) := by decide +kernel
theorem dX6_leastBribes_59 : decode cX6_leastBribes 59 = .ok (.iload_n 2, 1) := by decide +kernel
theorem dX6_leastBribes_60 : decode cX6_leastBribes 60 = .ok (.invokevirtual 241, 3) := by decide +kernel
theorem dX6_leastBribes_63 : decode cX6_leastBribes 63 = .ok (.ifCond .eq 5, 3) := by decide +kernel
theorem dX6_leastBribes_66 : decode cX6_leastBribes 66 = .ok (.iload_n 3, 1) := by decide +kernel
theorem dX6_leastBribes_67 : decode cX6_leastBribes 67 = .ok (.istore_n 2, 1) := by decide +kernel
theorem dX6_leastBribes_68 : decode cX6_leastBribes 68 = .ok (.iinc 3 1, 3) := by decide +kernel
theorem dX6_leastBribes_71 : decode cX6_leastBribes 71 = .ok (.goto (-58), 3) := by decide +kernel
theorem dX6_leastBribes_74 : decode cX6_leastBribes 74 = .ok (.iload_n 2, 1) := by decide +kernel
theorem dX6_leastBribes_75 : decode cX6_leastBribes 75 = .ok (.ireturn, 1) := by decide +kernel
theorem dX6_isCheaper_0 : decode cX6_isCheaper 0 = .ok (.aload_n 0, 1) := by decide +kernel
theorem dX6_isCheaper_1 : decode cX6_isCheaper 1 = .ok (.iload_n 1, 1) := by decide +kernel
theorem dX6_isCheaper_2 : decode cX6_isCheaper 2 = .ok (.invokevirtual 195, 3) := by decide +kernel
theorem dX6_isCheaper_5 : decode cX6_isCheaper 5 = .ok (.aload_n 0, 1) := by decide +kernel
theorem dX6_isCheaper_6 : decode cX6_isCheaper 6 = .ok (.iload_n 2, 1) := by decide +kernel
theorem dX6_isCheaper_7 : decode cX6_isCheaper 7 = .ok (.invokevirtual 195, 3) := by decide +kernel
theorem dX6_isCheaper_10 : decode cX6_isCheaper 10 = .ok (.isub, 1) := by decide +kernel
theorem dX6_isCheaper_11 : decode cX6_isCheaper 11 = .ok (.istore_n 3, 1) := by decide +kernel
theorem dX6_isCheaper_12 : decode cX6_isCheaper 12 = .ok (.iload_n 3, 1) := by decide +kernel
theorem dX6_isCheaper_13 : decode cX6_isCheaper 13 = .ok (.ifCond .eq 13, 3) := by decide +kernel
theorem dX6_isCheaper_16 : decode cX6_isCheaper 16 = .ok (.iload_n 3, 1) := by decide +kernel
theorem dX6_isCheaper_17 : decode cX6_isCheaper 17 = .ok (.ifCond .ge 7, 3) := by decide +kernel
theorem dX6_isCheaper_20 : decode cX6_isCheaper 20 = .ok (.iconst 1, 1) := by decide +kernel
theorem dX6_isCheaper_21 : decode cX6_isCheaper 21 = .ok (.goto 4, 3) := by decide +kernel
theorem dX6_isCheaper_24 : decode cX6_isCheaper 24 = .ok (.iconst 0, 1) := by decide +kernel
theorem dX6_isCheaper_25 : decode cX6_isCheaper 25 = .ok (.ireturn, 1) := by decide +kernel
theorem dX6_isCheaper_26 : decode cX6_isCheaper 26 = .ok (.iload_n 1, 1) := by decide +kernel
theorem dX6_isCheaper_27 : decode cX6_isCheaper 27 = .ok (.invokestatic 245, 3) := by decide +kernel
theorem dX6_isCheaper_30 : decode cX6_isCheaper 30 = .ok (.iload_n 2, 1) := by decide +kernel
theorem dX6_isCheaper_31 : decode cX6_isCheaper 31 = .ok (.invokestatic 245, 3) := by decide +kernel
theorem dX6_isCheaper_34 : decode cX6_isCheaper 34 = .ok (.if_icmp .ge 7, 3) := by decide +kernel
theorem dX6_isCheaper_37 : decode cX6_isCheaper 37 = .ok (.iconst 1, 1) := by decide +kernel
theorem dX6_isCheaper_38 : decode cX6_isCheaper 38 = .ok (.goto 4, 3) := by decide +kernel
theorem dX6_isCheaper_41 : decode cX6_isCheaper 41 = .ok (.iconst 0, 1) := by decide +kernel
theorem dX6_isCheaper_42 : decode cX6_isCheaper 42 = .ok (.ireturn, 1) := by decide +kernel
theorem dX6_priceOf_0 : decode cX6_priceOf 0 = .ok (.iconst 0, 1) := by decide +kernel
theorem dX6_priceOf_1 : decode cX6_priceOf 1 = .ok (.istore_n 2, 1) := by decide +kernel
theorem dX6_priceOf_2 : decode cX6_priceOf 2 = .ok (.iconst 0, 1) := by decide +kernel
theorem dX6_priceOf_3 : decode cX6_priceOf 3 = .ok (.istore_n 3, 1) := by decide +kernel
theorem dX6_priceOf_4 : decode cX6_priceOf 4 = .ok (.iload_n 3, 1) := by decide +kernel
theorem dX6_priceOf_5 : decode cX6_priceOf 5 = .ok (.aload_n 0, 1) := by decide +kernel
theorem dX6_priceOf_6 : decode cX6_priceOf 6 = .ok (.getfield 53, 3) := by decide +kernel
theorem dX6_priceOf_9 : decode cX6_priceOf 9 = .ok (.invokevirtual 83, 3) := by decide +kernel
theorem dX6_priceOf_12 : decode cX6_priceOf 12 = .ok (.if_icmp .ge 29, 3) := by decide +kernel
theorem dX6_priceOf_15 : decode cX6_priceOf 15 = .ok (.iload_n 1, 1) := by decide +kernel
theorem dX6_priceOf_16 : decode cX6_priceOf 16 = .ok (.iload_n 3, 1) := by decide +kernel
theorem dX6_priceOf_17 : decode cX6_priceOf 17 = .ok (.ishr, 1) := by decide +kernel
theorem dX6_priceOf_18 : decode cX6_priceOf 18 = .ok (.iconst 1, 1) := by decide +kernel
theorem dX6_priceOf_19 : decode cX6_priceOf 19 = .ok (.iand, 1) := by decide +kernel
theorem dX6_priceOf_20 : decode cX6_priceOf 20 = .ok (.ifCond .eq 15, 3) := by decide +kernel
theorem dX6_priceOf_23 : decode cX6_priceOf 23 = .ok (.iload_n 2, 1) := by decide +kernel
theorem dX6_priceOf_24 : decode cX6_priceOf 24 = .ok (.aload_n 0, 1) := by decide +kernel
theorem dX6_priceOf_25 : decode cX6_priceOf 25 = .ok (.getfield 53, 3) := by decide +kernel
theorem dX6_priceOf_28 : decode cX6_priceOf 28 = .ok (.iload_n 3, 1) := by decide +kernel
theorem dX6_priceOf_29 : decode cX6_priceOf 29 = .ok (.iconst 4, 1) := by decide +kernel
theorem dX6_priceOf_30 : decode cX6_priceOf 30 = .ok (.invokevirtual 91, 3) := by decide +kernel
theorem dX6_priceOf_33 : decode cX6_priceOf 33 = .ok (.iadd, 1) := by decide +kernel
theorem dX6_priceOf_34 : decode cX6_priceOf 34 = .ok (.istore_n 2, 1) := by decide +kernel
theorem dX6_priceOf_35 : decode cX6_priceOf 35 = .ok (.iinc 3 1, 3) := by decide +kernel
theorem dX6_priceOf_38 : decode cX6_priceOf 38 = .ok (.goto (-34), 3) := by decide +kernel
theorem dX6_priceOf_41 : decode cX6_priceOf 41 = .ok (.iload_n 2, 1) := by decide +kernel
theorem dX6_priceOf_42 : decode cX6_priceOf 42 = .ok (.ireturn, 1) := by decide +kernel
theorem dX6_tried_0 : decode cX6_tried 0 = .ok (.aload_n 0, 1) := by decide +kernel
theorem dX6_tried_1 : decode cX6_tried 1 = .ok (.getfield 19, 3) := by decide +kernel
theorem dX6_tried_4 : decode cX6_tried 4 = .ok (.iload_n 2, 1) := by decide +kernel
theorem dX6_tried_5 : decode cX6_tried 5 = .ok (.invokevirtual 148, 3) := by decide +kernel
theorem dX6_tried_8 : decode cX6_tried 8 = .ok (.istore_n 3, 1) := by decide +kernel
theorem dX6_tried_9 : decode cX6_tried 9 = .ok (.iconst 0, 1) := by decide +kernel
theorem dX6_tried_10 : decode cX6_tried 10 = .ok (.istore 4, 2) := by decide +kernel
theorem dX6_tried_12 : decode cX6_tried 12 = .ok (.iload 4, 2) := by decide +kernel
theorem dX6_tried_14 : decode cX6_tried 14 = .ok (.aload_n 0, 1) := by decide +kernel
theorem dX6_tried_15 : decode cX6_tried 15 = .ok (.getfield 19, 3) := by decide +kernel
theorem dX6_tried_18 : decode cX6_tried 18 = .ok (.invokevirtual 114, 3) := by decide +kernel
theorem dX6_tried_21 : decode cX6_tried 21 = .ok (.if_icmp .ge 60, 3) := by decide +kernel
theorem dX6_tried_24 : decode cX6_tried 24 = .ok (.aload_n 0, 1) := by decide +kernel
theorem dX6_tried_25 : decode cX6_tried 25 = .ok (.getfield 19, 3) := by decide +kernel
theorem dX6_tried_28 : decode cX6_tried 28 = .ok (.iload 4, 2) := by decide +kernel
theorem dX6_tried_30 : decode cX6_tried 30 = .ok (.invokevirtual 126, 3) := by decide +kernel
theorem dX6_tried_33 : decode cX6_tried 33 = .ok (.istore 5, 2) := by decide +kernel
theorem dX6_tried_35 : decode cX6_tried 35 = .ok (.aload_n 0, 1) := by decide +kernel
theorem dX6_tried_36 : decode cX6_tried 36 = .ok (.getfield 53, 3) := by decide +kernel
theorem dX6_tried_39 : decode cX6_tried 39 = .ok (.iload 5, 2) := by decide +kernel
theorem dX6_tried_41 : decode cX6_tried 41 = .ok (.iconst 2, 1) := by decide +kernel
theorem dX6_tried_42 : decode cX6_tried 42 = .ok (.invokevirtual 91, 3) := by decide +kernel
theorem dX6_tried_45 : decode cX6_tried 45 = .ok (.iload_n 3, 1) := by decide +kernel
theorem dX6_tried_46 : decode cX6_tried 46 = .ok (.invokestatic 99, 3) := by decide +kernel
