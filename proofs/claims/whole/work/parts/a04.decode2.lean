theorem dX2_above_15 : decode cX2_above 15 = .ok (.getfield 9, 3) := by decide +kernel
theorem dX2_above_18 : decode cX2_above 18 = .ok (.iload_n 2, 1) := by decide +kernel
theorem dX2_above_19 : decode cX2_above 19 = .ok (.bipush 10, 2) := by decide +kernel
theorem dX2_above_21 : decode cX2_above 21 = .ok (.imul, 1) := by decide +kernel
theorem dX2_above_22 : decode cX2_above 22 = .ok (.iload_n 1, 1) := by decide +kernel
theorem dX2_above_23 : decode cX2_above 23 = .ok (.iadd, 1) := by decide +kernel
theorem dX2_above_24 : decode cX2_above 24 = .ok (.laload, 1) := by decide +kernel
theorem dX2_above_25 : decode cX2_above 25 = .ok (.goto 4, 3) := by decide +kernel
theorem dX2_above_28 : decode cX2_above 28 = .ok (.lconst 0, 1) := by decide +kernel
theorem dX2_above_29 : decode cX2_above 29 = .ok (.lreturn, 1) := by decide +kernel
theorem dX2_below_0 : decode cX2_below 0 = .ok (.aload_n 0, 1) := by decide +kernel
theorem dX2_below_1 : decode cX2_below 1 = .ok (.getfield 18, 3) := by decide +kernel
theorem dX2_below_4 : decode cX2_below 4 = .ok (.lreturn, 1) := by decide +kernel
theorem dX2_reaching_0 : decode cX2_reaching 0 = .ok (.lconst 0, 1) := by decide +kernel
theorem dX2_reaching_1 : decode cX2_reaching 1 = .ok (.lstore_n 2, 1) := by decide +kernel
theorem dX2_reaching_2 : decode cX2_reaching 2 = .ok (.iconst 0, 1) := by decide +kernel
theorem dX2_reaching_3 : decode cX2_reaching 3 = .ok (.istore 4, 2) := by decide +kernel
theorem dX2_reaching_5 : decode cX2_reaching 5 = .ok (.iload 4, 2) := by decide +kernel
theorem dX2_reaching_7 : decode cX2_reaching 7 = .ok (.bipush 10, 2) := by decide +kernel
theorem dX2_reaching_9 : decode cX2_reaching 9 = .ok (.if_icmp .ge 19, 3) := by decide +kernel
theorem dX2_reaching_12 : decode cX2_reaching 12 = .ok (.lload_n 2, 1) := by decide +kernel
theorem dX2_reaching_13 : decode cX2_reaching 13 = .ok (.aload_n 0, 1) := by decide +kernel
theorem dX2_reaching_14 : decode cX2_reaching 14 = .ok (.iload 4, 2) := by decide +kernel
theorem dX2_reaching_16 : decode cX2_reaching 16 = .ok (.iload_n 1, 1) := by decide +kernel
theorem dX2_reaching_17 : decode cX2_reaching 17 = .ok (.invokevirtual 52, 3) := by decide +kernel
theorem dX2_reaching_20 : decode cX2_reaching 20 = .ok (.ladd, 1) := by decide +kernel
theorem dX2_reaching_21 : decode cX2_reaching 21 = .ok (.lstore_n 2, 1) := by decide +kernel
theorem dX2_reaching_22 : decode cX2_reaching 22 = .ok (.iinc 4 1, 3) := by decide +kernel
theorem dX2_reaching_25 : decode cX2_reaching 25 = .ok (.goto (-20), 3) := by decide +kernel
theorem dX2_reaching_28 : decode cX2_reaching 28 = .ok (.lload_n 2, 1) := by decide +kernel
theorem dX2_reaching_29 : decode cX2_reaching 29 = .ok (.lreturn, 1) := by decide +kernel
theorem dX2_kept_0 : decode cX2_kept 0 = .ok (.lconst 0, 1) := by decide +kernel
theorem dX2_kept_1 : decode cX2_kept 1 = .ok (.lstore_n 1, 1) := by decide +kernel
theorem dX2_kept_2 : decode cX2_kept 2 = .ok (.iconst 0, 1) := by decide +kernel
theorem dX2_kept_3 : decode cX2_kept 3 = .ok (.istore_n 3, 1) := by decide +kernel
theorem dX2_kept_4 : decode cX2_kept 4 = .ok (.iload_n 3, 1) := by decide +kernel
theorem dX2_kept_5 : decode cX2_kept 5 = .ok (.bipush 10, 2) := by decide +kernel
theorem dX2_kept_7 : decode cX2_kept 7 = .ok (.if_icmp .ge 18, 3) := by decide +kernel
theorem dX2_kept_10 : decode cX2_kept 10 = .ok (.lload_n 1, 1) := by decide +kernel
theorem dX2_kept_11 : decode cX2_kept 11 = .ok (.aload_n 0, 1) := by decide +kernel
theorem dX2_kept_12 : decode cX2_kept 12 = .ok (.iload_n 3, 1) := by decide +kernel
theorem dX2_kept_13 : decode cX2_kept 13 = .ok (.iload_n 3, 1) := by decide +kernel
theorem dX2_kept_14 : decode cX2_kept 14 = .ok (.invokevirtual 52, 3) := by decide +kernel
theorem dX2_kept_17 : decode cX2_kept 17 = .ok (.ladd, 1) := by decide +kernel
theorem dX2_kept_18 : decode cX2_kept 18 = .ok (.lstore_n 1, 1) := by decide +kernel
theorem dX2_kept_19 : decode cX2_kept 19 = .ok (.iinc 3 1, 3) := by decide +kernel
theorem dX2_kept_22 : decode cX2_kept 22 = .ok (.goto (-18), 3) := by decide +kernel
theorem dX2_kept_25 : decode cX2_kept 25 = .ok (.lload_n 1, 1) := by decide +kernel
theorem dX2_kept_26 : decode cX2_kept 26 = .ok (.lreturn, 1) := by decide +kernel
theorem dX2_keptBehind_0 : decode cX2_keptBehind 0 = .ok (.lconst 0, 1) := by decide +kernel
theorem dX2_keptBehind_1 : decode cX2_keptBehind 1 = .ok (.lstore_n 3, 1) := by decide +kernel
theorem dX2_keptBehind_2 : decode cX2_keptBehind 2 = .ok (.iconst 0, 1) := by decide +kernel
theorem dX2_keptBehind_3 : decode cX2_keptBehind 3 = .ok (.istore 5, 2) := by decide +kernel
theorem dX2_keptBehind_5 : decode cX2_keptBehind 5 = .ok (.iload 5, 2) := by decide +kernel
theorem dX2_keptBehind_7 : decode cX2_keptBehind 7 = .ok (.bipush 10, 2) := by decide +kernel
theorem dX2_keptBehind_9 : decode cX2_keptBehind 9 = .ok (.if_icmp .ge 51, 3) := by decide +kernel
theorem dX2_keptBehind_12 : decode cX2_keptBehind 12 = .ok (.iload_n 1, 1) := by decide +kernel
theorem dX2_keptBehind_13 : decode cX2_keptBehind 13 = .ok (.iload 5, 2) := by decide +kernel
theorem dX2_keptBehind_15 : decode cX2_keptBehind 15 = .ok (.invokestatic 34, 3) := by decide +kernel
theorem dX2_keptBehind_18 : decode cX2_keptBehind 18 = .ok (.istore 6, 2) := by decide +kernel
theorem dX2_keptBehind_20 : decode cX2_keptBehind 20 = .ok (.lload_n 3, 1) := by decide +kernel
theorem dX2_keptBehind_21 : decode cX2_keptBehind 21 = .ok (.aload_n 0, 1) := by decide +kernel
theorem dX2_keptBehind_22 : decode cX2_keptBehind 22 = .ok (.iload 6, 2) := by decide +kernel
theorem dX2_keptBehind_24 : decode cX2_keptBehind 24 = .ok (.iload 5, 2) := by decide +kernel
theorem dX2_keptBehind_26 : decode cX2_keptBehind 26 = .ok (.invokevirtual 52, 3) := by decide +kernel
theorem dX2_keptBehind_29 : decode cX2_keptBehind 29 = .ok (.iload_n 2, 1) := by decide +kernel
theorem dX2_keptBehind_30 : decode cX2_keptBehind 30 = .ok (.i2l, 1) := by decide +kernel
theorem dX2_keptBehind_31 : decode cX2_keptBehind 31 = .ok (.lmul, 1) := by decide +kernel
theorem dX2_keptBehind_32 : decode cX2_keptBehind 32 = .ok (.ladd, 1) := by decide +kernel
theorem dX2_keptBehind_33 : decode cX2_keptBehind 33 = .ok (.lstore_n 3, 1) := by decide +kernel
theorem dX2_keptBehind_34 : decode cX2_keptBehind 34 = .ok (.lload_n 3, 1) := by decide +kernel
theorem dX2_keptBehind_35 : decode cX2_keptBehind 35 = .ok (.aload_n 0, 1) := by decide +kernel
theorem dX2_keptBehind_36 : decode cX2_keptBehind 36 = .ok (.iload 6, 2) := by decide +kernel
theorem dX2_keptBehind_38 : decode cX2_keptBehind 38 = .ok (.invokestatic 42, 3) := by decide +kernel
theorem dX2_keptBehind_41 : decode cX2_keptBehind 41 = .ok (.iload 5, 2) := by decide +kernel
theorem dX2_keptBehind_43 : decode cX2_keptBehind 43 = .ok (.invokevirtual 52, 3) := by decide +kernel
theorem dX2_keptBehind_46 : decode cX2_keptBehind 46 = .ok (.bipush 10, 2) := by decide +kernel
theorem dX2_keptBehind_48 : decode cX2_keptBehind 48 = .ok (.iload_n 2, 1) := by decide +kernel
theorem dX2_keptBehind_49 : decode cX2_keptBehind 49 = .ok (.isub, 1) := by decide +kernel
theorem dX2_keptBehind_50 : decode cX2_keptBehind 50 = .ok (.i2l, 1) := by decide +kernel
theorem dX2_keptBehind_51 : decode cX2_keptBehind 51 = .ok (.lmul, 1) := by decide +kernel
theorem dX2_keptBehind_52 : decode cX2_keptBehind 52 = .ok (.ladd, 1) := by decide +kernel
theorem dX2_keptBehind_53 : decode cX2_keptBehind 53 = .ok (.lstore_n 3, 1) := by decide +kernel
theorem dX2_keptBehind_54 : decode cX2_keptBehind 54 = .ok (.iinc 5 1, 3) := by decide +kernel
theorem dX2_keptBehind_57 : decode cX2_keptBehind 57 = .ok (.goto (-52), 3) := by decide +kernel
theorem dX2_keptBehind_60 : decode cX2_keptBehind 60 = .ok (.lload_n 3, 1) := by decide +kernel
theorem dX2_keptBehind_61 : decode cX2_keptBehind 61 = .ok (.lreturn, 1) := by decide +kernel
theorem dX2_keptAtMost_0 : decode cX2_keptAtMost 0 = .ok (.lconst 0, 1) := by decide +kernel
theorem dX2_keptAtMost_1 : decode cX2_keptAtMost 1 = .ok (.lstore_n 1, 1) := by decide +kernel
theorem dX2_keptAtMost_2 : decode cX2_keptAtMost 2 = .ok (.iconst 0, 1) := by decide +kernel
theorem dX2_keptAtMost_3 : decode cX2_keptAtMost 3 = .ok (.istore_n 3, 1) := by decide +kernel
theorem dX2_keptAtMost_4 : decode cX2_keptAtMost 4 = .ok (.iload_n 3, 1) := by decide +kernel
theorem dX2_keptAtMost_5 : decode cX2_keptAtMost 5 = .ok (.bipush 10, 2) := by decide +kernel
theorem dX2_keptAtMost_7 : decode cX2_keptAtMost 7 = .ok (.if_icmp .ge 52, 3) := by decide +kernel
theorem dX2_keptAtMost_10 : decode cX2_keptAtMost 10 = .ok (.lconst 0, 1) := by decide +kernel
theorem dX2_keptAtMost_11 : decode cX2_keptAtMost 11 = .ok (.lstore 4, 2) := by decide +kernel
theorem dX2_keptAtMost_13 : decode cX2_keptAtMost 13 = .ok (.iconst 0, 1) := by decide +kernel
theorem dX2_keptAtMost_14 : decode cX2_keptAtMost 14 = .ok (.istore 6, 2) := by decide +kernel
theorem dX2_keptAtMost_16 : decode cX2_keptAtMost 16 = .ok (.iload 6, 2) := by decide +kernel
theorem dX2_keptAtMost_18 : decode cX2_keptAtMost 18 = .ok (.bipush 10, 2) := by decide +kernel
theorem dX2_keptAtMost_20 : decode cX2_keptAtMost 20 = .ok (.if_icmp .ge 28, 3) := by decide +kernel
theorem dX2_keptAtMost_23 : decode cX2_keptAtMost 23 = .ok (.lload 4, 2) := by decide +kernel
theorem dX2_keptAtMost_25 : decode cX2_keptAtMost 25 = .ok (.aload_n 0, 1) := by decide +kernel
theorem dX2_keptAtMost_26 : decode cX2_keptAtMost 26 = .ok (.getfield 9, 3) := by decide +kernel
theorem dX2_keptAtMost_29 : decode cX2_keptAtMost 29 = .ok (.iload_n 3, 1) := by decide +kernel
theorem dX2_keptAtMost_30 : decode cX2_keptAtMost 30 = .ok (.bipush 10, 2) := by decide +kernel
theorem dX2_keptAtMost_32 : decode cX2_keptAtMost 32 = .ok (.imul, 1) := by decide +kernel
theorem dX2_keptAtMost_33 : decode cX2_keptAtMost 33 = .ok (.iload 6, 2) := by decide +kernel
theorem dX2_keptAtMost_35 : decode cX2_keptAtMost 35 = .ok (.iadd, 1) := by decide +kernel
theorem dX2_keptAtMost_36 : decode cX2_keptAtMost 36 = .ok (.laload, 1) := by decide +kernel
theorem dX2_keptAtMost_37 : decode cX2_keptAtMost 37 = .ok (.invokestatic 56, 3) := by decide +kernel
theorem dX2_keptAtMost_40 : decode cX2_keptAtMost 40 = .ok (.lstore 4, 2) := by decide +kernel
theorem dX2_keptAtMost_42 : decode cX2_keptAtMost 42 = .ok (.iinc 6 1, 3) := by decide +kernel
theorem dX2_keptAtMost_45 : decode cX2_keptAtMost 45 = .ok (.goto (-29), 3) := by decide +kernel
theorem dX2_keptAtMost_48 : decode cX2_keptAtMost 48 = .ok (.lload_n 1, 1) := by decide +kernel
theorem dX2_keptAtMost_49 : decode cX2_keptAtMost 49 = .ok (.lload 4, 2) := by decide +kernel
theorem dX2_keptAtMost_51 : decode cX2_keptAtMost 51 = .ok (.ladd, 1) := by decide +kernel
theorem dX2_keptAtMost_52 : decode cX2_keptAtMost 52 = .ok (.lstore_n 1, 1) := by decide +kernel
theorem dX2_keptAtMost_53 : decode cX2_keptAtMost 53 = .ok (.iinc 3 1, 3) := by decide +kernel
theorem dX2_keptAtMost_56 : decode cX2_keptAtMost 56 = .ok (.goto (-52), 3) := by decide +kernel
theorem dX2_keptAtMost_59 : decode cX2_keptAtMost 59 = .ok (.lload_n 1, 1) := by decide +kernel
theorem dX2_keptAtMost_60 : decode cX2_keptAtMost 60 = .ok (.lreturn, 1) := by decide +kernel
theorem dX3_init_0 : decode cX3_init 0 = .ok (.aload_n 0, 1) := by decide +kernel
theorem dX3_init_1 : decode cX3_init 1 = .ok (.invokespecial 3, 3) := by decide +kernel
theorem dX3_init_4 : decode cX3_init 4 = .ok (.aload_n 0, 1) := by decide +kernel
theorem dX3_init_5 : decode cX3_init 5 = .ok (.sipush 200, 3) := by decide +kernel
theorem dX3_init_8 : decode cX3_init 8 = .ok (.newarray .int, 2) := by decide +kernel
theorem dX3_init_10 : decode cX3_init 10 = .ok (.putfield 9, 3) := by decide +kernel
theorem dX3_init_13 : decode cX3_init 13 = .ok (.aload_n 0, 1) := by decide +kernel
theorem dX3_init_14 : decode cX3_init 14 = .ok (.iconst 5, 1) := by decide +kernel
theorem dX3_init_15 : decode cX3_init 15 = .ok (.newarray .int, 2) := by decide +kernel
theorem dX3_init_17 : decode cX3_init 17 = .ok (.putfield 15, 3) := by decide +kernel
theorem dX3_init_20 : decode cX3_init 20 = .ok (.aload_n 0, 1) := by decide +kernel
theorem dX3_init_21 : decode cX3_init 21 = .ok (.iconst 0, 1) := by decide +kernel
theorem dX3_init_22 : decode cX3_init 22 = .ok (.putfield 18, 3) := by decide +kernel
theorem dX3_init_25 : decode cX3_init 25 = .ok (.return_, 1) := by decide +kernel
theorem dX3_length_0 : decode cX3_length 0 = .ok (.aload_n 0, 1) := by decide +kernel
theorem dX3_length_1 : decode cX3_length 1 = .ok (.getfield 18, 3) := by decide +kernel
theorem dX3_length_4 : decode cX3_length 4 = .ok (.ireturn, 1) := by decide +kernel
theorem dX3_clear_0 : decode cX3_clear 0 = .ok (.aload_n 0, 1) := by decide +kernel
theorem dX3_clear_1 : decode cX3_clear 1 = .ok (.iconst 0, 1) := by decide +kernel
theorem dX3_clear_2 : decode cX3_clear 2 = .ok (.putfield 18, 3) := by decide +kernel
theorem dX3_clear_5 : decode cX3_clear 5 = .ok (.return_, 1) := by decide +kernel
theorem dX3_append_0 : decode cX3_append 0 = .ok (.aload_n 0, 1) := by decide +kernel
theorem dX3_append_1 : decode cX3_append 1 = .ok (.getfield 18, 3) := by decide +kernel
theorem dX3_append_4 : decode cX3_append 4 = .ok (.sipush 200, 3) := by decide +kernel
theorem dX3_append_7 : decode cX3_append 7 = .ok (.if_icmp .ge 23, 3) := by decide +kernel
theorem dX3_append_10 : decode cX3_append 10 = .ok (.aload_n 0, 1) := by decide +kernel
theorem dX3_append_11 : decode cX3_append 11 = .ok (.getfield 9, 3) := by decide +kernel
theorem dX3_append_14 : decode cX3_append 14 = .ok (.aload_n 0, 1) := by decide +kernel
theorem dX3_append_15 : decode cX3_append 15 = .ok (.getfield 18, 3) := by decide +kernel
theorem dX3_append_18 : decode cX3_append 18 = .ok (.iload_n 1, 1) := by decide +kernel
theorem dX3_append_19 : decode cX3_append 19 = .ok (.iastore, 1) := by decide +kernel
theorem dX3_append_20 : decode cX3_append 20 = .ok (.aload_n 0, 1) := by decide +kernel
theorem dX3_append_21 : decode cX3_append 21 = .ok (.dup, 1) := by decide +kernel
theorem dX3_append_22 : decode cX3_append 22 = .ok (.getfield 18, 3) := by decide +kernel
theorem dX3_append_25 : decode cX3_append 25 = .ok (.iconst 1, 1) := by decide +kernel
theorem dX3_append_26 : decode cX3_append 26 = .ok (.iadd, 1) := by decide +kernel
theorem dX3_append_27 : decode cX3_append 27 = .ok (.putfield 18, 3) := by decide +kernel
theorem dX3_append_30 : decode cX3_append 30 = .ok (.return_, 1) := by decide +kernel
theorem dX3_readInto_0 : decode cX3_readInto 0 = .ok (.aload_n 1, 1) := by decide +kernel
theorem dX3_readInto_1 : decode cX3_readInto 1 = .ok (.invokevirtual 22, 3) := by decide +kernel
theorem dX3_readInto_4 : decode cX3_readInto 4 = .ok (.iconst 0, 1) := by decide +kernel
theorem dX3_readInto_5 : decode cX3_readInto 5 = .ok (.istore_n 2, 1) := by decide +kernel
theorem dX3_readInto_6 : decode cX3_readInto 6 = .ok (.iconst 0, 1) := by decide +kernel
theorem dX3_readInto_7 : decode cX3_readInto 7 = .ok (.istore_n 3, 1) := by decide +kernel
theorem dX3_readInto_8 : decode cX3_readInto 8 = .ok (.iload_n 3, 1) := by decide +kernel
theorem dX3_readInto_9 : decode cX3_readInto 9 = .ok (.sipush 200, 3) := by decide +kernel
theorem dX3_readInto_12 : decode cX3_readInto 12 = .ok (.if_icmp .ge 36, 3) := by decide +kernel
theorem dX3_readInto_15 : decode cX3_readInto 15 = .ok (.iload_n 2, 1) := by decide +kernel
theorem dX3_readInto_16 : decode cX3_readInto 16 = .ok (.aload_n 0, 1) := by decide +kernel
theorem dX3_readInto_17 : decode cX3_readInto 17 = .ok (.getfield 18, 3) := by decide +kernel
theorem dX3_readInto_20 : decode cX3_readInto 20 = .ok (.if_icmp .ge 28, 3) := by decide +kernel
theorem dX3_readInto_23 : decode cX3_readInto 23 = .ok (.aload_n 0, 1) := by decide +kernel
theorem dX3_readInto_24 : decode cX3_readInto 24 = .ok (.iload_n 2, 1) := by decide +kernel
theorem dX3_readInto_25 : decode cX3_readInto 25 = .ok (.aload_n 1, 1) := by decide +kernel
theorem dX3_readInto_26 : decode cX3_readInto 26 = .ok (.invokevirtual 27, 3) := by decide +kernel
theorem dX3_readInto_29 : decode cX3_readInto 29 = .ok (.istore 4, 2) := by decide +kernel
theorem dX3_readInto_31 : decode cX3_readInto 31 = .ok (.iload 4, 2) := by decide +kernel
theorem dX3_readInto_33 : decode cX3_readInto 33 = .ok (.iconst (-1), 1) := by decide +kernel
theorem dX3_readInto_34 : decode cX3_readInto 34 = .ok (.if_icmp .ne 5, 3) := by decide +kernel
theorem dX3_readInto_37 : decode cX3_readInto 37 = .ok (.iload_n 2, 1) := by decide +kernel
theorem dX3_readInto_38 : decode cX3_readInto 38 = .ok (.ireturn, 1) := by decide +kernel
theorem dX3_readInto_39 : decode cX3_readInto 39 = .ok (.iload 4, 2) := by decide +kernel
theorem dX3_readInto_41 : decode cX3_readInto 41 = .ok (.istore_n 2, 1) := by decide +kernel
theorem dX3_readInto_42 : decode cX3_readInto 42 = .ok (.iinc 3 1, 3) := by decide +kernel
theorem dX3_readInto_45 : decode cX3_readInto 45 = .ok (.goto (-37), 3) := by decide +kernel
theorem dX3_readInto_48 : decode cX3_readInto 48 = .ok (.bipush (-4), 2) := by decide +kernel
theorem dX3_readInto_50 : decode cX3_readInto 50 = .ok (.ireturn, 1) := by decide +kernel
theorem dX3_readItem_0 : decode cX3_readItem 0 = .ok (.aload_n 0, 1) := by decide +kernel
theorem dX3_readItem_1 : decode cX3_readItem 1 = .ok (.iload_n 1, 1) := by decide +kernel
theorem dX3_readItem_2 : decode cX3_readItem 2 = .ok (.invokevirtual 31, 3) := by decide +kernel
theorem dX3_readItem_5 : decode cX3_readItem 5 = .ok (.istore_n 3, 1) := by decide +kernel
theorem dX3_readItem_6 : decode cX3_readItem 6 = .ok (.iload_n 3, 1) := by decide +kernel
theorem dX3_readItem_7 : decode cX3_readItem 7 = .ok (.invokestatic 35, 3) := by decide +kernel
theorem dX3_readItem_10 : decode cX3_readItem 10 = .ok (.istore 4, 2) := by decide +kernel
theorem dX3_readItem_12 : decode cX3_readItem 12 = .ok (.iload 4, 2) := by decide +kernel
theorem dX3_readItem_14 : decode cX3_readItem 14 = .ok (.ifCond .ne 5, 3) := by decide +kernel
theorem dX3_readItem_17 : decode cX3_readItem 17 = .ok (.iconst (-1), 1) := by decide +kernel
theorem dX3_readItem_18 : decode cX3_readItem 18 = .ok (.ireturn, 1) := by decide +kernel
theorem dX3_readItem_19 : decode cX3_readItem 19 = .ok (.iload_n 1, 1) := by decide +kernel
theorem dX3_readItem_20 : decode cX3_readItem 20 = .ok (.iconst 1, 1) := by decide +kernel
theorem dX3_readItem_21 : decode cX3_readItem 21 = .ok (.iadd, 1) := by decide +kernel
theorem dX3_readItem_22 : decode cX3_readItem 22 = .ok (.istore 5, 2) := by decide +kernel
theorem dX3_readItem_24 : decode cX3_readItem 24 = .ok (.iconst 0, 1) := by decide +kernel
theorem dX3_readItem_25 : decode cX3_readItem 25 = .ok (.istore 6, 2) := by decide +kernel
theorem dX3_readItem_27 : decode cX3_readItem 27 = .ok (.iload 6, 2) := by decide +kernel
theorem dX3_readItem_29 : decode cX3_readItem 29 = .ok (.iload 4, 2) := by decide +kernel
theorem dX3_readItem_31 : decode cX3_readItem 31 = .ok (.if_icmp .ge 82, 3) := by decide +kernel
theorem dX3_readItem_34 : decode cX3_readItem 34 = .ok (.iload 6, 2) := by decide +kernel
theorem dX3_readItem_36 : decode cX3_readItem 36 = .ok (.iconst 5, 1) := by decide +kernel
theorem dX3_readItem_37 : decode cX3_readItem 37 = .ok (.if_icmp .ge 76, 3) := by decide +kernel
theorem dX3_readItem_40 : decode cX3_readItem 40 = .ok (.aload_n 0, 1) := by decide +kernel
theorem dX3_readItem_41 : decode cX3_readItem 41 = .ok (.iload 5, 2) := by decide +kernel
theorem dX3_readItem_43 : decode cX3_readItem 43 = .ok (.invokevirtual 38, 3) := by decide +kernel
theorem dX3_readItem_46 : decode cX3_readItem 46 = .ok (.istore 7, 2) := by decide +kernel
theorem dX3_readItem_48 : decode cX3_readItem 48 = .ok (.iload 7, 2) := by decide +kernel
theorem dX3_readItem_50 : decode cX3_readItem 50 = .ok (.ifCond .ne 5, 3) := by decide +kernel
theorem dX3_readItem_53 : decode cX3_readItem 53 = .ok (.iconst (-1), 1) := by decide +kernel
theorem dX3_readItem_54 : decode cX3_readItem 54 = .ok (.ireturn, 1) := by decide +kernel
theorem dX3_readItem_55 : decode cX3_readItem 55 = .ok (.aload_n 0, 1) := by decide +kernel
theorem dX3_readItem_56 : decode cX3_readItem 56 = .ok (.getfield 15, 3) := by decide +kernel
theorem dX3_readItem_59 : decode cX3_readItem 59 = .ok (.iload 6, 2) := by decide +kernel
theorem dX3_readItem_61 : decode cX3_readItem 61 = .ok (.aload_n 0, 1) := by decide +kernel
theorem dX3_readItem_62 : decode cX3_readItem 62 = .ok (.iload 5, 2) := by decide +kernel
theorem dX3_readItem_64 : decode cX3_readItem 64 = .ok (.iload 7, 2) := by decide +kernel
theorem dX3_readItem_66 : decode cX3_readItem 66 = .ok (.invokevirtual 41, 3) := by decide +kernel
theorem dX3_readItem_69 : decode cX3_readItem 69 = .ok (.iastore, 1) := by decide +kernel
theorem dX3_readItem_70 : decode cX3_readItem 70 = .ok (.iload 5, 2) := by decide +kernel
theorem dX3_readItem_72 : decode cX3_readItem 72 = .ok (.iload 7, 2) := by decide +kernel
theorem dX3_readItem_74 : decode cX3_readItem 74 = .ok (.iadd, 1) := by decide +kernel
theorem dX3_readItem_75 : decode cX3_readItem 75 = .ok (.istore 5, 2) := by decide +kernel
theorem dX3_readItem_77 : decode cX3_readItem 77 = .ok (.aload_n 0, 1) := by decide +kernel
theorem dX3_readItem_78 : decode cX3_readItem 78 = .ok (.iload 5, 2) := by decide +kernel
theorem dX3_readItem_80 : decode cX3_readItem 80 = .ok (.invokevirtual 31, 3) := by decide +kernel
theorem dX3_readItem_83 : decode cX3_readItem 83 = .ok (.iload 6, 2) := by decide +kernel
theorem dX3_readItem_85 : decode cX3_readItem 85 = .ok (.iconst 1, 1) := by decide +kernel
theorem dX3_readItem_86 : decode cX3_readItem 86 = .ok (.iadd, 1) := by decide +kernel
theorem dX3_readItem_87 : decode cX3_readItem 87 = .ok (.iload 4, 2) := by decide +kernel
theorem dX3_readItem_89 : decode cX3_readItem 89 = .ok (.if_icmp .ge 8, 3) := by decide +kernel
theorem dX3_readItem_92 : decode cX3_readItem 92 = .ok (.bipush 44, 2) := by decide +kernel
theorem dX3_readItem_94 : decode cX3_readItem 94 = .ok (.goto 5, 3) := by decide +kernel
theorem dX3_readItem_97 : decode cX3_readItem 97 = .ok (.bipush 59, 2) := by decide +kernel
theorem dX3_readItem_99 : decode cX3_readItem 99 = .ok (.if_icmp .eq 5, 3) := by decide +kernel
theorem dX3_readItem_102 : decode cX3_readItem 102 = .ok (.iconst (-1), 1) := by decide +kernel
theorem dX3_readItem_103 : decode cX3_readItem 103 = .ok (.ireturn, 1) := by decide +kernel
theorem dX3_readItem_104 : decode cX3_readItem 104 = .ok (.iinc 5 1, 3) := by decide +kernel
theorem dX3_readItem_107 : decode cX3_readItem 107 = .ok (.iinc 6 1, 3) := by decide +kernel
theorem dX3_readItem_110 : decode cX3_readItem 110 = .ok (.goto (-83), 3) := by decide +kernel
theorem dX3_readItem_113 : decode cX3_readItem 113 = .ok (.aload_n 0, 1) := by decide +kernel
theorem dX3_readItem_114 : decode cX3_readItem 114 = .ok (.iload_n 3, 1) := by decide +kernel
theorem dX3_readItem_115 : decode cX3_readItem 115 = .ok (.aload_n 2, 1) := by decide +kernel
theorem dX3_readItem_116 : decode cX3_readItem 116 = .ok (.invokevirtual 45, 3) := by decide +kernel
theorem dX3_readItem_119 : decode cX3_readItem 119 = .ok (.ifCond .eq 8, 3) := by decide +kernel
theorem dX3_readItem_122 : decode cX3_readItem 122 = .ok (.iload 5, 2) := by decide +kernel
theorem dX3_readItem_124 : decode cX3_readItem 124 = .ok (.goto 4, 3) := by decide +kernel
theorem dX3_readItem_127 : decode cX3_readItem 127 = .ok (.iconst (-1), 1) := by decide +kernel
theorem dX3_readItem_128 : decode cX3_readItem 128 = .ok (.ireturn, 1) := by decide +kernel
theorem dX3_enter_0 : decode cX3_enter 0 = .ok (.iload_n 1, 1) := by decide +kernel
theorem dX3_enter_1 : decode cX3_enter 1 = .ok (.lookupswitch 104 #[(104, 87), (105, 52), (116, 35)], 35) := by decide +kernel
theorem dX3_enter_36 : decode cX3_enter 36 = .ok (.aload_n 2, 1) := by decide +kernel
theorem dX3_enter_37 : decode cX3_enter 37 = .ok (.aload_n 0, 1) := by decide +kernel
theorem dX3_enter_38 : decode cX3_enter 38 = .ok (.getfield 15, 3) := by decide +kernel
theorem dX3_enter_41 : decode cX3_enter 41 = .ok (.iconst 0, 1) := by decide +kernel
theorem dX3_enter_42 : decode cX3_enter 42 = .ok (.iaload, 1) := by decide +kernel
theorem dX3_enter_43 : decode cX3_enter 43 = .ok (.aload_n 0, 1) := by decide +kernel
theorem dX3_enter_44 : decode cX3_enter 44 = .ok (.getfield 15, 3) := by decide +kernel
theorem dX3_enter_47 : decode cX3_enter 47 = .ok (.iconst 1, 1) := by decide +kernel
theorem dX3_enter_48 : decode cX3_enter 48 = .ok (.iaload, 1) := by decide +kernel
theorem dX3_enter_49 : decode cX3_enter 49 = .ok (.invokevirtual 49, 3) := by decide +kernel
theorem dX3_enter_52 : decode cX3_enter 52 = .ok (.ireturn, 1) := by decide +kernel
theorem dX3_enter_53 : decode cX3_enter 53 = .ok (.aload_n 2, 1) := by decide +kernel
theorem dX3_enter_54 : decode cX3_enter 54 = .ok (.aload_n 0, 1) := by decide +kernel
theorem dX3_enter_55 : decode cX3_enter 55 = .ok (.getfield 15, 3) := by decide +kernel
theorem dX3_enter_58 : decode cX3_enter 58 = .ok (.iconst 0, 1) := by decide +kernel
theorem dX3_enter_59 : decode cX3_enter 59 = .ok (.iaload, 1) := by decide +kernel
theorem dX3_enter_60 : decode cX3_enter 60 = .ok (.aload_n 0, 1) := by decide +kernel
theorem dX3_enter_61 : decode cX3_enter 61 = .ok (.getfield 15, 3) := by decide +kernel
theorem dX3_enter_64 : decode cX3_enter 64 = .ok (.iconst 1, 1) := by decide +kernel
theorem dX3_enter_65 : decode cX3_enter 65 = .ok (.iaload, 1) := by decide +kernel
theorem dX3_enter_66 : decode cX3_enter 66 = .ok (.aload_n 0, 1) := by decide +kernel
theorem dX3_enter_67 : decode cX3_enter 67 = .ok (.getfield 15, 3) := by decide +kernel
theorem dX3_enter_70 : decode cX3_enter 70 = .ok (.iconst 2, 1) := by decide +kernel
theorem dX3_enter_71 : decode cX3_enter 71 = .ok (.iaload, 1) := by decide +kernel
theorem dX3_enter_72 : decode cX3_enter 72 = .ok (.aload_n 0, 1) := by decide +kernel
theorem dX3_enter_73 : decode cX3_enter 73 = .ok (.getfield 15, 3) := by decide +kernel
theorem dX3_enter_76 : decode cX3_enter 76 = .ok (.iconst 3, 1) := by decide +kernel
theorem dX3_enter_77 : decode cX3_enter 77 = .ok (.iaload, 1) := by decide +kernel
theorem dX3_enter_78 : decode cX3_enter 78 = .ok (.aload_n 0, 1) := by decide +kernel
theorem dX3_enter_79 : decode cX3_enter 79 = .ok (.getfield 15, 3) := by decide +kernel
theorem dX3_enter_82 : decode cX3_enter 82 = .ok (.iconst 4, 1) := by decide +kernel
theorem dX3_enter_83 : decode cX3_enter 83 = .ok (.iaload, 1) := by decide +kernel
theorem dX3_enter_84 : decode cX3_enter 84 = .ok (.invokevirtual 53, 3) := by decide +kernel
theorem dX3_enter_87 : decode cX3_enter 87 = .ok (.ireturn, 1) := by decide +kernel
theorem dX3_enter_88 : decode cX3_enter 88 = .ok (.aload_n 2, 1) := by decide +kernel
theorem dX3_enter_89 : decode cX3_enter 89 = .ok (.aload_n 0, 1) := by decide +kernel
theorem dX3_enter_90 : decode cX3_enter 90 = .ok (.getfield 15, 3) := by decide +kernel
theorem dX3_enter_93 : decode cX3_enter 93 = .ok (.iconst 0, 1) := by decide +kernel
theorem dX3_enter_94 : decode cX3_enter 94 = .ok (.iaload, 1) := by decide +kernel
theorem dX3_enter_95 : decode cX3_enter 95 = .ok (.aload_n 0, 1) := by decide +kernel
theorem dX3_enter_96 : decode cX3_enter 96 = .ok (.getfield 15, 3) := by decide +kernel
theorem dX3_enter_99 : decode cX3_enter 99 = .ok (.iconst 1, 1) := by decide +kernel
theorem dX3_enter_100 : decode cX3_enter 100 = .ok (.iaload, 1) := by decide +kernel
theorem dX3_enter_101 : decode cX3_enter 101 = .ok (.invokevirtual 57, 3) := by decide +kernel
theorem dX3_enter_104 : decode cX3_enter 104 = .ok (.ireturn, 1) := by decide +kernel
theorem dX3_enter_105 : decode cX3_enter 105 = .ok (.iconst 0, 1) := by decide +kernel
theorem dX3_enter_106 : decode cX3_enter 106 = .ok (.ireturn, 1) := by decide +kernel
theorem dX3_numbersOf_0 : decode cX3_numbersOf 0 = .ok (.iload_n 0, 1) := by decide +kernel
theorem dX3_numbersOf_1 : decode cX3_numbersOf 1 = .ok (.lookupswitch 41 #[(104, 39), (105, 37), (116, 35)], 35) := by decide +kernel
theorem dX3_numbersOf_36 : decode cX3_numbersOf 36 = .ok (.iconst 2, 1) := by decide +kernel
theorem dX3_numbersOf_37 : decode cX3_numbersOf 37 = .ok (.ireturn, 1) := by decide +kernel
theorem dX3_numbersOf_38 : decode cX3_numbersOf 38 = .ok (.iconst 5, 1) := by decide +kernel
theorem dX3_numbersOf_39 : decode cX3_numbersOf 39 = .ok (.ireturn, 1) := by decide +kernel
theorem dX3_numbersOf_40 : decode cX3_numbersOf 40 = .ok (.iconst 2, 1) := by decide +kernel
theorem dX3_numbersOf_41 : decode cX3_numbersOf 41 = .ok (.ireturn, 1) := by decide +kernel
theorem dX3_numbersOf_42 : decode cX3_numbersOf 42 = .ok (.iconst 0, 1) := by decide +kernel
theorem dX3_numbersOf_43 : decode cX3_numbersOf 43 = .ok (.ireturn, 1) := by decide +kernel
theorem dX3_byteAt_0 : decode cX3_byteAt 0 = .ok (.iload_n 1, 1) := by decide +kernel
theorem dX3_byteAt_1 : decode cX3_byteAt 1 = .ok (.ifCond .lt 27, 3) := by decide +kernel
theorem dX3_byteAt_4 : decode cX3_byteAt 4 = .ok (.iload_n 1, 1) := by decide +kernel
theorem dX3_byteAt_5 : decode cX3_byteAt 5 = .ok (.aload_n 0, 1) := by decide +kernel
theorem dX3_byteAt_6 : decode cX3_byteAt 6 = .ok (.getfield 18, 3) := by decide +kernel
theorem dX3_byteAt_9 : decode cX3_byteAt 9 = .ok (.if_icmp .ge 19, 3) := by decide +kernel
theorem dX3_byteAt_12 : decode cX3_byteAt 12 = .ok (.iload_n 1, 1) := by decide +kernel
theorem dX3_byteAt_13 : decode cX3_byteAt 13 = .ok (.sipush 200, 3) := by decide +kernel
theorem dX3_byteAt_16 : decode cX3_byteAt 16 = .ok (.if_icmp .ge 12, 3) := by decide +kernel
theorem dX3_byteAt_19 : decode cX3_byteAt 19 = .ok (.aload_n 0, 1) := by decide +kernel
theorem dX3_byteAt_20 : decode cX3_byteAt 20 = .ok (.getfield 9, 3) := by decide +kernel
theorem dX3_byteAt_23 : decode cX3_byteAt 23 = .ok (.iload_n 1, 1) := by decide +kernel
theorem dX3_byteAt_24 : decode cX3_byteAt 24 = .ok (.iaload, 1) := by decide +kernel
theorem dX3_byteAt_25 : decode cX3_byteAt 25 = .ok (.goto 4, 3) := by decide +kernel
theorem dX3_byteAt_28 : decode cX3_byteAt 28 = .ok (.iconst (-1), 1) := by decide +kernel
theorem dX3_byteAt_29 : decode cX3_byteAt 29 = .ok (.ireturn, 1) := by decide +kernel
theorem dX3_isFigure_0 : decode cX3_isFigure 0 = .ok (.aload_n 0, 1) := by decide +kernel
theorem dX3_isFigure_1 : decode cX3_isFigure 1 = .ok (.iload_n 1, 1) := by decide +kernel
theorem dX3_isFigure_2 : decode cX3_isFigure 2 = .ok (.invokevirtual 31, 3) := by decide +kernel
theorem dX3_isFigure_5 : decode cX3_isFigure 5 = .ok (.istore_n 2, 1) := by decide +kernel
theorem dX3_isFigure_6 : decode cX3_isFigure 6 = .ok (.iload_n 2, 1) := by decide +kernel
theorem dX3_isFigure_7 : decode cX3_isFigure 7 = .ok (.bipush 48, 2) := by decide +kernel
theorem dX3_isFigure_9 : decode cX3_isFigure 9 = .ok (.if_icmp .lt 13, 3) := by decide +kernel
theorem dX3_isFigure_12 : decode cX3_isFigure 12 = .ok (.iload_n 2, 1) := by decide +kernel
theorem dX3_isFigure_13 : decode cX3_isFigure 13 = .ok (.bipush 57, 2) := by decide +kernel
theorem dX3_isFigure_15 : decode cX3_isFigure 15 = .ok (.if_icmp .gt 7, 3) := by decide +kernel
theorem dX3_isFigure_18 : decode cX3_isFigure 18 = .ok (.iconst 1, 1) := by decide +kernel
theorem dX3_isFigure_19 : decode cX3_isFigure 19 = .ok (.goto 4, 3) := by decide +kernel
theorem dX3_isFigure_22 : decode cX3_isFigure 22 = .ok (.iconst 0, 1) := by decide +kernel
theorem dX3_isFigure_23 : decode cX3_isFigure 23 = .ok (.ireturn, 1) := by decide +kernel
theorem dX3_figuresAt_0 : decode cX3_figuresAt 0 = .ok (.aload_n 0, 1) := by decide +kernel
theorem dX3_figuresAt_1 : decode cX3_figuresAt 1 = .ok (.iload_n 1, 1) := by decide +kernel
theorem dX3_figuresAt_2 : decode cX3_figuresAt 2 = .ok (.invokevirtual 60, 3) := by decide +kernel
theorem dX3_figuresAt_5 : decode cX3_figuresAt 5 = .ok (.ifCond .ne 5, 3) := by decide +kernel
theorem dX3_figuresAt_8 : decode cX3_figuresAt 8 = .ok (.iconst 0, 1) := by decide +kernel
theorem dX3_figuresAt_9 : decode cX3_figuresAt 9 = .ok (.ireturn, 1) := by decide +kernel
theorem dX3_figuresAt_10 : decode cX3_figuresAt 10 = .ok (.aload_n 0, 1) := by decide +kernel
theorem dX3_figuresAt_11 : decode cX3_figuresAt 11 = .ok (.iload_n 1, 1) := by decide +kernel
theorem dX3_figuresAt_12 : decode cX3_figuresAt 12 = .ok (.iconst 1, 1) := by decide +kernel
theorem dX3_figuresAt_13 : decode cX3_figuresAt 13 = .ok (.iadd, 1) := by decide +kernel
theorem dX3_figuresAt_14 : decode cX3_figuresAt 14 = .ok (.invokevirtual 60, 3) := by decide +kernel
theorem dX3_figuresAt_17 : decode cX3_figuresAt 17 = .ok (.ifCond .eq 7, 3) := by decide +kernel
theorem dX3_figuresAt_20 : decode cX3_figuresAt 20 = .ok (.iconst 2, 1) := by decide +kernel
theorem dX3_figuresAt_21 : decode cX3_figuresAt 21 = .ok (.goto 4, 3) := by decide +kernel
theorem dX3_figuresAt_24 : decode cX3_figuresAt 24 = .ok (.iconst 1, 1) := by decide +kernel
theorem dX3_figuresAt_25 : decode cX3_figuresAt 25 = .ok (.ireturn, 1) := by decide +kernel
theorem dX3_numberOf_0 : decode cX3_numberOf 0 = .ok (.iconst 0, 1) := by decide +kernel
theorem dX3_numberOf_1 : decode cX3_numberOf 1 = .ok (.istore_n 3, 1) := by decide +kernel
theorem dX3_numberOf_2 : decode cX3_numberOf 2 = .ok (.iconst 0, 1) := by decide +kernel
theorem dX3_numberOf_3 : decode cX3_numberOf 3 = .ok (.istore 4, 2) := by decide +kernel
theorem dX3_numberOf_5 : decode cX3_numberOf 5 = .ok (.iload 4, 2) := by decide +kernel
theorem dX3_numberOf_7 : decode cX3_numberOf 7 = .ok (.iload_n 2, 1) := by decide +kernel
theorem dX3_numberOf_8 : decode cX3_numberOf 8 = .ok (.if_icmp .ge 26, 3) := by decide +kernel
theorem dX3_numberOf_11 : decode cX3_numberOf 11 = .ok (.iload_n 3, 1) := by decide +kernel
theorem dX3_numberOf_12 : decode cX3_numberOf 12 = .ok (.bipush 10, 2) := by decide +kernel
theorem dX3_numberOf_14 : decode cX3_numberOf 14 = .ok (.imul, 1) := by decide +kernel
theorem dX3_numberOf_15 : decode cX3_numberOf 15 = .ok (.aload_n 0, 1) := by decide +kernel
theorem dX3_numberOf_16 : decode cX3_numberOf 16 = .ok (.iload_n 1, 1) := by decide +kernel
theorem dX3_numberOf_17 : decode cX3_numberOf 17 = .ok (.iload 4, 2) := by decide +kernel
theorem dX3_numberOf_19 : decode cX3_numberOf 19 = .ok (.iadd, 1) := by decide +kernel
theorem dX3_numberOf_20 : decode cX3_numberOf 20 = .ok (.invokevirtual 31, 3) := by decide +kernel
theorem dX3_numberOf_23 : decode cX3_numberOf 23 = .ok (.iadd, 1) := by decide +kernel
theorem dX3_numberOf_24 : decode cX3_numberOf 24 = .ok (.bipush 48, 2) := by decide +kernel
theorem dX3_numberOf_26 : decode cX3_numberOf 26 = .ok (.isub, 1) := by decide +kernel
theorem dX3_numberOf_27 : decode cX3_numberOf 27 = .ok (.istore_n 3, 1) := by decide +kernel
theorem dX3_numberOf_28 : decode cX3_numberOf 28 = .ok (.iinc 4 1, 3) := by decide +kernel
theorem dX3_numberOf_31 : decode cX3_numberOf 31 = .ok (.goto (-26), 3) := by decide +kernel
theorem dX3_numberOf_34 : decode cX3_numberOf 34 = .ok (.iload_n 3, 1) := by decide +kernel
theorem dX3_numberOf_35 : decode cX3_numberOf 35 = .ok (.ireturn, 1) := by decide +kernel
theorem dX4_init_0 : decode cX4_init 0 = .ok (.aload_n 0, 1) := by decide +kernel
theorem dX4_init_1 : decode cX4_init 1 = .ok (.invokespecial 3, 3) := by decide +kernel
theorem dX4_init_4 : decode cX4_init 4 = .ok (.aload_n 0, 1) := by decide +kernel
theorem dX4_init_5 : decode cX4_init 5 = .ok (.bipush 7, 2) := by decide +kernel
theorem dX4_init_7 : decode cX4_init 7 = .ok (.anewarray 9, 3) := by decide +kernel
theorem dX4_init_10 : decode cX4_init 10 = .ok (.putfield 11, 3) := by decide +kernel
theorem dX4_init_13 : decode cX4_init 13 = .ok (.aload_n 0, 1) := by decide +kernel
theorem dX4_init_14 : decode cX4_init 14 = .ok (.bipush 7, 2) := by decide +kernel
theorem dX4_init_16 : decode cX4_init 16 = .ok (.newarray .int, 2) := by decide +kernel
theorem dX4_init_18 : decode cX4_init 18 = .ok (.putfield 17, 3) := by decide +kernel
theorem dX4_init_21 : decode cX4_init 21 = .ok (.aload_n 0, 1) := by decide +kernel
theorem dX4_init_22 : decode cX4_init 22 = .ok (.bipush 56, 2) := by decide +kernel
theorem dX4_init_24 : decode cX4_init 24 = .ok (.newarray .int, 2) := by decide +kernel
theorem dX4_init_26 : decode cX4_init 26 = .ok (.putfield 21, 3) := by decide +kernel
theorem dX4_init_29 : decode cX4_init 29 = .ok (.aload_n 0, 1) := by decide +kernel
theorem dX4_init_30 : decode cX4_init 30 = .ok (.bipush 8, 2) := by decide +kernel
theorem dX4_init_32 : decode cX4_init 32 = .ok (.newarray .int, 2) := by decide +kernel
theorem dX4_init_34 : decode cX4_init 34 = .ok (.putfield 24, 3) := by decide +kernel
theorem dX4_init_37 : decode cX4_init 37 = .ok (.aload_n 0, 1) := by decide +kernel
theorem dX4_init_38 : decode cX4_init 38 = .ok (.iconst 0, 1) := by decide +kernel
theorem dX4_init_39 : decode cX4_init 39 = .ok (.putfield 27, 3) := by decide +kernel
theorem dX4_init_42 : decode cX4_init 42 = .ok (.aload_n 0, 1) := by decide +kernel
theorem dX4_init_43 : decode cX4_init 43 = .ok (.ldc2_w 31, 3) := by decide +kernel
theorem dX4_init_46 : decode cX4_init 46 = .ok (.putfield 33, 3) := by decide +kernel
theorem dX4_init_49 : decode cX4_init 49 = .ok (.iconst 0, 1) := by decide +kernel
theorem dX4_init_50 : decode cX4_init 50 = .ok (.istore_n 1, 1) := by decide +kernel
theorem dX4_init_51 : decode cX4_init 51 = .ok (.iload_n 1, 1) := by decide +kernel
theorem dX4_init_52 : decode cX4_init 52 = .ok (.bipush 7, 2) := by decide +kernel
theorem dX4_init_54 : decode cX4_init 54 = .ok (.if_icmp .ge 22, 3) := by decide +kernel
theorem dX4_init_57 : decode cX4_init 57 = .ok (.aload_n 0, 1) := by decide +kernel
theorem dX4_init_58 : decode cX4_init 58 = .ok (.getfield 11, 3) := by decide +kernel
theorem dX4_init_61 : decode cX4_init 61 = .ok (.iload_n 1, 1) := by decide +kernel
theorem dX4_init_62 : decode cX4_init 62 = .ok (.new 9, 3) := by decide +kernel
theorem dX4_init_65 : decode cX4_init 65 = .ok (.dup, 1) := by decide +kernel
theorem dX4_init_66 : decode cX4_init 66 = .ok (.invokespecial 37, 3) := by decide +kernel
theorem dX4_init_69 : decode cX4_init 69 = .ok (.aastore, 1) := by decide +kernel
theorem dX4_init_70 : decode cX4_init 70 = .ok (.iinc 1 1, 3) := by decide +kernel
theorem dX4_init_73 : decode cX4_init 73 = .ok (.goto (-22), 3) := by decide +kernel
theorem dX4_init_76 : decode cX4_init 76 = .ok (.aload_n 0, 1) := by decide +kernel
theorem dX4_init_77 : decode cX4_init 77 = .ok (.getfield 11, 3) := by decide +kernel
theorem dX4_init_80 : decode cX4_init 80 = .ok (.iconst 0, 1) := by decide +kernel
theorem dX4_init_81 : decode cX4_init 81 = .ok (.aaload, 1) := by decide +kernel
theorem dX4_init_82 : decode cX4_init 82 = .ok (.invokevirtual 38, 3) := by decide +kernel
theorem dX4_init_85 : decode cX4_init 85 = .ok (.aload_n 0, 1) := by decide +kernel
theorem dX4_init_86 : decode cX4_init 86 = .ok (.getfield 24, 3) := by decide +kernel
theorem dX4_init_89 : decode cX4_init 89 = .ok (.iconst (-1), 1) := by decide +kernel
theorem dX4_init_90 : decode cX4_init 90 = .ok (.invokestatic 41, 3) := by decide +kernel
theorem dX4_init_93 : decode cX4_init 93 = .ok (.return_, 1) := by decide +kernel
theorem dX4_forget_0 : decode cX4_forget 0 = .ok (.aload_n 0, 1) := by decide +kernel
theorem dX4_forget_1 : decode cX4_forget 1 = .ok (.getfield 24, 3) := by decide +kernel
theorem dX4_forget_4 : decode cX4_forget 4 = .ok (.iconst (-1), 1) := by decide +kernel
theorem dX4_forget_5 : decode cX4_forget 5 = .ok (.invokestatic 41, 3) := by decide +kernel
theorem dX4_forget_8 : decode cX4_forget 8 = .ok (.return_, 1) := by decide +kernel
theorem dX4_lengthWithin_0 : decode cX4_lengthWithin 0 = .ok (.iload_n 1, 1) := by decide +kernel
theorem dX4_lengthWithin_1 : decode cX4_lengthWithin 1 = .ok (.ifCond .lt 22, 3) := by decide +kernel
theorem dX4_lengthWithin_4 : decode cX4_lengthWithin 4 = .ok (.iload_n 1, 1) := by decide +kernel
theorem dX4_lengthWithin_5 : decode cX4_lengthWithin 5 = .ok (.bipush 7, 2) := by decide +kernel
theorem dX4_lengthWithin_7 : decode cX4_lengthWithin 7 = .ok (.if_icmp .gt 16, 3) := by decide +kernel
theorem dX4_lengthWithin_10 : decode cX4_lengthWithin 10 = .ok (.aload_n 0, 1) := by decide +kernel
theorem dX4_lengthWithin_11 : decode cX4_lengthWithin 11 = .ok (.getfield 24, 3) := by decide +kernel
theorem dX4_lengthWithin_14 : decode cX4_lengthWithin 14 = .ok (.iload_n 1, 1) := by decide +kernel
theorem dX4_lengthWithin_15 : decode cX4_lengthWithin 15 = .ok (.iaload, 1) := by decide +kernel
theorem dX4_lengthWithin_16 : decode cX4_lengthWithin 16 = .ok (.iconst 0, 1) := by decide +kernel
theorem dX4_lengthWithin_17 : decode cX4_lengthWithin 17 = .ok (.invokestatic 47, 3) := by decide +kernel
theorem dX4_lengthWithin_20 : decode cX4_lengthWithin 20 = .ok (.goto 4, 3) := by decide +kernel
theorem dX4_lengthWithin_23 : decode cX4_lengthWithin 23 = .ok (.iconst 0, 1) := by decide +kernel
theorem dX4_lengthWithin_24 : decode cX4_lengthWithin 24 = .ok (.ireturn, 1) := by decide +kernel
theorem dX4_memberWithin_0 : decode cX4_memberWithin 0 = .ok (.iload_n 2, 1) := by decide +kernel
theorem dX4_memberWithin_1 : decode cX4_memberWithin 1 = .ok (.ifCond .lt 12, 3) := by decide +kernel
theorem dX4_memberWithin_4 : decode cX4_memberWithin 4 = .ok (.iload_n 2, 1) := by decide +kernel
theorem dX4_memberWithin_5 : decode cX4_memberWithin 5 = .ok (.aload_n 0, 1) := by decide +kernel
theorem dX4_memberWithin_6 : decode cX4_memberWithin 6 = .ok (.iload_n 1, 1) := by decide +kernel
theorem dX4_memberWithin_7 : decode cX4_memberWithin 7 = .ok (.invokevirtual 53, 3) := by decide +kernel
theorem dX4_memberWithin_10 : decode cX4_memberWithin 10 = .ok (.if_icmp .lt 6, 3) := by decide +kernel
theorem dX4_memberWithin_13 : decode cX4_memberWithin 13 = .ok (.bipush (-4), 2) := by decide +kernel
theorem dX4_memberWithin_15 : decode cX4_memberWithin 15 = .ok (.ireturn, 1) := by decide +kernel
theorem dX4_memberWithin_16 : decode cX4_memberWithin 16 = .ok (.aload_n 0, 1) := by decide +kernel
theorem dX4_memberWithin_17 : decode cX4_memberWithin 17 = .ok (.getfield 21, 3) := by decide +kernel
theorem dX4_memberWithin_20 : decode cX4_memberWithin 20 = .ok (.iload_n 1, 1) := by decide +kernel
theorem dX4_memberWithin_21 : decode cX4_memberWithin 21 = .ok (.bipush 7, 2) := by decide +kernel
theorem dX4_memberWithin_23 : decode cX4_memberWithin 23 = .ok (.imul, 1) := by decide +kernel
theorem dX4_memberWithin_24 : decode cX4_memberWithin 24 = .ok (.iload_n 2, 1) := by decide +kernel
theorem dX4_memberWithin_25 : decode cX4_memberWithin 25 = .ok (.iadd, 1) := by decide +kernel
theorem dX4_memberWithin_26 : decode cX4_memberWithin 26 = .ok (.iaload, 1) := by decide +kernel
theorem dX4_memberWithin_27 : decode cX4_memberWithin 27 = .ok (.ireturn, 1) := by decide +kernel
theorem dX4_look_0 : decode cX4_look 0 = .ok (.iload_n 2, 1) := by decide +kernel
theorem dX4_look_1 : decode cX4_look 1 = .ok (.iconst 1, 1) := by decide +kernel
theorem dX4_look_2 : decode cX4_look 2 = .ok (.if_icmp .lt 19, 3) := by decide +kernel
theorem dX4_look_5 : decode cX4_look 5 = .ok (.iload_n 2, 1) := by decide +kernel
theorem dX4_look_6 : decode cX4_look 6 = .ok (.bipush 7, 2) := by decide +kernel
theorem dX4_look_8 : decode cX4_look 8 = .ok (.if_icmp .gt 13, 3) := by decide +kernel
theorem dX4_look_11 : decode cX4_look 11 = .ok (.aload_n 0, 1) := by decide +kernel
theorem dX4_look_12 : decode cX4_look 12 = .ok (.getfield 24, 3) := by decide +kernel
theorem dX4_look_15 : decode cX4_look 15 = .ok (.iload_n 2, 1) := by decide +kernel
theorem dX4_look_16 : decode cX4_look 16 = .ok (.iaload, 1) := by decide +kernel
theorem dX4_look_17 : decode cX4_look 17 = .ok (.iconst (-1), 1) := by decide +kernel
theorem dX4_look_18 : decode cX4_look 18 = .ok (.if_icmp .eq 4, 3) := by decide +kernel
theorem dX4_look_21 : decode cX4_look 21 = .ok (.return_, 1) := by decide +kernel
theorem dX4_look_22 : decode cX4_look 22 = .ok (.aload_n 0, 1) := by decide +kernel
theorem dX4_look_23 : decode cX4_look 23 = .ok (.iload_n 2, 1) := by decide +kernel
theorem dX4_look_24 : decode cX4_look 24 = .ok (.putfield 27, 3) := by decide +kernel
theorem dX4_look_27 : decode cX4_look 27 = .ok (.aload_n 0, 1) := by decide +kernel
theorem dX4_look_28 : decode cX4_look 28 = .ok (.ldc2_w 31, 3) := by decide +kernel
theorem dX4_look_31 : decode cX4_look 31 = .ok (.putfield 33, 3) := by decide +kernel
theorem dX4_look_34 : decode cX4_look 34 = .ok (.aload_n 0, 1) := by decide +kernel
theorem dX4_look_35 : decode cX4_look 35 = .ok (.getfield 24, 3) := by decide +kernel
theorem dX4_look_38 : decode cX4_look 38 = .ok (.iload_n 2, 1) := by decide +kernel
theorem dX4_look_39 : decode cX4_look 39 = .ok (.iconst 0, 1) := by decide +kernel
theorem dX4_look_40 : decode cX4_look 40 = .ok (.iastore, 1) := by decide +kernel
theorem dX4_look_41 : decode cX4_look 41 = .ok (.aload_n 0, 1) := by decide +kernel
theorem dX4_look_42 : decode cX4_look 42 = .ok (.aload_n 1, 1) := by decide +kernel
theorem dX4_look_43 : decode cX4_look 43 = .ok (.iconst 0, 1) := by decide +kernel
theorem dX4_look_44 : decode cX4_look 44 = .ok (.aload_n 1, 1) := by decide +kernel
theorem dX4_look_45 : decode cX4_look 45 = .ok (.invokevirtual 57, 3) := by decide +kernel
theorem dX4_look_48 : decode cX4_look 48 = .ok (.iconst 0, 1) := by decide +kernel
theorem dX4_look_49 : decode cX4_look 49 = .ok (.invokevirtual 63, 3) := by decide +kernel
theorem dX4_look_52 : decode cX4_look 52 = .ok (.return_, 1) := by decide +kernel
theorem dX4_extend_0 : decode cX4_extend 0 = .ok (.iload_n 2, 1) := by decide +kernel
theorem dX4_extend_1 : decode cX4_extend 1 = .ok (.ifCond .lt 17, 3) := by decide +kernel
theorem dX4_extend_4 : decode cX4_extend 4 = .ok (.iload_n 2, 1) := by decide +kernel
theorem dX4_extend_5 : decode cX4_extend 5 = .ok (.aload_n 0, 1) := by decide +kernel
theorem dX4_extend_6 : decode cX4_extend 6 = .ok (.getfield 27, 3) := by decide +kernel
theorem dX4_extend_9 : decode cX4_extend 9 = .ok (.if_icmp .ge 9, 3) := by decide +kernel
theorem dX4_extend_12 : decode cX4_extend 12 = .ok (.iload_n 2, 1) := by decide +kernel
theorem dX4_extend_13 : decode cX4_extend 13 = .ok (.bipush 7, 2) := by decide +kernel
theorem dX4_extend_15 : decode cX4_extend 15 = .ok (.if_icmp .lt 4, 3) := by decide +kernel
theorem dX4_extend_18 : decode cX4_extend 18 = .ok (.return_, 1) := by decide +kernel
theorem dX4_extend_19 : decode cX4_extend 19 = .ok (.iconst 0, 1) := by decide +kernel
theorem dX4_extend_20 : decode cX4_extend 20 = .ok (.istore 5, 2) := by decide +kernel
theorem dX4_extend_22 : decode cX4_extend 22 = .ok (.iload 5, 2) := by decide +kernel
theorem dX4_extend_24 : decode cX4_extend 24 = .ok (.aload_n 1, 1) := by decide +kernel
theorem dX4_extend_25 : decode cX4_extend 25 = .ok (.invokevirtual 67, 3) := by decide +kernel
theorem dX4_extend_28 : decode cX4_extend 28 = .ok (.if_icmp .ge 111, 3) := by decide +kernel
theorem dX4_extend_31 : decode cX4_extend 31 = .ok (.aload_n 1, 1) := by decide +kernel
theorem dX4_extend_32 : decode cX4_extend 32 = .ok (.iload 5, 2) := by decide +kernel
theorem dX4_extend_34 : decode cX4_extend 34 = .ok (.iload_n 3, 1) := by decide +kernel
theorem dX4_extend_35 : decode cX4_extend 35 = .ok (.invokevirtual 70, 3) := by decide +kernel
theorem dX4_extend_38 : decode cX4_extend 38 = .ok (.istore 6, 2) := by decide +kernel
theorem dX4_extend_40 : decode cX4_extend 40 = .ok (.iload 6, 2) := by decide +kernel
theorem dX4_extend_42 : decode cX4_extend 42 = .ok (.bipush (-4), 2) := by decide +kernel
theorem dX4_extend_44 : decode cX4_extend 44 = .ok (.if_icmp .eq 89, 3) := by decide +kernel
theorem dX4_extend_47 : decode cX4_extend 47 = .ok (.iload 4, 2) := by decide +kernel
theorem dX4_extend_49 : decode cX4_extend 49 = .ok (.iload 5, 2) := by decide +kernel
theorem dX4_extend_51 : decode cX4_extend 51 = .ok (.ishr, 1) := by decide +kernel
theorem dX4_extend_52 : decode cX4_extend 52 = .ok (.iconst 1, 1) := by decide +kernel
theorem dX4_extend_53 : decode cX4_extend 53 = .ok (.iand, 1) := by decide +kernel
theorem dX4_extend_54 : decode cX4_extend 54 = .ok (.ifCond .eq 6, 3) := by decide +kernel
theorem dX4_extend_57 : decode cX4_extend 57 = .ok (.goto 76, 3) := by decide +kernel
theorem dX4_extend_60 : decode cX4_extend 60 = .ok (.iload_n 2, 1) := by decide +kernel
theorem dX4_extend_61 : decode cX4_extend 61 = .ok (.ifCond .le 23, 3) := by decide +kernel
theorem dX4_extend_64 : decode cX4_extend 64 = .ok (.aload_n 1, 1) := by decide +kernel
theorem dX4_extend_65 : decode cX4_extend 65 = .ok (.aload_n 0, 1) := by decide +kernel
theorem dX4_extend_66 : decode cX4_extend 66 = .ok (.getfield 17, 3) := by decide +kernel
theorem dX4_extend_69 : decode cX4_extend 69 = .ok (.iload_n 2, 1) := by decide +kernel
theorem dX4_extend_70 : decode cX4_extend 70 = .ok (.iconst 1, 1) := by decide +kernel
theorem dX4_extend_71 : decode cX4_extend 71 = .ok (.isub, 1) := by decide +kernel
theorem dX4_extend_72 : decode cX4_extend 72 = .ok (.iaload, 1) := by decide +kernel
theorem dX4_extend_73 : decode cX4_extend 73 = .ok (.iload 5, 2) := by decide +kernel
theorem dX4_extend_75 : decode cX4_extend 75 = .ok (.invokevirtual 73, 3) := by decide +kernel
theorem dX4_extend_78 : decode cX4_extend 78 = .ok (.ifCond .eq 6, 3) := by decide +kernel
theorem dX4_extend_81 : decode cX4_extend 81 = .ok (.goto 52, 3) := by decide +kernel
theorem dX4_extend_84 : decode cX4_extend 84 = .ok (.aload_n 0, 1) := by decide +kernel
theorem dX4_extend_85 : decode cX4_extend 85 = .ok (.getfield 17, 3) := by decide +kernel
theorem dX4_extend_88 : decode cX4_extend 88 = .ok (.iload_n 2, 1) := by decide +kernel
theorem dX4_extend_89 : decode cX4_extend 89 = .ok (.iload 5, 2) := by decide +kernel
theorem dX4_extend_91 : decode cX4_extend 91 = .ok (.iastore, 1) := by decide +kernel
theorem dX4_extend_92 : decode cX4_extend 92 = .ok (.iload 6, 2) := by decide +kernel
theorem dX4_extend_94 : decode cX4_extend 94 = .ok (.aload_n 1, 1) := by decide +kernel
theorem dX4_extend_95 : decode cX4_extend 95 = .ok (.invokevirtual 77, 3) := by decide +kernel
theorem dX4_extend_98 : decode cX4_extend 98 = .ok (.if_icmp .ne 9, 3) := by decide +kernel
theorem dX4_extend_101 : decode cX4_extend 101 = .ok (.aload_n 0, 1) := by decide +kernel
theorem dX4_extend_102 : decode cX4_extend 102 = .ok (.aload_n 1, 1) := by decide +kernel
theorem dX4_extend_103 : decode cX4_extend 103 = .ok (.iload_n 2, 1) := by decide +kernel
theorem dX4_extend_104 : decode cX4_extend 104 = .ok (.invokevirtual 80, 3) := by decide +kernel
theorem dX4_extend_107 : decode cX4_extend 107 = .ok (.aload_n 0, 1) := by decide +kernel
theorem dX4_extend_108 : decode cX4_extend 108 = .ok (.aload_n 1, 1) := by decide +kernel
theorem dX4_extend_109 : decode cX4_extend 109 = .ok (.iload_n 2, 1) := by decide +kernel
theorem dX4_extend_110 : decode cX4_extend 110 = .ok (.invokevirtual 84, 3) := by decide +kernel
theorem dX4_extend_113 : decode cX4_extend 113 = .ok (.ifCond .eq 20, 3) := by decide +kernel
theorem dX4_extend_116 : decode cX4_extend 116 = .ok (.aload_n 0, 1) := by decide +kernel
theorem dX4_extend_117 : decode cX4_extend 117 = .ok (.aload_n 1, 1) := by decide +kernel
theorem dX4_extend_118 : decode cX4_extend 118 = .ok (.iload_n 2, 1) := by decide +kernel
theorem dX4_extend_119 : decode cX4_extend 119 = .ok (.iconst 1, 1) := by decide +kernel
theorem dX4_extend_120 : decode cX4_extend 120 = .ok (.iadd, 1) := by decide +kernel
theorem dX4_extend_121 : decode cX4_extend 121 = .ok (.iload 6, 2) := by decide +kernel
theorem dX4_extend_123 : decode cX4_extend 123 = .ok (.iload 4, 2) := by decide +kernel
theorem dX4_extend_125 : decode cX4_extend 125 = .ok (.iconst 1, 1) := by decide +kernel
theorem dX4_extend_126 : decode cX4_extend 126 = .ok (.iload 5, 2) := by decide +kernel
theorem dX4_extend_128 : decode cX4_extend 128 = .ok (.ishl, 1) := by decide +kernel
theorem dX4_extend_129 : decode cX4_extend 129 = .ok (.ior, 1) := by decide +kernel
theorem dX4_extend_130 : decode cX4_extend 130 = .ok (.invokevirtual 63, 3) := by decide +kernel
theorem dX4_extend_133 : decode cX4_extend 133 = .ok (.iinc 5 1, 3) := by decide +kernel
theorem dX4_extend_136 : decode cX4_extend 136 = .ok (.goto (-114), 3) := by decide +kernel
theorem dX4_extend_139 : decode cX4_extend 139 = .ok (.return_, 1) := by decide +kernel
theorem dX4_weigh_0 : decode cX4_weigh 0 = .ok (.aload_n 0, 1) := by decide +kernel
theorem dX4_weigh_1 : decode cX4_weigh 1 = .ok (.getfield 17, 3) := by decide +kernel
theorem dX4_weigh_4 : decode cX4_weigh 4 = .ok (.iload_n 2, 1) := by decide +kernel
theorem dX4_weigh_5 : decode cX4_weigh 5 = .ok (.iaload, 1) := by decide +kernel
theorem dX4_weigh_6 : decode cX4_weigh 6 = .ok (.istore_n 3, 1) := by decide +kernel
theorem dX4_weigh_7 : decode cX4_weigh 7 = .ok (.aload_n 0, 1) := by decide +kernel
theorem dX4_weigh_8 : decode cX4_weigh 8 = .ok (.getfield 11, 3) := by decide +kernel
theorem dX4_weigh_11 : decode cX4_weigh 11 = .ok (.iload_n 2, 1) := by decide +kernel
theorem dX4_weigh_12 : decode cX4_weigh 12 = .ok (.aaload, 1) := by decide +kernel
theorem dX4_weigh_13 : decode cX4_weigh 13 = .ok (.aload_n 1, 1) := by decide +kernel
theorem dX4_weigh_14 : decode cX4_weigh 14 = .ok (.iload_n 3, 1) := by decide +kernel
theorem dX4_weigh_15 : decode cX4_weigh 15 = .ok (.iconst 2, 1) := by decide +kernel
theorem dX4_weigh_16 : decode cX4_weigh 16 = .ok (.invokevirtual 88, 3) := by decide +kernel
theorem dX4_weigh_19 : decode cX4_weigh 19 = .ok (.aload_n 1, 1) := by decide +kernel
theorem dX4_weigh_20 : decode cX4_weigh 20 = .ok (.iload_n 3, 1) := by decide +kernel
theorem dX4_weigh_21 : decode cX4_weigh 21 = .ok (.iconst 3, 1) := by decide +kernel
theorem dX4_weigh_22 : decode cX4_weigh 22 = .ok (.invokevirtual 88, 3) := by decide +kernel
theorem dX4_weigh_25 : decode cX4_weigh 25 = .ok (.invokevirtual 91, 3) := by decide +kernel
theorem dX4_weigh_28 : decode cX4_weigh 28 = .ok (.lstore 4, 2) := by decide +kernel
theorem dX4_weigh_30 : decode cX4_weigh 30 = .ok (.lload 4, 2) := by decide +kernel
