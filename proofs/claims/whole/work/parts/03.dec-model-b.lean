theorem d_R_method_14 : decode b_R_method 14 = .ok (.ifCond .ne 5, 3) := by decide +kernel
theorem d_R_method_17 : decode b_R_method 17 = .ok (.iconst (-1), 1) := by decide +kernel
theorem d_R_method_18 : decode b_R_method 18 = .ok (.ireturn, 1) := by decide +kernel
theorem d_R_method_19 : decode b_R_method 19 = .ok (.aload_n 0, 1) := by decide +kernel
theorem d_R_method_20 : decode b_R_method 20 = .ok (.iconst 2, 1) := by decide +kernel
theorem d_R_method_21 : decode b_R_method 21 = .ok (.bipush 10, 2) := by decide +kernel
theorem d_R_method_23 : decode b_R_method 23 = .ok (.iconst 2, 1) := by decide +kernel
theorem d_R_method_24 : decode b_R_method 24 = .ok (.iconst 0, 1) := by decide +kernel
theorem d_R_method_25 : decode b_R_method 25 = .ok (.invokevirtual 126, 3) := by decide +kernel
theorem d_R_method_28 : decode b_R_method 28 = .ok (.istore 5, 2) := by decide +kernel
theorem d_R_method_30 : decode b_R_method 30 = .ok (.iload 5, 2) := by decide +kernel
theorem d_R_method_32 : decode b_R_method 32 = .ok (.ifCond .ge 6, 3) := by decide +kernel
theorem d_R_method_35 : decode b_R_method 35 = .ok (.bipush (-2), 2) := by decide +kernel
theorem d_R_method_37 : decode b_R_method 37 = .ok (.ireturn, 1) := by decide +kernel
theorem d_R_method_38 : decode b_R_method 38 = .ok (.aload_n 0, 1) := by decide +kernel
theorem d_R_method_39 : decode b_R_method 39 = .ok (.iload 5, 2) := by decide +kernel
theorem d_R_method_41 : decode b_R_method 41 = .ok (.iload_n 2, 1) := by decide +kernel
theorem d_R_method_42 : decode b_R_method 42 = .ok (.iload_n 3, 1) := by decide +kernel
theorem d_R_method_43 : decode b_R_method 43 = .ok (.iload 4, 2) := by decide +kernel
theorem d_R_method_45 : decode b_R_method 45 = .ok (.invokevirtual 130, 3) := by decide +kernel
theorem d_R_method_48 : decode b_R_method 48 = .ok (.aload_n 0, 1) := by decide +kernel
theorem d_R_method_49 : decode b_R_method 49 = .ok (.getfield 13, 3) := by decide +kernel
theorem d_R_method_52 : decode b_R_method 52 = .ok (.iload_n 1, 1) := by decide +kernel
theorem d_R_method_53 : decode b_R_method 53 = .ok (.iconst 2, 1) := by decide +kernel
theorem d_R_method_54 : decode b_R_method 54 = .ok (.iload 5, 2) := by decide +kernel
theorem d_R_method_56 : decode b_R_method 56 = .ok (.imul, 1) := by decide +kernel
theorem d_R_method_57 : decode b_R_method 57 = .ok (.iconst 2, 1) := by decide +kernel
theorem d_R_method_58 : decode b_R_method 58 = .ok (.iadd, 1) := by decide +kernel
theorem d_R_method_59 : decode b_R_method 59 = .ok (.iastore, 1) := by decide +kernel
theorem d_R_method_60 : decode b_R_method 60 = .ok (.aload_n 0, 1) := by decide +kernel
theorem d_R_method_61 : decode b_R_method 61 = .ok (.getfield 21, 3) := by decide +kernel
theorem d_R_method_64 : decode b_R_method 64 = .ok (.iload 5, 2) := by decide +kernel
theorem d_R_method_66 : decode b_R_method 66 = .ok (.iaload, 1) := by decide +kernel
theorem d_R_method_67 : decode b_R_method 67 = .ok (.ireturn, 1) := by decide +kernel
theorem d_R_change_0 : decode b_R_change 0 = .ok (.aload_n 0, 1) := by decide +kernel
theorem d_R_change_1 : decode b_R_change 1 = .ok (.iload_n 1, 1) := by decide +kernel
theorem d_R_change_2 : decode b_R_change 2 = .ok (.iconst 2, 1) := by decide +kernel
theorem d_R_change_3 : decode b_R_change 3 = .ok (.iconst 2, 1) := by decide +kernel
theorem d_R_change_4 : decode b_R_change 4 = .ok (.invokevirtual 83, 3) := by decide +kernel
theorem d_R_change_7 : decode b_R_change 7 = .ok (.istore 5, 2) := by decide +kernel
theorem d_R_change_9 : decode b_R_change 9 = .ok (.iload 5, 2) := by decide +kernel
theorem d_R_change_11 : decode b_R_change 11 = .ok (.ifCond .lt 13, 3) := by decide +kernel
theorem d_R_change_14 : decode b_R_change 14 = .ok (.iload_n 2, 1) := by decide +kernel
theorem d_R_change_15 : decode b_R_change 15 = .ok (.iload_n 3, 1) := by decide +kernel
theorem d_R_change_16 : decode b_R_change 16 = .ok (.iload 4, 2) := by decide +kernel
theorem d_R_change_18 : decode b_R_change 18 = .ok (.invokestatic 122, 3) := by decide +kernel
theorem d_R_change_21 : decode b_R_change 21 = .ok (.ifCond .ne 5, 3) := by decide +kernel
theorem d_R_change_24 : decode b_R_change 24 = .ok (.iconst 0, 1) := by decide +kernel
theorem d_R_change_25 : decode b_R_change 25 = .ok (.ireturn, 1) := by decide +kernel
theorem d_R_change_26 : decode b_R_change 26 = .ok (.aload_n 0, 1) := by decide +kernel
theorem d_R_change_27 : decode b_R_change 27 = .ok (.iload 5, 2) := by decide +kernel
theorem d_R_change_29 : decode b_R_change 29 = .ok (.iload_n 2, 1) := by decide +kernel
theorem d_R_change_30 : decode b_R_change 30 = .ok (.iload_n 3, 1) := by decide +kernel
theorem d_R_change_31 : decode b_R_change 31 = .ok (.iload 4, 2) := by decide +kernel
theorem d_R_change_33 : decode b_R_change 33 = .ok (.invokevirtual 130, 3) := by decide +kernel
theorem d_R_change_36 : decode b_R_change 36 = .ok (.iconst 1, 1) := by decide +kernel
theorem d_R_change_37 : decode b_R_change 37 = .ok (.ireturn, 1) := by decide +kernel
theorem d_R_settle_0 : decode b_R_settle 0 = .ok (.aload_n 0, 1) := by decide +kernel
theorem d_R_settle_1 : decode b_R_settle 1 = .ok (.getfield 33, 3) := by decide +kernel
theorem d_R_settle_4 : decode b_R_settle 4 = .ok (.iload_n 2, 1) := by decide +kernel
theorem d_R_settle_5 : decode b_R_settle 5 = .ok (.iload_n 3, 1) := by decide +kernel
theorem d_R_settle_6 : decode b_R_settle 6 = .ok (.iastore, 1) := by decide +kernel
theorem d_R_settle_7 : decode b_R_settle 7 = .ok (.aload_n 0, 1) := by decide +kernel
theorem d_R_settle_8 : decode b_R_settle 8 = .ok (.getfield 36, 3) := by decide +kernel
theorem d_R_settle_11 : decode b_R_settle 11 = .ok (.iload_n 2, 1) := by decide +kernel
theorem d_R_settle_12 : decode b_R_settle 12 = .ok (.iload 4, 2) := by decide +kernel
theorem d_R_settle_14 : decode b_R_settle 14 = .ok (.bastore, 1) := by decide +kernel
theorem d_R_settle_15 : decode b_R_settle 15 = .ok (.aload_n 0, 1) := by decide +kernel
theorem d_R_settle_16 : decode b_R_settle 16 = .ok (.getfield 40, 3) := by decide +kernel
theorem d_R_settle_19 : decode b_R_settle 19 = .ok (.iload_n 2, 1) := by decide +kernel
theorem d_R_settle_20 : decode b_R_settle 20 = .ok (.iload 5, 2) := by decide +kernel
theorem d_R_settle_22 : decode b_R_settle 22 = .ok (.iastore, 1) := by decide +kernel
theorem d_R_settle_23 : decode b_R_settle 23 = .ok (.aload_n 0, 1) := by decide +kernel
theorem d_R_settle_24 : decode b_R_settle 24 = .ok (.getfield 43, 3) := by decide +kernel
theorem d_R_settle_27 : decode b_R_settle 27 = .ok (.iload_n 2, 1) := by decide +kernel
theorem d_R_settle_28 : decode b_R_settle 28 = .ok (.iload 6, 2) := by decide +kernel
theorem d_R_settle_30 : decode b_R_settle 30 = .ok (.iastore, 1) := by decide +kernel
theorem d_R_settle_31 : decode b_R_settle 31 = .ok (.aload_n 0, 1) := by decide +kernel
theorem d_R_settle_32 : decode b_R_settle 32 = .ok (.getfield 13, 3) := by decide +kernel
theorem d_R_settle_35 : decode b_R_settle 35 = .ok (.iload_n 1, 1) := by decide +kernel
theorem d_R_settle_36 : decode b_R_settle 36 = .ok (.iconst 2, 1) := by decide +kernel
theorem d_R_settle_37 : decode b_R_settle 37 = .ok (.iload_n 2, 1) := by decide +kernel
theorem d_R_settle_38 : decode b_R_settle 38 = .ok (.imul, 1) := by decide +kernel
theorem d_R_settle_39 : decode b_R_settle 39 = .ok (.iconst 2, 1) := by decide +kernel
theorem d_R_settle_40 : decode b_R_settle 40 = .ok (.iadd, 1) := by decide +kernel
theorem d_R_settle_41 : decode b_R_settle 41 = .ok (.iastore, 1) := by decide +kernel
theorem d_R_settle_42 : decode b_R_settle 42 = .ok (.aload_n 0, 1) := by decide +kernel
theorem d_R_settle_43 : decode b_R_settle 43 = .ok (.getfield 21, 3) := by decide +kernel
theorem d_R_settle_46 : decode b_R_settle 46 = .ok (.iload_n 2, 1) := by decide +kernel
theorem d_R_settle_47 : decode b_R_settle 47 = .ok (.iaload, 1) := by decide +kernel
theorem d_R_settle_48 : decode b_R_settle 48 = .ok (.ireturn, 1) := by decide +kernel
theorem d_R_context_0 : decode b_R_context 0 = .ok (.aload_n 0, 1) := by decide +kernel
theorem d_R_context_1 : decode b_R_context 1 = .ok (.iload_n 2, 1) := by decide +kernel
theorem d_R_context_2 : decode b_R_context 2 = .ok (.iconst 2, 1) := by decide +kernel
theorem d_R_context_3 : decode b_R_context 3 = .ok (.iconst 2, 1) := by decide +kernel
theorem d_R_context_4 : decode b_R_context 4 = .ok (.invokevirtual 83, 3) := by decide +kernel
theorem d_R_context_7 : decode b_R_context 7 = .ok (.istore 4, 2) := by decide +kernel
theorem d_R_context_9 : decode b_R_context 9 = .ok (.iload_n 1, 1) := by decide +kernel
theorem d_R_context_10 : decode b_R_context 10 = .ok (.invokestatic 76, 3) := by decide +kernel
theorem d_R_context_13 : decode b_R_context 13 = .ok (.ifCond .eq 16, 3) := by decide +kernel
theorem d_R_context_16 : decode b_R_context 16 = .ok (.iload 4, 2) := by decide +kernel
theorem d_R_context_18 : decode b_R_context 18 = .ok (.ifCond .lt 11, 3) := by decide +kernel
theorem d_R_context_21 : decode b_R_context 21 = .ok (.aload_n 0, 1) := by decide +kernel
theorem d_R_context_22 : decode b_R_context 22 = .ok (.iload_n 3, 1) := by decide +kernel
theorem d_R_context_23 : decode b_R_context 23 = .ok (.invokevirtual 134, 3) := by decide +kernel
theorem d_R_context_26 : decode b_R_context 26 = .ok (.ifCond .ne 5, 3) := by decide +kernel
theorem d_R_context_29 : decode b_R_context 29 = .ok (.iconst (-1), 1) := by decide +kernel
theorem d_R_context_30 : decode b_R_context 30 = .ok (.ireturn, 1) := by decide +kernel
theorem d_R_context_31 : decode b_R_context 31 = .ok (.aload_n 0, 1) := by decide +kernel
theorem d_R_context_32 : decode b_R_context 32 = .ok (.getfield 27, 3) := by decide +kernel
theorem d_R_context_35 : decode b_R_context 35 = .ok (.iload 4, 2) := by decide +kernel
theorem d_R_context_37 : decode b_R_context 37 = .ok (.iaload, 1) := by decide +kernel
theorem d_R_context_38 : decode b_R_context 38 = .ok (.istore 5, 2) := by decide +kernel
theorem d_R_context_40 : decode b_R_context 40 = .ok (.aload_n 0, 1) := by decide +kernel
theorem d_R_context_41 : decode b_R_context 41 = .ok (.getfield 30, 3) := by decide +kernel
theorem d_R_context_44 : decode b_R_context 44 = .ok (.iload 4, 2) := by decide +kernel
theorem d_R_context_46 : decode b_R_context 46 = .ok (.iaload, 1) := by decide +kernel
theorem d_R_context_47 : decode b_R_context 47 = .ok (.istore 6, 2) := by decide +kernel
theorem d_R_context_49 : decode b_R_context 49 = .ok (.aload_n 0, 1) := by decide +kernel
theorem d_R_context_50 : decode b_R_context 50 = .ok (.iconst 3, 1) := by decide +kernel
theorem d_R_context_51 : decode b_R_context 51 = .ok (.bipush 9, 2) := by decide +kernel
theorem d_R_context_53 : decode b_R_context 53 = .ok (.iload 5, 2) := by decide +kernel
theorem d_R_context_55 : decode b_R_context 55 = .ok (.iadd, 1) := by decide +kernel
theorem d_R_context_56 : decode b_R_context 56 = .ok (.iload 6, 2) := by decide +kernel
theorem d_R_context_58 : decode b_R_context 58 = .ok (.iadd, 1) := by decide +kernel
theorem d_R_context_59 : decode b_R_context 59 = .ok (.iconst 1, 1) := by decide +kernel
theorem d_R_context_60 : decode b_R_context 60 = .ok (.iload 5, 2) := by decide +kernel
theorem d_R_context_62 : decode b_R_context 62 = .ok (.iload 6, 2) := by decide +kernel
theorem d_R_context_64 : decode b_R_context 64 = .ok (.iadd, 1) := by decide +kernel
theorem d_R_context_65 : decode b_R_context 65 = .ok (.invokevirtual 126, 3) := by decide +kernel
theorem d_R_context_68 : decode b_R_context 68 = .ok (.istore 7, 2) := by decide +kernel
theorem d_R_context_70 : decode b_R_context 70 = .ok (.iload 7, 2) := by decide +kernel
theorem d_R_context_72 : decode b_R_context 72 = .ok (.ifCond .ge 8, 3) := by decide +kernel
theorem d_R_context_75 : decode b_R_context 75 = .ok (.bipush (-2), 2) := by decide +kernel
theorem d_R_context_77 : decode b_R_context 77 = .ok (.goto 21, 3) := by decide +kernel
theorem d_R_context_80 : decode b_R_context 80 = .ok (.aload_n 0, 1) := by decide +kernel
theorem d_R_context_81 : decode b_R_context 81 = .ok (.iload_n 1, 1) := by decide +kernel
theorem d_R_context_82 : decode b_R_context 82 = .ok (.iload 7, 2) := by decide +kernel
theorem d_R_context_84 : decode b_R_context 84 = .ok (.aload_n 0, 1) := by decide +kernel
theorem d_R_context_85 : decode b_R_context 85 = .ok (.getfield 13, 3) := by decide +kernel
theorem d_R_context_88 : decode b_R_context 88 = .ok (.iload_n 3, 1) := by decide +kernel
theorem d_R_context_89 : decode b_R_context 89 = .ok (.iaload, 1) := by decide +kernel
theorem d_R_context_90 : decode b_R_context 90 = .ok (.iconst 0, 1) := by decide +kernel
theorem d_R_context_91 : decode b_R_context 91 = .ok (.iload 5, 2) := by decide +kernel
theorem d_R_context_93 : decode b_R_context 93 = .ok (.iload 4, 2) := by decide +kernel
theorem d_R_context_95 : decode b_R_context 95 = .ok (.invokevirtual 137, 3) := by decide +kernel
theorem d_R_context_98 : decode b_R_context 98 = .ok (.ireturn, 1) := by decide +kernel
theorem d_R_homeOf_0 : decode b_R_homeOf 0 = .ok (.aload_n 0, 1) := by decide +kernel
theorem d_R_homeOf_1 : decode b_R_homeOf 1 = .ok (.getfield 17, 3) := by decide +kernel
theorem d_R_homeOf_4 : decode b_R_homeOf 4 = .ok (.iload_n 1, 1) := by decide +kernel
theorem d_R_homeOf_5 : decode b_R_homeOf 5 = .ok (.baload, 1) := by decide +kernel
theorem d_R_homeOf_6 : decode b_R_homeOf 6 = .ok (.iconst 4, 1) := by decide +kernel
theorem d_R_homeOf_7 : decode b_R_homeOf 7 = .ok (.if_icmp .ne 12, 3) := by decide +kernel
theorem d_R_homeOf_10 : decode b_R_homeOf 10 = .ok (.aload_n 0, 1) := by decide +kernel
theorem d_R_homeOf_11 : decode b_R_homeOf 11 = .ok (.getfield 43, 3) := by decide +kernel
theorem d_R_homeOf_14 : decode b_R_homeOf 14 = .ok (.iload_n 1, 1) := by decide +kernel
theorem d_R_homeOf_15 : decode b_R_homeOf 15 = .ok (.iaload, 1) := by decide +kernel
theorem d_R_homeOf_16 : decode b_R_homeOf 16 = .ok (.goto 4, 3) := by decide +kernel
theorem d_R_homeOf_19 : decode b_R_homeOf 19 = .ok (.iload_n 1, 1) := by decide +kernel
theorem d_R_homeOf_20 : decode b_R_homeOf 20 = .ok (.ireturn, 1) := by decide +kernel
theorem d_R_block_0 : decode b_R_block 0 = .ok (.aload_n 0, 1) := by decide +kernel
theorem d_R_block_1 : decode b_R_block 1 = .ok (.iload_n 2, 1) := by decide +kernel
theorem d_R_block_2 : decode b_R_block 2 = .ok (.invokevirtual 87, 3) := by decide +kernel
theorem d_R_block_5 : decode b_R_block 5 = .ok (.istore 4, 2) := by decide +kernel
theorem d_R_block_7 : decode b_R_block 7 = .ok (.iload_n 1, 1) := by decide +kernel
theorem d_R_block_8 : decode b_R_block 8 = .ok (.invokestatic 76, 3) := by decide +kernel
theorem d_R_block_11 : decode b_R_block 11 = .ok (.ifCond .eq 18, 3) := by decide +kernel
theorem d_R_block_14 : decode b_R_block 14 = .ok (.iload 4, 2) := by decide +kernel
theorem d_R_block_16 : decode b_R_block 16 = .ok (.ifCond .lt 13, 3) := by decide +kernel
theorem d_R_block_19 : decode b_R_block 19 = .ok (.iload_n 3, 1) := by decide +kernel
theorem d_R_block_20 : decode b_R_block 20 = .ok (.ifCond .lt 9, 3) := by decide +kernel
theorem d_R_block_23 : decode b_R_block 23 = .ok (.iload_n 3, 1) := by decide +kernel
theorem d_R_block_24 : decode b_R_block 24 = .ok (.bipush 15, 2) := by decide +kernel
theorem d_R_block_26 : decode b_R_block 26 = .ok (.if_icmp .le 5, 3) := by decide +kernel
theorem d_R_block_29 : decode b_R_block 29 = .ok (.iconst (-1), 1) := by decide +kernel
theorem d_R_block_30 : decode b_R_block 30 = .ok (.ireturn, 1) := by decide +kernel
theorem d_R_block_31 : decode b_R_block 31 = .ok (.aload_n 0, 1) := by decide +kernel
theorem d_R_block_32 : decode b_R_block 32 = .ok (.iload 4, 2) := by decide +kernel
theorem d_R_block_34 : decode b_R_block 34 = .ok (.invokevirtual 141, 3) := by decide +kernel
theorem d_R_block_37 : decode b_R_block 37 = .ok (.istore 5, 2) := by decide +kernel
theorem d_R_block_39 : decode b_R_block 39 = .ok (.aload_n 0, 1) := by decide +kernel
theorem d_R_block_40 : decode b_R_block 40 = .ok (.getfield 30, 3) := by decide +kernel
theorem d_R_block_43 : decode b_R_block 43 = .ok (.aload_n 0, 1) := by decide +kernel
theorem d_R_block_44 : decode b_R_block 44 = .ok (.getfield 43, 3) := by decide +kernel
theorem d_R_block_47 : decode b_R_block 47 = .ok (.iload 5, 2) := by decide +kernel
theorem d_R_block_49 : decode b_R_block 49 = .ok (.iaload, 1) := by decide +kernel
theorem d_R_block_50 : decode b_R_block 50 = .ok (.iaload, 1) := by decide +kernel
theorem d_R_block_51 : decode b_R_block 51 = .ok (.istore 6, 2) := by decide +kernel
theorem d_R_block_53 : decode b_R_block 53 = .ok (.aload_n 0, 1) := by decide +kernel
theorem d_R_block_54 : decode b_R_block 54 = .ok (.iconst 4, 1) := by decide +kernel
theorem d_R_block_55 : decode b_R_block 55 = .ok (.bipush 10, 2) := by decide +kernel
theorem d_R_block_57 : decode b_R_block 57 = .ok (.iload 6, 2) := by decide +kernel
theorem d_R_block_59 : decode b_R_block 59 = .ok (.iadd, 1) := by decide +kernel
theorem d_R_block_60 : decode b_R_block 60 = .ok (.iconst 1, 1) := by decide +kernel
theorem d_R_block_61 : decode b_R_block 61 = .ok (.iload 6, 2) := by decide +kernel
theorem d_R_block_63 : decode b_R_block 63 = .ok (.invokevirtual 126, 3) := by decide +kernel
theorem d_R_block_66 : decode b_R_block 66 = .ok (.istore 7, 2) := by decide +kernel
theorem d_R_block_68 : decode b_R_block 68 = .ok (.iload 7, 2) := by decide +kernel
theorem d_R_block_70 : decode b_R_block 70 = .ok (.ifCond .ge 6, 3) := by decide +kernel
theorem d_R_block_73 : decode b_R_block 73 = .ok (.bipush (-2), 2) := by decide +kernel
theorem d_R_block_75 : decode b_R_block 75 = .ok (.ireturn, 1) := by decide +kernel
theorem d_R_block_76 : decode b_R_block 76 = .ok (.aload_n 0, 1) := by decide +kernel
theorem d_R_block_77 : decode b_R_block 77 = .ok (.getfield 46, 3) := by decide +kernel
theorem d_R_block_80 : decode b_R_block 80 = .ok (.iload 7, 2) := by decide +kernel
theorem d_R_block_82 : decode b_R_block 82 = .ok (.iload_n 3, 1) := by decide +kernel
theorem d_R_block_83 : decode b_R_block 83 = .ok (.iastore, 1) := by decide +kernel
theorem d_R_block_84 : decode b_R_block 84 = .ok (.aload_n 0, 1) := by decide +kernel
theorem d_R_block_85 : decode b_R_block 85 = .ok (.iload_n 1, 1) := by decide +kernel
theorem d_R_block_86 : decode b_R_block 86 = .ok (.iload 7, 2) := by decide +kernel
theorem d_R_block_88 : decode b_R_block 88 = .ok (.iconst 0, 1) := by decide +kernel
theorem d_R_block_89 : decode b_R_block 89 = .ok (.iconst 1, 1) := by decide +kernel
theorem d_R_block_90 : decode b_R_block 90 = .ok (.iconst 0, 1) := by decide +kernel
theorem d_R_block_91 : decode b_R_block 91 = .ok (.iload 5, 2) := by decide +kernel
theorem d_R_block_93 : decode b_R_block 93 = .ok (.invokevirtual 137, 3) := by decide +kernel
theorem d_R_block_96 : decode b_R_block 96 = .ok (.ireturn, 1) := by decide +kernel
theorem d_R_floorOf_0 : decode b_R_floorOf 0 = .ok (.aload_n 0, 1) := by decide +kernel
theorem d_R_floorOf_1 : decode b_R_floorOf 1 = .ok (.getfield 17, 3) := by decide +kernel
theorem d_R_floorOf_4 : decode b_R_floorOf 4 = .ok (.iload_n 1, 1) := by decide +kernel
theorem d_R_floorOf_5 : decode b_R_floorOf 5 = .ok (.baload, 1) := by decide +kernel
theorem d_R_floorOf_6 : decode b_R_floorOf 6 = .ok (.iconst 4, 1) := by decide +kernel
theorem d_R_floorOf_7 : decode b_R_floorOf 7 = .ok (.if_icmp .ne 7, 3) := by decide +kernel
theorem d_R_floorOf_10 : decode b_R_floorOf 10 = .ok (.iconst 0, 1) := by decide +kernel
theorem d_R_floorOf_11 : decode b_R_floorOf 11 = .ok (.goto 14, 3) := by decide +kernel
theorem d_R_floorOf_14 : decode b_R_floorOf 14 = .ok (.aload_n 0, 1) := by decide +kernel
theorem d_R_floorOf_15 : decode b_R_floorOf 15 = .ok (.getfield 27, 3) := by decide +kernel
theorem d_R_floorOf_18 : decode b_R_floorOf 18 = .ok (.aload_n 0, 1) := by decide +kernel
theorem d_R_floorOf_19 : decode b_R_floorOf 19 = .ok (.getfield 43, 3) := by decide +kernel
theorem d_R_floorOf_22 : decode b_R_floorOf 22 = .ok (.iload_n 1, 1) := by decide +kernel
theorem d_R_floorOf_23 : decode b_R_floorOf 23 = .ok (.iaload, 1) := by decide +kernel
theorem d_R_floorOf_24 : decode b_R_floorOf 24 = .ok (.iaload, 1) := by decide +kernel
theorem d_R_floorOf_25 : decode b_R_floorOf 25 = .ok (.ireturn, 1) := by decide +kernel
theorem d_R_pushes_0 : decode b_R_pushes 0 = .ok (.aload_n 0, 1) := by decide +kernel
theorem d_R_pushes_1 : decode b_R_pushes 1 = .ok (.getfield 40, 3) := by decide +kernel
theorem d_R_pushes_4 : decode b_R_pushes 4 = .ok (.iload_n 1, 1) := by decide +kernel
theorem d_R_pushes_5 : decode b_R_pushes 5 = .ok (.iaload, 1) := by decide +kernel
theorem d_R_pushes_6 : decode b_R_pushes 6 = .ok (.aload_n 0, 1) := by decide +kernel
theorem d_R_pushes_7 : decode b_R_pushes 7 = .ok (.getfield 52, 3) := by decide +kernel
theorem d_R_pushes_10 : decode b_R_pushes 10 = .ok (.iload_n 1, 1) := by decide +kernel
theorem d_R_pushes_11 : decode b_R_pushes 11 = .ok (.iaload, 1) := by decide +kernel
theorem d_R_pushes_12 : decode b_R_pushes 12 = .ok (.if_icmp .ne 5, 3) := by decide +kernel
theorem d_R_pushes_15 : decode b_R_pushes 15 = .ok (.iconst 0, 1) := by decide +kernel
theorem d_R_pushes_16 : decode b_R_pushes 16 = .ok (.ireturn, 1) := by decide +kernel
theorem d_R_pushes_17 : decode b_R_pushes 17 = .ok (.aload_n 0, 1) := by decide +kernel
theorem d_R_pushes_18 : decode b_R_pushes 18 = .ok (.getfield 56, 3) := by decide +kernel
theorem d_R_pushes_21 : decode b_R_pushes 21 = .ok (.aload_n 0, 1) := by decide +kernel
theorem d_R_pushes_22 : decode b_R_pushes 22 = .ok (.getfield 49, 3) := by decide +kernel
theorem d_R_pushes_25 : decode b_R_pushes 25 = .ok (.iload_n 1, 1) := by decide +kernel
theorem d_R_pushes_26 : decode b_R_pushes 26 = .ok (.iaload, 1) := by decide +kernel
theorem d_R_pushes_27 : decode b_R_pushes 27 = .ok (.aload_n 0, 1) := by decide +kernel
theorem d_R_pushes_28 : decode b_R_pushes 28 = .ok (.getfield 40, 3) := by decide +kernel
theorem d_R_pushes_31 : decode b_R_pushes 31 = .ok (.iload_n 1, 1) := by decide +kernel
theorem d_R_pushes_32 : decode b_R_pushes 32 = .ok (.iaload, 1) := by decide +kernel
theorem d_R_pushes_33 : decode b_R_pushes 33 = .ok (.iadd, 1) := by decide +kernel
theorem d_R_pushes_34 : decode b_R_pushes 34 = .ok (.iload_n 2, 1) := by decide +kernel
theorem d_R_pushes_35 : decode b_R_pushes 35 = .ok (.iastore, 1) := by decide +kernel
theorem d_R_pushes_36 : decode b_R_pushes 36 = .ok (.aload_n 0, 1) := by decide +kernel
theorem d_R_pushes_37 : decode b_R_pushes 37 = .ok (.getfield 40, 3) := by decide +kernel
theorem d_R_pushes_40 : decode b_R_pushes 40 = .ok (.iload_n 1, 1) := by decide +kernel
theorem d_R_pushes_41 : decode b_R_pushes 41 = .ok (.dup2, 1) := by decide +kernel
theorem d_R_pushes_42 : decode b_R_pushes 42 = .ok (.iaload, 1) := by decide +kernel
theorem d_R_pushes_43 : decode b_R_pushes 43 = .ok (.iconst 1, 1) := by decide +kernel
theorem d_R_pushes_44 : decode b_R_pushes 44 = .ok (.iadd, 1) := by decide +kernel
theorem d_R_pushes_45 : decode b_R_pushes 45 = .ok (.iastore, 1) := by decide +kernel
theorem d_R_pushes_46 : decode b_R_pushes 46 = .ok (.iconst 1, 1) := by decide +kernel
theorem d_R_pushes_47 : decode b_R_pushes 47 = .ok (.ireturn, 1) := by decide +kernel
theorem d_R_push_0 : decode b_R_push 0 = .ok (.aload_n 0, 1) := by decide +kernel
theorem d_R_push_1 : decode b_R_push 1 = .ok (.iload_n 1, 1) := by decide +kernel
theorem d_R_push_2 : decode b_R_push 2 = .ok (.invokevirtual 87, 3) := by decide +kernel
theorem d_R_push_5 : decode b_R_push 5 = .ok (.istore_n 3, 1) := by decide +kernel
theorem d_R_push_6 : decode b_R_push 6 = .ok (.iload_n 3, 1) := by decide +kernel
theorem d_R_push_7 : decode b_R_push 7 = .ok (.ifCond .lt 28, 3) := by decide +kernel
theorem d_R_push_10 : decode b_R_push 10 = .ok (.iload_n 2, 1) := by decide +kernel
theorem d_R_push_11 : decode b_R_push 11 = .ok (.invokestatic 76, 3) := by decide +kernel
theorem d_R_push_14 : decode b_R_push 14 = .ok (.ifCond .eq 21, 3) := by decide +kernel
theorem d_R_push_17 : decode b_R_push 17 = .ok (.aload_n 0, 1) := by decide +kernel
theorem d_R_push_18 : decode b_R_push 18 = .ok (.iload_n 3, 1) := by decide +kernel
theorem d_R_push_19 : decode b_R_push 19 = .ok (.aload_n 0, 1) := by decide +kernel
theorem d_R_push_20 : decode b_R_push 20 = .ok (.getfield 13, 3) := by decide +kernel
theorem d_R_push_23 : decode b_R_push 23 = .ok (.iload_n 2, 1) := by decide +kernel
theorem d_R_push_24 : decode b_R_push 24 = .ok (.iaload, 1) := by decide +kernel
theorem d_R_push_25 : decode b_R_push 25 = .ok (.invokevirtual 144, 3) := by decide +kernel
theorem d_R_push_28 : decode b_R_push 28 = .ok (.ifCond .eq 7, 3) := by decide +kernel
theorem d_R_push_31 : decode b_R_push 31 = .ok (.iconst 1, 1) := by decide +kernel
theorem d_R_push_32 : decode b_R_push 32 = .ok (.goto 4, 3) := by decide +kernel
theorem d_R_push_35 : decode b_R_push 35 = .ok (.iconst 0, 1) := by decide +kernel
theorem d_R_push_36 : decode b_R_push 36 = .ok (.ireturn, 1) := by decide +kernel
theorem d_R_fill_0 : decode b_R_fill 0 = .ok (.aload_n 0, 1) := by decide +kernel
theorem d_R_fill_1 : decode b_R_fill 1 = .ok (.iload_n 1, 1) := by decide +kernel
theorem d_R_fill_2 : decode b_R_fill 2 = .ok (.invokevirtual 87, 3) := by decide +kernel
theorem d_R_fill_5 : decode b_R_fill 5 = .ok (.istore 4, 2) := by decide +kernel
theorem d_R_fill_7 : decode b_R_fill 7 = .ok (.iload 4, 2) := by decide +kernel
theorem d_R_fill_9 : decode b_R_fill 9 = .ok (.ifCond .lt 13, 3) := by decide +kernel
theorem d_R_fill_12 : decode b_R_fill 12 = .ok (.iload_n 3, 1) := by decide +kernel
theorem d_R_fill_13 : decode b_R_fill 13 = .ok (.ifCond .lt 9, 3) := by decide +kernel
theorem d_R_fill_16 : decode b_R_fill 16 = .ok (.iload_n 3, 1) := by decide +kernel
theorem d_R_fill_17 : decode b_R_fill 17 = .ok (.bipush 100, 2) := by decide +kernel
theorem d_R_fill_19 : decode b_R_fill 19 = .ok (.if_icmp .le 5, 3) := by decide +kernel
theorem d_R_fill_22 : decode b_R_fill 22 = .ok (.iconst (-1), 1) := by decide +kernel
theorem d_R_fill_23 : decode b_R_fill 23 = .ok (.ireturn, 1) := by decide +kernel
theorem d_R_fill_24 : decode b_R_fill 24 = .ok (.iconst 0, 1) := by decide +kernel
theorem d_R_fill_25 : decode b_R_fill 25 = .ok (.istore 5, 2) := by decide +kernel
theorem d_R_fill_27 : decode b_R_fill 27 = .ok (.iload 5, 2) := by decide +kernel
theorem d_R_fill_29 : decode b_R_fill 29 = .ok (.iload_n 3, 1) := by decide +kernel
theorem d_R_fill_30 : decode b_R_fill 30 = .ok (.if_icmp .ge 27, 3) := by decide +kernel
theorem d_R_fill_33 : decode b_R_fill 33 = .ok (.iload_n 2, 1) := by decide +kernel
theorem d_R_fill_34 : decode b_R_fill 34 = .ok (.invokestatic 116, 3) := by decide +kernel
theorem d_R_fill_37 : decode b_R_fill 37 = .ok (.ifCond .eq 12, 3) := by decide +kernel
theorem d_R_fill_40 : decode b_R_fill 40 = .ok (.iload_n 2, 1) := by decide +kernel
theorem d_R_fill_41 : decode b_R_fill 41 = .ok (.ldc 75, 2) := by decide +kernel
theorem d_R_fill_43 : decode b_R_fill 43 = .ok (.iload 5, 2) := by decide +kernel
theorem d_R_fill_45 : decode b_R_fill 45 = .ok (.isub, 1) := by decide +kernel
theorem d_R_fill_46 : decode b_R_fill 46 = .ok (.if_icmp .le 5, 3) := by decide +kernel
theorem d_R_fill_49 : decode b_R_fill 49 = .ok (.iconst (-1), 1) := by decide +kernel
theorem d_R_fill_50 : decode b_R_fill 50 = .ok (.ireturn, 1) := by decide +kernel
theorem d_R_fill_51 : decode b_R_fill 51 = .ok (.iinc 5 1, 3) := by decide +kernel
theorem d_R_fill_54 : decode b_R_fill 54 = .ok (.goto (-27), 3) := by decide +kernel
theorem d_R_fill_57 : decode b_R_fill 57 = .ok (.iconst 0, 1) := by decide +kernel
theorem d_R_fill_58 : decode b_R_fill 58 = .ok (.istore 5, 2) := by decide +kernel
theorem d_R_fill_60 : decode b_R_fill 60 = .ok (.iload 5, 2) := by decide +kernel
theorem d_R_fill_62 : decode b_R_fill 62 = .ok (.iload_n 3, 1) := by decide +kernel
theorem d_R_fill_63 : decode b_R_fill 63 = .ok (.if_icmp .ge 25, 3) := by decide +kernel
theorem d_R_fill_66 : decode b_R_fill 66 = .ok (.aload_n 0, 1) := by decide +kernel
theorem d_R_fill_67 : decode b_R_fill 67 = .ok (.iload 4, 2) := by decide +kernel
theorem d_R_fill_69 : decode b_R_fill 69 = .ok (.iload_n 2, 1) := by decide +kernel
theorem d_R_fill_70 : decode b_R_fill 70 = .ok (.iload 5, 2) := by decide +kernel
theorem d_R_fill_72 : decode b_R_fill 72 = .ok (.iadd, 1) := by decide +kernel
theorem d_R_fill_73 : decode b_R_fill 73 = .ok (.invokestatic 119, 3) := by decide +kernel
theorem d_R_fill_76 : decode b_R_fill 76 = .ok (.invokevirtual 144, 3) := by decide +kernel
theorem d_R_fill_79 : decode b_R_fill 79 = .ok (.ifCond .eq 9, 3) := by decide +kernel
theorem d_R_fill_82 : decode b_R_fill 82 = .ok (.iinc 5 1, 3) := by decide +kernel
theorem d_R_fill_85 : decode b_R_fill 85 = .ok (.goto (-25), 3) := by decide +kernel
theorem d_R_fill_88 : decode b_R_fill 88 = .ok (.iload 5, 2) := by decide +kernel
theorem d_R_fill_90 : decode b_R_fill 90 = .ok (.ireturn, 1) := by decide +kernel
theorem d_R_popped_0 : decode b_R_popped 0 = .ok (.aload_n 0, 1) := by decide +kernel
theorem d_R_popped_1 : decode b_R_popped 1 = .ok (.getfield 40, 3) := by decide +kernel
theorem d_R_popped_4 : decode b_R_popped 4 = .ok (.iload_n 1, 1) := by decide +kernel
theorem d_R_popped_5 : decode b_R_popped 5 = .ok (.dup2, 1) := by decide +kernel
theorem d_R_popped_6 : decode b_R_popped 6 = .ok (.iaload, 1) := by decide +kernel
theorem d_R_popped_7 : decode b_R_popped 7 = .ok (.iconst 1, 1) := by decide +kernel
theorem d_R_popped_8 : decode b_R_popped 8 = .ok (.isub, 1) := by decide +kernel
theorem d_R_popped_9 : decode b_R_popped 9 = .ok (.iastore, 1) := by decide +kernel
theorem d_R_popped_10 : decode b_R_popped 10 = .ok (.aload_n 0, 1) := by decide +kernel
theorem d_R_popped_11 : decode b_R_popped 11 = .ok (.getfield 56, 3) := by decide +kernel
theorem d_R_popped_14 : decode b_R_popped 14 = .ok (.aload_n 0, 1) := by decide +kernel
theorem d_R_popped_15 : decode b_R_popped 15 = .ok (.getfield 49, 3) := by decide +kernel
theorem d_R_popped_18 : decode b_R_popped 18 = .ok (.iload_n 1, 1) := by decide +kernel
theorem d_R_popped_19 : decode b_R_popped 19 = .ok (.iaload, 1) := by decide +kernel
theorem d_R_popped_20 : decode b_R_popped 20 = .ok (.aload_n 0, 1) := by decide +kernel
theorem d_R_popped_21 : decode b_R_popped 21 = .ok (.getfield 40, 3) := by decide +kernel
theorem d_R_popped_24 : decode b_R_popped 24 = .ok (.iload_n 1, 1) := by decide +kernel
theorem d_R_popped_25 : decode b_R_popped 25 = .ok (.iaload, 1) := by decide +kernel
theorem d_R_popped_26 : decode b_R_popped 26 = .ok (.iadd, 1) := by decide +kernel
theorem d_R_popped_27 : decode b_R_popped 27 = .ok (.iaload, 1) := by decide +kernel
theorem d_R_popped_28 : decode b_R_popped 28 = .ok (.istore_n 2, 1) := by decide +kernel
theorem d_R_popped_29 : decode b_R_popped 29 = .ok (.aload_n 0, 1) := by decide +kernel
theorem d_R_popped_30 : decode b_R_popped 30 = .ok (.getfield 56, 3) := by decide +kernel
theorem d_R_popped_33 : decode b_R_popped 33 = .ok (.aload_n 0, 1) := by decide +kernel
theorem d_R_popped_34 : decode b_R_popped 34 = .ok (.getfield 49, 3) := by decide +kernel
theorem d_R_popped_37 : decode b_R_popped 37 = .ok (.iload_n 1, 1) := by decide +kernel
theorem d_R_popped_38 : decode b_R_popped 38 = .ok (.iaload, 1) := by decide +kernel
theorem d_R_popped_39 : decode b_R_popped 39 = .ok (.aload_n 0, 1) := by decide +kernel
theorem d_R_popped_40 : decode b_R_popped 40 = .ok (.getfield 40, 3) := by decide +kernel
theorem d_R_popped_43 : decode b_R_popped 43 = .ok (.iload_n 1, 1) := by decide +kernel
theorem d_R_popped_44 : decode b_R_popped 44 = .ok (.iaload, 1) := by decide +kernel
theorem d_R_popped_45 : decode b_R_popped 45 = .ok (.iadd, 1) := by decide +kernel
theorem d_R_popped_46 : decode b_R_popped 46 = .ok (.iconst 0, 1) := by decide +kernel
theorem d_R_popped_47 : decode b_R_popped 47 = .ok (.iastore, 1) := by decide +kernel
theorem d_R_popped_48 : decode b_R_popped 48 = .ok (.iload_n 2, 1) := by decide +kernel
theorem d_R_popped_49 : decode b_R_popped 49 = .ok (.ireturn, 1) := by decide +kernel
theorem d_R_pop_0 : decode b_R_pop 0 = .ok (.aload_n 0, 1) := by decide +kernel
theorem d_R_pop_1 : decode b_R_pop 1 = .ok (.iload_n 2, 1) := by decide +kernel
theorem d_R_pop_2 : decode b_R_pop 2 = .ok (.invokevirtual 87, 3) := by decide +kernel
theorem d_R_pop_5 : decode b_R_pop 5 = .ok (.istore_n 3, 1) := by decide +kernel
theorem d_R_pop_6 : decode b_R_pop 6 = .ok (.iload_n 3, 1) := by decide +kernel
theorem d_R_pop_7 : decode b_R_pop 7 = .ok (.ifCond .lt 24, 3) := by decide +kernel
theorem d_R_pop_10 : decode b_R_pop 10 = .ok (.iload_n 1, 1) := by decide +kernel
theorem d_R_pop_11 : decode b_R_pop 11 = .ok (.invokestatic 76, 3) := by decide +kernel
theorem d_R_pop_14 : decode b_R_pop 14 = .ok (.ifCond .eq 17, 3) := by decide +kernel
theorem d_R_pop_17 : decode b_R_pop 17 = .ok (.aload_n 0, 1) := by decide +kernel
theorem d_R_pop_18 : decode b_R_pop 18 = .ok (.getfield 40, 3) := by decide +kernel
theorem d_R_pop_21 : decode b_R_pop 21 = .ok (.iload_n 3, 1) := by decide +kernel
theorem d_R_pop_22 : decode b_R_pop 22 = .ok (.iaload, 1) := by decide +kernel
theorem d_R_pop_23 : decode b_R_pop 23 = .ok (.aload_n 0, 1) := by decide +kernel
theorem d_R_pop_24 : decode b_R_pop 24 = .ok (.iload_n 3, 1) := by decide +kernel
theorem d_R_pop_25 : decode b_R_pop 25 = .ok (.invokevirtual 148, 3) := by decide +kernel
theorem d_R_pop_28 : decode b_R_pop 28 = .ok (.if_icmp .gt 5, 3) := by decide +kernel
theorem d_R_pop_31 : decode b_R_pop 31 = .ok (.iconst 0, 1) := by decide +kernel
theorem d_R_pop_32 : decode b_R_pop 32 = .ok (.ireturn, 1) := by decide +kernel
theorem d_R_pop_33 : decode b_R_pop 33 = .ok (.aload_n 0, 1) := by decide +kernel
theorem d_R_pop_34 : decode b_R_pop 34 = .ok (.getfield 13, 3) := by decide +kernel
theorem d_R_pop_37 : decode b_R_pop 37 = .ok (.iload_n 1, 1) := by decide +kernel
theorem d_R_pop_38 : decode b_R_pop 38 = .ok (.aload_n 0, 1) := by decide +kernel
theorem d_R_pop_39 : decode b_R_pop 39 = .ok (.iload_n 3, 1) := by decide +kernel
theorem d_R_pop_40 : decode b_R_pop 40 = .ok (.invokevirtual 151, 3) := by decide +kernel
theorem d_R_pop_43 : decode b_R_pop 43 = .ok (.iastore, 1) := by decide +kernel
theorem d_R_pop_44 : decode b_R_pop 44 = .ok (.iconst 1, 1) := by decide +kernel
theorem d_R_pop_45 : decode b_R_pop 45 = .ok (.ireturn, 1) := by decide +kernel
theorem d_R_peek_0 : decode b_R_peek 0 = .ok (.aload_n 0, 1) := by decide +kernel
theorem d_R_peek_1 : decode b_R_peek 1 = .ok (.iload_n 2, 1) := by decide +kernel
theorem d_R_peek_2 : decode b_R_peek 2 = .ok (.invokevirtual 87, 3) := by decide +kernel
theorem d_R_peek_5 : decode b_R_peek 5 = .ok (.istore 4, 2) := by decide +kernel
theorem d_R_peek_7 : decode b_R_peek 7 = .ok (.iload 4, 2) := by decide +kernel
theorem d_R_peek_9 : decode b_R_peek 9 = .ok (.ifCond .lt 32, 3) := by decide +kernel
theorem d_R_peek_12 : decode b_R_peek 12 = .ok (.iload_n 1, 1) := by decide +kernel
theorem d_R_peek_13 : decode b_R_peek 13 = .ok (.invokestatic 76, 3) := by decide +kernel
theorem d_R_peek_16 : decode b_R_peek 16 = .ok (.ifCond .eq 25, 3) := by decide +kernel
theorem d_R_peek_19 : decode b_R_peek 19 = .ok (.iload_n 3, 1) := by decide +kernel
theorem d_R_peek_20 : decode b_R_peek 20 = .ok (.ifCond .lt 21, 3) := by decide +kernel
theorem d_R_peek_23 : decode b_R_peek 23 = .ok (.iload_n 3, 1) := by decide +kernel
theorem d_R_peek_24 : decode b_R_peek 24 = .ok (.aload_n 0, 1) := by decide +kernel
theorem d_R_peek_25 : decode b_R_peek 25 = .ok (.getfield 40, 3) := by decide +kernel
theorem d_R_peek_28 : decode b_R_peek 28 = .ok (.iload 4, 2) := by decide +kernel
theorem d_R_peek_30 : decode b_R_peek 30 = .ok (.iaload, 1) := by decide +kernel
theorem d_R_peek_31 : decode b_R_peek 31 = .ok (.aload_n 0, 1) := by decide +kernel
theorem d_R_peek_32 : decode b_R_peek 32 = .ok (.iload 4, 2) := by decide +kernel
theorem d_R_peek_34 : decode b_R_peek 34 = .ok (.invokevirtual 148, 3) := by decide +kernel
theorem d_R_peek_37 : decode b_R_peek 37 = .ok (.isub, 1) := by decide +kernel
theorem d_R_peek_38 : decode b_R_peek 38 = .ok (.if_icmp .lt 5, 3) := by decide +kernel
theorem d_R_peek_41 : decode b_R_peek 41 = .ok (.iconst 0, 1) := by decide +kernel
theorem d_R_peek_42 : decode b_R_peek 42 = .ok (.ireturn, 1) := by decide +kernel
theorem d_R_peek_43 : decode b_R_peek 43 = .ok (.aload_n 0, 1) := by decide +kernel
theorem d_R_peek_44 : decode b_R_peek 44 = .ok (.getfield 13, 3) := by decide +kernel
theorem d_R_peek_47 : decode b_R_peek 47 = .ok (.iload_n 1, 1) := by decide +kernel
theorem d_R_peek_48 : decode b_R_peek 48 = .ok (.aload_n 0, 1) := by decide +kernel
theorem d_R_peek_49 : decode b_R_peek 49 = .ok (.getfield 56, 3) := by decide +kernel
theorem d_R_peek_52 : decode b_R_peek 52 = .ok (.aload_n 0, 1) := by decide +kernel
theorem d_R_peek_53 : decode b_R_peek 53 = .ok (.getfield 49, 3) := by decide +kernel
theorem d_R_peek_56 : decode b_R_peek 56 = .ok (.iload 4, 2) := by decide +kernel
theorem d_R_peek_58 : decode b_R_peek 58 = .ok (.iaload, 1) := by decide +kernel
theorem d_R_peek_59 : decode b_R_peek 59 = .ok (.aload_n 0, 1) := by decide +kernel
theorem d_R_peek_60 : decode b_R_peek 60 = .ok (.getfield 40, 3) := by decide +kernel
theorem d_R_peek_63 : decode b_R_peek 63 = .ok (.iload 4, 2) := by decide +kernel
theorem d_R_peek_65 : decode b_R_peek 65 = .ok (.iaload, 1) := by decide +kernel
theorem d_R_peek_66 : decode b_R_peek 66 = .ok (.iadd, 1) := by decide +kernel
theorem d_R_peek_67 : decode b_R_peek 67 = .ok (.iconst 1, 1) := by decide +kernel
theorem d_R_peek_68 : decode b_R_peek 68 = .ok (.isub, 1) := by decide +kernel
theorem d_R_peek_69 : decode b_R_peek 69 = .ok (.iload_n 3, 1) := by decide +kernel
theorem d_R_peek_70 : decode b_R_peek 70 = .ok (.isub, 1) := by decide +kernel
theorem d_R_peek_71 : decode b_R_peek 71 = .ok (.iaload, 1) := by decide +kernel
theorem d_R_peek_72 : decode b_R_peek 72 = .ok (.iastore, 1) := by decide +kernel
theorem d_R_peek_73 : decode b_R_peek 73 = .ok (.iconst 1, 1) := by decide +kernel
theorem d_R_peek_74 : decode b_R_peek 74 = .ok (.ireturn, 1) := by decide +kernel
theorem d_R_drop_0 : decode b_R_drop 0 = .ok (.aload_n 0, 1) := by decide +kernel
theorem d_R_drop_1 : decode b_R_drop 1 = .ok (.iload_n 1, 1) := by decide +kernel
theorem d_R_drop_2 : decode b_R_drop 2 = .ok (.invokevirtual 87, 3) := by decide +kernel
theorem d_R_drop_5 : decode b_R_drop 5 = .ok (.istore_n 3, 1) := by decide +kernel
theorem d_R_drop_6 : decode b_R_drop 6 = .ok (.iload_n 3, 1) := by decide +kernel
theorem d_R_drop_7 : decode b_R_drop 7 = .ok (.ifCond .lt 27, 3) := by decide +kernel
theorem d_R_drop_10 : decode b_R_drop 10 = .ok (.iload_n 2, 1) := by decide +kernel
theorem d_R_drop_11 : decode b_R_drop 11 = .ok (.ifCond .lt 23, 3) := by decide +kernel
theorem d_R_drop_14 : decode b_R_drop 14 = .ok (.iload_n 2, 1) := by decide +kernel
theorem d_R_drop_15 : decode b_R_drop 15 = .ok (.ifCond .le 21, 3) := by decide +kernel
theorem d_R_drop_18 : decode b_R_drop 18 = .ok (.iload_n 2, 1) := by decide +kernel
theorem d_R_drop_19 : decode b_R_drop 19 = .ok (.aload_n 0, 1) := by decide +kernel
theorem d_R_drop_20 : decode b_R_drop 20 = .ok (.getfield 40, 3) := by decide +kernel
theorem d_R_drop_23 : decode b_R_drop 23 = .ok (.iload_n 3, 1) := by decide +kernel
theorem d_R_drop_24 : decode b_R_drop 24 = .ok (.iaload, 1) := by decide +kernel
theorem d_R_drop_25 : decode b_R_drop 25 = .ok (.aload_n 0, 1) := by decide +kernel
theorem d_R_drop_26 : decode b_R_drop 26 = .ok (.iload_n 3, 1) := by decide +kernel
theorem d_R_drop_27 : decode b_R_drop 27 = .ok (.invokevirtual 148, 3) := by decide +kernel
theorem d_R_drop_30 : decode b_R_drop 30 = .ok (.isub, 1) := by decide +kernel
theorem d_R_drop_31 : decode b_R_drop 31 = .ok (.if_icmp .le 5, 3) := by decide +kernel
theorem d_R_drop_34 : decode b_R_drop 34 = .ok (.iconst 0, 1) := by decide +kernel
theorem d_R_drop_35 : decode b_R_drop 35 = .ok (.ireturn, 1) := by decide +kernel
theorem d_R_drop_36 : decode b_R_drop 36 = .ok (.iconst 0, 1) := by decide +kernel
theorem d_R_drop_37 : decode b_R_drop 37 = .ok (.istore 4, 2) := by decide +kernel
theorem d_R_drop_39 : decode b_R_drop 39 = .ok (.iload 4, 2) := by decide +kernel
theorem d_R_drop_41 : decode b_R_drop 41 = .ok (.iload_n 2, 1) := by decide +kernel
theorem d_R_drop_42 : decode b_R_drop 42 = .ok (.if_icmp .ge 15, 3) := by decide +kernel
theorem d_R_drop_45 : decode b_R_drop 45 = .ok (.aload_n 0, 1) := by decide +kernel
theorem d_R_drop_46 : decode b_R_drop 46 = .ok (.iload_n 3, 1) := by decide +kernel
theorem d_R_drop_47 : decode b_R_drop 47 = .ok (.invokevirtual 151, 3) := by decide +kernel
theorem d_R_drop_50 : decode b_R_drop 50 = .ok (.pop, 1) := by decide +kernel
theorem d_R_drop_51 : decode b_R_drop 51 = .ok (.iinc 4 1, 3) := by decide +kernel
theorem d_R_drop_54 : decode b_R_drop 54 = .ok (.goto (-15), 3) := by decide +kernel
theorem d_R_drop_57 : decode b_R_drop 57 = .ok (.iconst 1, 1) := by decide +kernel
theorem d_R_drop_58 : decode b_R_drop 58 = .ok (.ireturn, 1) := by decide +kernel
theorem d_R_height_0 : decode b_R_height 0 = .ok (.aload_n 0, 1) := by decide +kernel
theorem d_R_height_1 : decode b_R_height 1 = .ok (.iload_n 1, 1) := by decide +kernel
theorem d_R_height_2 : decode b_R_height 2 = .ok (.invokevirtual 87, 3) := by decide +kernel
theorem d_R_height_5 : decode b_R_height 5 = .ok (.istore_n 2, 1) := by decide +kernel
theorem d_R_height_6 : decode b_R_height 6 = .ok (.iload_n 2, 1) := by decide +kernel
theorem d_R_height_7 : decode b_R_height 7 = .ok (.ifCond .ge 7, 3) := by decide +kernel
theorem d_R_height_10 : decode b_R_height 10 = .ok (.iconst (-1), 1) := by decide +kernel
theorem d_R_height_11 : decode b_R_height 11 = .ok (.goto 9, 3) := by decide +kernel
theorem d_R_height_14 : decode b_R_height 14 = .ok (.aload_n 0, 1) := by decide +kernel
theorem d_R_height_15 : decode b_R_height 15 = .ok (.getfield 40, 3) := by decide +kernel
theorem d_R_height_18 : decode b_R_height 18 = .ok (.iload_n 2, 1) := by decide +kernel
theorem d_R_height_19 : decode b_R_height 19 = .ok (.iaload, 1) := by decide +kernel
theorem d_R_height_20 : decode b_R_height 20 = .ok (.ireturn, 1) := by decide +kernel
theorem d_R_room_0 : decode b_R_room 0 = .ok (.aload_n 0, 1) := by decide +kernel
theorem d_R_room_1 : decode b_R_room 1 = .ok (.iload_n 1, 1) := by decide +kernel
theorem d_R_room_2 : decode b_R_room 2 = .ok (.invokevirtual 87, 3) := by decide +kernel
theorem d_R_room_5 : decode b_R_room 5 = .ok (.istore_n 2, 1) := by decide +kernel
theorem d_R_room_6 : decode b_R_room 6 = .ok (.iload_n 2, 1) := by decide +kernel
theorem d_R_room_7 : decode b_R_room 7 = .ok (.ifCond .ge 7, 3) := by decide +kernel
theorem d_R_room_10 : decode b_R_room 10 = .ok (.iconst (-1), 1) := by decide +kernel
theorem d_R_room_11 : decode b_R_room 11 = .ok (.goto 9, 3) := by decide +kernel
theorem d_R_room_14 : decode b_R_room 14 = .ok (.aload_n 0, 1) := by decide +kernel
theorem d_R_room_15 : decode b_R_room 15 = .ok (.getfield 52, 3) := by decide +kernel
theorem d_R_room_18 : decode b_R_room 18 = .ok (.iload_n 2, 1) := by decide +kernel
theorem d_R_room_19 : decode b_R_room 19 = .ok (.iaload, 1) := by decide +kernel
theorem d_R_room_20 : decode b_R_room 20 = .ok (.ireturn, 1) := by decide +kernel
theorem d_R_floor_0 : decode b_R_floor 0 = .ok (.aload_n 0, 1) := by decide +kernel
theorem d_R_floor_1 : decode b_R_floor 1 = .ok (.iload_n 1, 1) := by decide +kernel
theorem d_R_floor_2 : decode b_R_floor 2 = .ok (.invokevirtual 87, 3) := by decide +kernel
theorem d_R_floor_5 : decode b_R_floor 5 = .ok (.istore_n 2, 1) := by decide +kernel
theorem d_R_floor_6 : decode b_R_floor 6 = .ok (.iload_n 2, 1) := by decide +kernel
theorem d_R_floor_7 : decode b_R_floor 7 = .ok (.ifCond .ge 7, 3) := by decide +kernel
theorem d_R_floor_10 : decode b_R_floor 10 = .ok (.iconst (-1), 1) := by decide +kernel
theorem d_R_floor_11 : decode b_R_floor 11 = .ok (.goto 8, 3) := by decide +kernel
theorem d_R_floor_14 : decode b_R_floor 14 = .ok (.aload_n 0, 1) := by decide +kernel
theorem d_R_floor_15 : decode b_R_floor 15 = .ok (.iload_n 2, 1) := by decide +kernel
theorem d_R_floor_16 : decode b_R_floor 16 = .ok (.invokevirtual 148, 3) := by decide +kernel
theorem d_R_floor_19 : decode b_R_floor 19 = .ok (.ireturn, 1) := by decide +kernel
theorem d_R_count_0 : decode b_R_count 0 = .ok (.aload_n 0, 1) := by decide +kernel
theorem d_R_count_1 : decode b_R_count 1 = .ok (.iload_n 1, 1) := by decide +kernel
theorem d_R_count_2 : decode b_R_count 2 = .ok (.iconst 4, 1) := by decide +kernel
theorem d_R_count_3 : decode b_R_count 3 = .ok (.iconst 4, 1) := by decide +kernel
theorem d_R_count_4 : decode b_R_count 4 = .ok (.invokevirtual 83, 3) := by decide +kernel
theorem d_R_count_7 : decode b_R_count 7 = .ok (.istore_n 2, 1) := by decide +kernel
theorem d_R_count_8 : decode b_R_count 8 = .ok (.iload_n 2, 1) := by decide +kernel
theorem d_R_count_9 : decode b_R_count 9 = .ok (.ifCond .ge 7, 3) := by decide +kernel
theorem d_R_count_12 : decode b_R_count 12 = .ok (.iconst (-1), 1) := by decide +kernel
theorem d_R_count_13 : decode b_R_count 13 = .ok (.goto 9, 3) := by decide +kernel
theorem d_R_count_16 : decode b_R_count 16 = .ok (.aload_n 0, 1) := by decide +kernel
theorem d_R_count_17 : decode b_R_count 17 = .ok (.getfield 46, 3) := by decide +kernel
theorem d_R_count_20 : decode b_R_count 20 = .ok (.iload_n 2, 1) := by decide +kernel
theorem d_R_count_21 : decode b_R_count 21 = .ok (.iaload, 1) := by decide +kernel
theorem d_R_count_22 : decode b_R_count 22 = .ok (.ireturn, 1) := by decide +kernel
theorem d_R_home_0 : decode b_R_home 0 = .ok (.aload_n 0, 1) := by decide +kernel
theorem d_R_home_1 : decode b_R_home 1 = .ok (.iload_n 2, 1) := by decide +kernel
theorem d_R_home_2 : decode b_R_home 2 = .ok (.invokevirtual 87, 3) := by decide +kernel
theorem d_R_home_5 : decode b_R_home 5 = .ok (.istore_n 3, 1) := by decide +kernel
theorem d_R_home_6 : decode b_R_home 6 = .ok (.iload_n 3, 1) := by decide +kernel
theorem d_R_home_7 : decode b_R_home 7 = .ok (.ifCond .lt 10, 3) := by decide +kernel
theorem d_R_home_10 : decode b_R_home 10 = .ok (.iload_n 1, 1) := by decide +kernel
theorem d_R_home_11 : decode b_R_home 11 = .ok (.invokestatic 76, 3) := by decide +kernel
theorem d_R_home_14 : decode b_R_home 14 = .ok (.ifCond .ne 5, 3) := by decide +kernel
theorem d_R_home_17 : decode b_R_home 17 = .ok (.iconst 0, 1) := by decide +kernel
theorem d_R_home_18 : decode b_R_home 18 = .ok (.ireturn, 1) := by decide +kernel
theorem d_R_home_19 : decode b_R_home 19 = .ok (.aload_n 0, 1) := by decide +kernel
theorem d_R_home_20 : decode b_R_home 20 = .ok (.getfield 13, 3) := by decide +kernel
theorem d_R_home_23 : decode b_R_home 23 = .ok (.iload_n 1, 1) := by decide +kernel
theorem d_R_home_24 : decode b_R_home 24 = .ok (.iconst 2, 1) := by decide +kernel
theorem d_R_home_25 : decode b_R_home 25 = .ok (.aload_n 0, 1) := by decide +kernel
theorem d_R_home_26 : decode b_R_home 26 = .ok (.iload_n 3, 1) := by decide +kernel
theorem d_R_home_27 : decode b_R_home 27 = .ok (.invokevirtual 141, 3) := by decide +kernel
theorem d_R_home_30 : decode b_R_home 30 = .ok (.imul, 1) := by decide +kernel
theorem d_R_home_31 : decode b_R_home 31 = .ok (.iconst 2, 1) := by decide +kernel
theorem d_R_home_32 : decode b_R_home 32 = .ok (.iadd, 1) := by decide +kernel
theorem d_R_home_33 : decode b_R_home 33 = .ok (.iastore, 1) := by decide +kernel
theorem d_R_home_34 : decode b_R_home 34 = .ok (.iconst 1, 1) := by decide +kernel
theorem d_R_home_35 : decode b_R_home 35 = .ok (.ireturn, 1) := by decide +kernel
theorem d_R_sender_0 : decode b_R_sender 0 = .ok (.aload_n 0, 1) := by decide +kernel
theorem d_R_sender_1 : decode b_R_sender 1 = .ok (.iload_n 2, 1) := by decide +kernel
theorem d_R_sender_2 : decode b_R_sender 2 = .ok (.invokevirtual 87, 3) := by decide +kernel
theorem d_R_sender_5 : decode b_R_sender 5 = .ok (.istore_n 3, 1) := by decide +kernel
theorem d_R_sender_6 : decode b_R_sender 6 = .ok (.iload_n 3, 1) := by decide +kernel
theorem d_R_sender_7 : decode b_R_sender 7 = .ok (.ifCond .lt 10, 3) := by decide +kernel
theorem d_R_sender_10 : decode b_R_sender 10 = .ok (.iload_n 1, 1) := by decide +kernel
theorem d_R_sender_11 : decode b_R_sender 11 = .ok (.invokestatic 76, 3) := by decide +kernel
theorem d_R_sender_14 : decode b_R_sender 14 = .ok (.ifCond .ne 5, 3) := by decide +kernel
theorem d_R_sender_17 : decode b_R_sender 17 = .ok (.iconst 0, 1) := by decide +kernel
theorem d_R_sender_18 : decode b_R_sender 18 = .ok (.ireturn, 1) := by decide +kernel
theorem d_R_sender_19 : decode b_R_sender 19 = .ok (.aload_n 0, 1) := by decide +kernel
theorem d_R_sender_20 : decode b_R_sender 20 = .ok (.getfield 13, 3) := by decide +kernel
theorem d_R_sender_23 : decode b_R_sender 23 = .ok (.iload_n 1, 1) := by decide +kernel
theorem d_R_sender_24 : decode b_R_sender 24 = .ok (.aload_n 0, 1) := by decide +kernel
theorem d_R_sender_25 : decode b_R_sender 25 = .ok (.getfield 33, 3) := by decide +kernel
theorem d_R_sender_28 : decode b_R_sender 28 = .ok (.iload_n 3, 1) := by decide +kernel
theorem d_R_sender_29 : decode b_R_sender 29 = .ok (.iaload, 1) := by decide +kernel
theorem d_R_sender_30 : decode b_R_sender 30 = .ok (.iastore, 1) := by decide +kernel
theorem d_R_sender_31 : decode b_R_sender 31 = .ok (.iconst 1, 1) := by decide +kernel
theorem d_R_sender_32 : decode b_R_sender 32 = .ok (.ireturn, 1) := by decide +kernel
theorem d_R_send_0 : decode b_R_send 0 = .ok (.aload_n 0, 1) := by decide +kernel
theorem d_R_send_1 : decode b_R_send 1 = .ok (.iload_n 1, 1) := by decide +kernel
theorem d_R_send_2 : decode b_R_send 2 = .ok (.invokevirtual 87, 3) := by decide +kernel
theorem d_R_send_5 : decode b_R_send 5 = .ok (.istore_n 3, 1) := by decide +kernel
theorem d_R_send_6 : decode b_R_send 6 = .ok (.iload_n 3, 1) := by decide +kernel
theorem d_R_send_7 : decode b_R_send 7 = .ok (.ifCond .lt 11, 3) := by decide +kernel
theorem d_R_send_10 : decode b_R_send 10 = .ok (.aload_n 0, 1) := by decide +kernel
theorem d_R_send_11 : decode b_R_send 11 = .ok (.iload_n 2, 1) := by decide +kernel
theorem d_R_send_12 : decode b_R_send 12 = .ok (.invokevirtual 134, 3) := by decide +kernel
theorem d_R_send_15 : decode b_R_send 15 = .ok (.ifCond .ne 5, 3) := by decide +kernel
theorem d_R_send_18 : decode b_R_send 18 = .ok (.iconst 0, 1) := by decide +kernel
theorem d_R_send_19 : decode b_R_send 19 = .ok (.ireturn, 1) := by decide +kernel
theorem d_R_send_20 : decode b_R_send 20 = .ok (.aload_n 0, 1) := by decide +kernel
theorem d_R_send_21 : decode b_R_send 21 = .ok (.getfield 33, 3) := by decide +kernel
theorem d_R_send_24 : decode b_R_send 24 = .ok (.iload_n 3, 1) := by decide +kernel
theorem d_R_send_25 : decode b_R_send 25 = .ok (.aload_n 0, 1) := by decide +kernel
theorem d_R_send_26 : decode b_R_send 26 = .ok (.getfield 13, 3) := by decide +kernel
theorem d_R_send_29 : decode b_R_send 29 = .ok (.iload_n 2, 1) := by decide +kernel
theorem d_R_send_30 : decode b_R_send 30 = .ok (.iaload, 1) := by decide +kernel
theorem d_R_send_31 : decode b_R_send 31 = .ok (.iastore, 1) := by decide +kernel
theorem d_R_send_32 : decode b_R_send 32 = .ok (.iconst 1, 1) := by decide +kernel
theorem d_R_send_33 : decode b_R_send 33 = .ok (.ireturn, 1) := by decide +kernel
theorem d_R_kill_0 : decode b_R_kill 0 = .ok (.aload_n 0, 1) := by decide +kernel
theorem d_R_kill_1 : decode b_R_kill 1 = .ok (.iload_n 1, 1) := by decide +kernel
theorem d_R_kill_2 : decode b_R_kill 2 = .ok (.invokevirtual 87, 3) := by decide +kernel
theorem d_R_kill_5 : decode b_R_kill 5 = .ok (.istore_n 3, 1) := by decide +kernel
theorem d_R_kill_6 : decode b_R_kill 6 = .ok (.iload_n 3, 1) := by decide +kernel
theorem d_R_kill_7 : decode b_R_kill 7 = .ok (.ifCond .ge 5, 3) := by decide +kernel
theorem d_R_kill_10 : decode b_R_kill 10 = .ok (.iconst 0, 1) := by decide +kernel
theorem d_R_kill_11 : decode b_R_kill 11 = .ok (.ireturn, 1) := by decide +kernel
theorem d_R_kill_12 : decode b_R_kill 12 = .ok (.aload_n 0, 1) := by decide +kernel
theorem d_R_kill_13 : decode b_R_kill 13 = .ok (.getfield 36, 3) := by decide +kernel
theorem d_R_kill_16 : decode b_R_kill 16 = .ok (.iload_n 3, 1) := by decide +kernel
theorem d_R_kill_17 : decode b_R_kill 17 = .ok (.baload, 1) := by decide +kernel
theorem d_R_kill_18 : decode b_R_kill 18 = .ok (.istore 4, 2) := by decide +kernel
theorem d_R_kill_20 : decode b_R_kill 20 = .ok (.aload_n 0, 1) := by decide +kernel
theorem d_R_kill_21 : decode b_R_kill 21 = .ok (.getfield 36, 3) := by decide +kernel
theorem d_R_kill_24 : decode b_R_kill 24 = .ok (.iload_n 3, 1) := by decide +kernel
theorem d_R_kill_25 : decode b_R_kill 25 = .ok (.iload_n 2, 1) := by decide +kernel
theorem d_R_kill_26 : decode b_R_kill 26 = .ok (.bastore, 1) := by decide +kernel
theorem d_R_kill_27 : decode b_R_kill 27 = .ok (.iload 4, 2) := by decide +kernel
theorem d_R_kill_29 : decode b_R_kill 29 = .ok (.ireturn, 1) := by decide +kernel
theorem d_R_placeOf_0 : decode b_R_placeOf 0 = .ok (.aload_n 0, 1) := by decide +kernel
theorem d_R_placeOf_1 : decode b_R_placeOf 1 = .ok (.iload_n 1, 1) := by decide +kernel
theorem d_R_placeOf_2 : decode b_R_placeOf 2 = .ok (.invokevirtual 87, 3) := by decide +kernel
theorem d_R_placeOf_5 : decode b_R_placeOf 5 = .ok (.istore_n 3, 1) := by decide +kernel
theorem d_R_placeOf_6 : decode b_R_placeOf 6 = .ok (.iload_n 3, 1) := by decide +kernel
theorem d_R_placeOf_7 : decode b_R_placeOf 7 = .ok (.ifCond .ge 5, 3) := by decide +kernel
theorem d_R_placeOf_10 : decode b_R_placeOf 10 = .ok (.iconst (-1), 1) := by decide +kernel
theorem d_R_placeOf_11 : decode b_R_placeOf 11 = .ok (.ireturn, 1) := by decide +kernel
theorem d_R_placeOf_12 : decode b_R_placeOf 12 = .ok (.aload_n 0, 1) := by decide +kernel
theorem d_R_placeOf_13 : decode b_R_placeOf 13 = .ok (.iload_n 3, 1) := by decide +kernel
theorem d_R_placeOf_14 : decode b_R_placeOf 14 = .ok (.invokevirtual 141, 3) := by decide +kernel
theorem d_R_placeOf_17 : decode b_R_placeOf 17 = .ok (.istore 4, 2) := by decide +kernel
theorem d_R_placeOf_19 : decode b_R_placeOf 19 = .ok (.iload_n 2, 1) := by decide +kernel
theorem d_R_placeOf_20 : decode b_R_placeOf 20 = .ok (.ifCond .lt 42, 3) := by decide +kernel
theorem d_R_placeOf_23 : decode b_R_placeOf 23 = .ok (.iload_n 2, 1) := by decide +kernel
theorem d_R_placeOf_24 : decode b_R_placeOf 24 = .ok (.aload_n 0, 1) := by decide +kernel
theorem d_R_placeOf_25 : decode b_R_placeOf 25 = .ok (.getfield 27, 3) := by decide +kernel
theorem d_R_placeOf_28 : decode b_R_placeOf 28 = .ok (.aload_n 0, 1) := by decide +kernel
theorem d_R_placeOf_29 : decode b_R_placeOf 29 = .ok (.getfield 43, 3) := by decide +kernel
theorem d_R_placeOf_32 : decode b_R_placeOf 32 = .ok (.iload 4, 2) := by decide +kernel
theorem d_R_placeOf_34 : decode b_R_placeOf 34 = .ok (.iaload, 1) := by decide +kernel
theorem d_R_placeOf_35 : decode b_R_placeOf 35 = .ok (.iaload, 1) := by decide +kernel
theorem d_R_placeOf_36 : decode b_R_placeOf 36 = .ok (.if_icmp .ge 26, 3) := by decide +kernel
theorem d_R_placeOf_39 : decode b_R_placeOf 39 = .ok (.iload_n 2, 1) := by decide +kernel
theorem d_R_placeOf_40 : decode b_R_placeOf 40 = .ok (.aload_n 0, 1) := by decide +kernel
theorem d_R_placeOf_41 : decode b_R_placeOf 41 = .ok (.getfield 52, 3) := by decide +kernel
theorem d_R_placeOf_44 : decode b_R_placeOf 44 = .ok (.iload 4, 2) := by decide +kernel
theorem d_R_placeOf_46 : decode b_R_placeOf 46 = .ok (.iaload, 1) := by decide +kernel
theorem d_R_placeOf_47 : decode b_R_placeOf 47 = .ok (.if_icmp .ge 15, 3) := by decide +kernel
theorem d_R_placeOf_50 : decode b_R_placeOf 50 = .ok (.aload_n 0, 1) := by decide +kernel
theorem d_R_placeOf_51 : decode b_R_placeOf 51 = .ok (.getfield 49, 3) := by decide +kernel
theorem d_R_placeOf_54 : decode b_R_placeOf 54 = .ok (.iload 4, 2) := by decide +kernel
theorem d_R_placeOf_56 : decode b_R_placeOf 56 = .ok (.iaload, 1) := by decide +kernel
theorem d_R_placeOf_57 : decode b_R_placeOf 57 = .ok (.iload_n 2, 1) := by decide +kernel
theorem d_R_placeOf_58 : decode b_R_placeOf 58 = .ok (.iadd, 1) := by decide +kernel
theorem d_R_placeOf_59 : decode b_R_placeOf 59 = .ok (.goto 4, 3) := by decide +kernel
theorem d_R_placeOf_62 : decode b_R_placeOf 62 = .ok (.iconst (-1), 1) := by decide +kernel
theorem d_R_placeOf_63 : decode b_R_placeOf 63 = .ok (.ireturn, 1) := by decide +kernel
theorem d_R_temporary_0 : decode b_R_temporary 0 = .ok (.aload_n 0, 1) := by decide +kernel
theorem d_R_temporary_1 : decode b_R_temporary 1 = .ok (.iload_n 2, 1) := by decide +kernel
theorem d_R_temporary_2 : decode b_R_temporary 2 = .ok (.iload_n 3, 1) := by decide +kernel
theorem d_R_temporary_3 : decode b_R_temporary 3 = .ok (.invokevirtual 154, 3) := by decide +kernel
theorem d_R_temporary_6 : decode b_R_temporary 6 = .ok (.istore 4, 2) := by decide +kernel
theorem d_R_temporary_8 : decode b_R_temporary 8 = .ok (.iload 4, 2) := by decide +kernel
theorem d_R_temporary_10 : decode b_R_temporary 10 = .ok (.ifCond .lt 10, 3) := by decide +kernel
theorem d_R_temporary_13 : decode b_R_temporary 13 = .ok (.iload_n 1, 1) := by decide +kernel
theorem d_R_temporary_14 : decode b_R_temporary 14 = .ok (.invokestatic 76, 3) := by decide +kernel
theorem d_R_temporary_17 : decode b_R_temporary 17 = .ok (.ifCond .ne 5, 3) := by decide +kernel
theorem d_R_temporary_20 : decode b_R_temporary 20 = .ok (.iconst 0, 1) := by decide +kernel
theorem d_R_temporary_21 : decode b_R_temporary 21 = .ok (.ireturn, 1) := by decide +kernel
theorem d_R_temporary_22 : decode b_R_temporary 22 = .ok (.aload_n 0, 1) := by decide +kernel
theorem d_R_temporary_23 : decode b_R_temporary 23 = .ok (.getfield 13, 3) := by decide +kernel
theorem d_R_temporary_26 : decode b_R_temporary 26 = .ok (.iload_n 1, 1) := by decide +kernel
theorem d_R_temporary_27 : decode b_R_temporary 27 = .ok (.aload_n 0, 1) := by decide +kernel
theorem d_R_temporary_28 : decode b_R_temporary 28 = .ok (.getfield 56, 3) := by decide +kernel
theorem d_R_temporary_31 : decode b_R_temporary 31 = .ok (.iload 4, 2) := by decide +kernel
theorem d_R_temporary_33 : decode b_R_temporary 33 = .ok (.iaload, 1) := by decide +kernel
theorem d_R_temporary_34 : decode b_R_temporary 34 = .ok (.iastore, 1) := by decide +kernel
theorem d_R_temporary_35 : decode b_R_temporary 35 = .ok (.iconst 1, 1) := by decide +kernel
theorem d_R_temporary_36 : decode b_R_temporary 36 = .ok (.ireturn, 1) := by decide +kernel
theorem d_R_keep_0 : decode b_R_keep 0 = .ok (.aload_n 0, 1) := by decide +kernel
theorem d_R_keep_1 : decode b_R_keep 1 = .ok (.iload_n 1, 1) := by decide +kernel
theorem d_R_keep_2 : decode b_R_keep 2 = .ok (.iload_n 2, 1) := by decide +kernel
theorem d_R_keep_3 : decode b_R_keep 3 = .ok (.invokevirtual 154, 3) := by decide +kernel
theorem d_R_keep_6 : decode b_R_keep 6 = .ok (.istore 4, 2) := by decide +kernel
theorem d_R_keep_8 : decode b_R_keep 8 = .ok (.iload 4, 2) := by decide +kernel
theorem d_R_keep_10 : decode b_R_keep 10 = .ok (.ifCond .lt 10, 3) := by decide +kernel
theorem d_R_keep_13 : decode b_R_keep 13 = .ok (.iload_n 3, 1) := by decide +kernel
theorem d_R_keep_14 : decode b_R_keep 14 = .ok (.invokestatic 76, 3) := by decide +kernel
theorem d_R_keep_17 : decode b_R_keep 17 = .ok (.ifCond .ne 5, 3) := by decide +kernel
theorem d_R_keep_20 : decode b_R_keep 20 = .ok (.iconst 0, 1) := by decide +kernel
theorem d_R_keep_21 : decode b_R_keep 21 = .ok (.ireturn, 1) := by decide +kernel
theorem d_R_keep_22 : decode b_R_keep 22 = .ok (.aload_n 0, 1) := by decide +kernel
theorem d_R_keep_23 : decode b_R_keep 23 = .ok (.getfield 56, 3) := by decide +kernel
theorem d_R_keep_26 : decode b_R_keep 26 = .ok (.iload 4, 2) := by decide +kernel
theorem d_R_keep_28 : decode b_R_keep 28 = .ok (.aload_n 0, 1) := by decide +kernel
theorem d_R_keep_29 : decode b_R_keep 29 = .ok (.getfield 13, 3) := by decide +kernel
theorem d_R_keep_32 : decode b_R_keep 32 = .ok (.iload_n 3, 1) := by decide +kernel
theorem d_R_keep_33 : decode b_R_keep 33 = .ok (.iaload, 1) := by decide +kernel
theorem d_R_keep_34 : decode b_R_keep 34 = .ok (.iastore, 1) := by decide +kernel
theorem d_R_keep_35 : decode b_R_keep 35 = .ok (.iconst 1, 1) := by decide +kernel
theorem d_R_keep_36 : decode b_R_keep 36 = .ok (.ireturn, 1) := by decide +kernel
