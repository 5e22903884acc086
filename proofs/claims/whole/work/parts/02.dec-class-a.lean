theorem d_S_init_0 : decode b_S_init 0 = .ok (.aload_n 0, 1) := by decide +kernel
theorem d_S_init_1 : decode b_S_init 1 = .ok (.invokespecial 1, 3) := by decide +kernel
theorem d_S_init_4 : decode b_S_init 4 = .ok (.aload_n 0, 1) := by decide +kernel
theorem d_S_init_5 : decode b_S_init 5 = .ok (.iload_n 1, 1) := by decide +kernel
theorem d_S_init_6 : decode b_S_init 6 = .ok (.sipush 128, 3) := by decide +kernel
theorem d_S_init_9 : decode b_S_init 9 = .ok (.ldc 9, 2) := by decide +kernel
theorem d_S_init_11 : decode b_S_init 11 = .ok (.invokestatic 10, 3) := by decide +kernel
theorem d_S_init_14 : decode b_S_init 14 = .ok (.ifCond .eq 7, 3) := by decide +kernel
theorem d_S_init_17 : decode b_S_init 17 = .ok (.iload_n 1, 1) := by decide +kernel
theorem d_S_init_18 : decode b_S_init 18 = .ok (.goto 5, 3) := by decide +kernel
theorem d_S_init_21 : decode b_S_init 21 = .ok (.ldc 9, 2) := by decide +kernel
theorem d_S_init_23 : decode b_S_init 23 = .ok (.putfield 14, 3) := by decide +kernel
theorem d_S_init_26 : decode b_S_init 26 = .ok (.aload_n 0, 1) := by decide +kernel
theorem d_S_init_27 : decode b_S_init 27 = .ok (.iload_n 2, 1) := by decide +kernel
theorem d_S_init_28 : decode b_S_init 28 = .ok (.bipush 16, 2) := by decide +kernel
theorem d_S_init_30 : decode b_S_init 30 = .ok (.sipush 4096, 3) := by decide +kernel
theorem d_S_init_33 : decode b_S_init 33 = .ok (.invokestatic 10, 3) := by decide +kernel
theorem d_S_init_36 : decode b_S_init 36 = .ok (.ifCond .eq 7, 3) := by decide +kernel
theorem d_S_init_39 : decode b_S_init 39 = .ok (.iload_n 2, 1) := by decide +kernel
theorem d_S_init_40 : decode b_S_init 40 = .ok (.goto 6, 3) := by decide +kernel
theorem d_S_init_43 : decode b_S_init 43 = .ok (.sipush 4096, 3) := by decide +kernel
theorem d_S_init_46 : decode b_S_init 46 = .ok (.putfield 18, 3) := by decide +kernel
theorem d_S_init_49 : decode b_S_init 49 = .ok (.aload_n 0, 1) := by decide +kernel
theorem d_S_init_50 : decode b_S_init 50 = .ok (.bipush 16, 2) := by decide +kernel
theorem d_S_init_52 : decode b_S_init 52 = .ok (.anewarray 21, 3) := by decide +kernel
theorem d_S_init_55 : decode b_S_init 55 = .ok (.putfield 23, 3) := by decide +kernel
theorem d_S_init_58 : decode b_S_init 58 = .ok (.aload_n 0, 1) := by decide +kernel
theorem d_S_init_59 : decode b_S_init 59 = .ok (.aload_n 0, 1) := by decide +kernel
theorem d_S_init_60 : decode b_S_init 60 = .ok (.getfield 18, 3) := by decide +kernel
theorem d_S_init_63 : decode b_S_init 63 = .ok (.anewarray 27, 3) := by decide +kernel
theorem d_S_init_66 : decode b_S_init 66 = .ok (.putfield 29, 3) := by decide +kernel
theorem d_S_init_69 : decode b_S_init 69 = .ok (.aload_n 0, 1) := by decide +kernel
theorem d_S_init_70 : decode b_S_init 70 = .ok (.iconst 2, 1) := by decide +kernel
theorem d_S_init_71 : decode b_S_init 71 = .ok (.putfield 33, 3) := by decide +kernel
theorem d_S_init_74 : decode b_S_init 74 = .ok (.return_, 1) := by decide +kernel
theorem d_S_number_0 : decode b_S_number 0 = .ok (.iload_n 1, 1) := by decide +kernel
theorem d_S_number_1 : decode b_S_number 1 = .ok (.invokestatic 36, 3) := by decide +kernel
theorem d_S_number_4 : decode b_S_number 4 = .ok (.ifCond .eq 10, 3) := by decide +kernel
theorem d_S_number_7 : decode b_S_number 7 = .ok (.iload_n 2, 1) := by decide +kernel
theorem d_S_number_8 : decode b_S_number 8 = .ok (.invokestatic 40, 3) := by decide +kernel
theorem d_S_number_11 : decode b_S_number 11 = .ok (.ifCond .ne 5, 3) := by decide +kernel
theorem d_S_number_14 : decode b_S_number 14 = .ok (.iconst 0, 1) := by decide +kernel
theorem d_S_number_15 : decode b_S_number 15 = .ok (.ireturn, 1) := by decide +kernel
theorem d_S_number_16 : decode b_S_number 16 = .ok (.aload_n 0, 1) := by decide +kernel
theorem d_S_number_17 : decode b_S_number 17 = .ok (.getfield 23, 3) := by decide +kernel
theorem d_S_number_20 : decode b_S_number 20 = .ok (.iload_n 1, 1) := by decide +kernel
theorem d_S_number_21 : decode b_S_number 21 = .ok (.new 43, 3) := by decide +kernel
theorem d_S_number_24 : decode b_S_number 24 = .ok (.dup, 1) := by decide +kernel
theorem d_S_number_25 : decode b_S_number 25 = .ok (.iload_n 2, 1) := by decide +kernel
theorem d_S_number_26 : decode b_S_number 26 = .ok (.invokespecial 45, 3) := by decide +kernel
theorem d_S_number_29 : decode b_S_number 29 = .ok (.aastore, 1) := by decide +kernel
theorem d_S_number_30 : decode b_S_number 30 = .ok (.iconst 1, 1) := by decide +kernel
theorem d_S_number_31 : decode b_S_number 31 = .ok (.ireturn, 1) := by decide +kernel
theorem d_S_move_0 : decode b_S_move 0 = .ok (.iload_n 1, 1) := by decide +kernel
theorem d_S_move_1 : decode b_S_move 1 = .ok (.invokestatic 36, 3) := by decide +kernel
theorem d_S_move_4 : decode b_S_move 4 = .ok (.ifCond .eq 10, 3) := by decide +kernel
theorem d_S_move_7 : decode b_S_move 7 = .ok (.iload_n 2, 1) := by decide +kernel
theorem d_S_move_8 : decode b_S_move 8 = .ok (.invokestatic 36, 3) := by decide +kernel
theorem d_S_move_11 : decode b_S_move 11 = .ok (.ifCond .ne 5, 3) := by decide +kernel
theorem d_S_move_14 : decode b_S_move 14 = .ok (.iconst 0, 1) := by decide +kernel
theorem d_S_move_15 : decode b_S_move 15 = .ok (.ireturn, 1) := by decide +kernel
theorem d_S_move_16 : decode b_S_move 16 = .ok (.aload_n 0, 1) := by decide +kernel
theorem d_S_move_17 : decode b_S_move 17 = .ok (.getfield 23, 3) := by decide +kernel
theorem d_S_move_20 : decode b_S_move 20 = .ok (.iload_n 1, 1) := by decide +kernel
theorem d_S_move_21 : decode b_S_move 21 = .ok (.aload_n 0, 1) := by decide +kernel
theorem d_S_move_22 : decode b_S_move 22 = .ok (.getfield 23, 3) := by decide +kernel
theorem d_S_move_25 : decode b_S_move 25 = .ok (.iload_n 2, 1) := by decide +kernel
theorem d_S_move_26 : decode b_S_move 26 = .ok (.aaload, 1) := by decide +kernel
theorem d_S_move_27 : decode b_S_move 27 = .ok (.aastore, 1) := by decide +kernel
theorem d_S_move_28 : decode b_S_move 28 = .ok (.iconst 1, 1) := by decide +kernel
theorem d_S_move_29 : decode b_S_move 29 = .ok (.ireturn, 1) := by decide +kernel
theorem d_S_clear_0 : decode b_S_clear 0 = .ok (.iload_n 1, 1) := by decide +kernel
theorem d_S_clear_1 : decode b_S_clear 1 = .ok (.invokestatic 36, 3) := by decide +kernel
theorem d_S_clear_4 : decode b_S_clear 4 = .ok (.ifCond .ne 5, 3) := by decide +kernel
theorem d_S_clear_7 : decode b_S_clear 7 = .ok (.iconst 0, 1) := by decide +kernel
theorem d_S_clear_8 : decode b_S_clear 8 = .ok (.ireturn, 1) := by decide +kernel
theorem d_S_clear_9 : decode b_S_clear 9 = .ok (.aload_n 0, 1) := by decide +kernel
theorem d_S_clear_10 : decode b_S_clear 10 = .ok (.getfield 23, 3) := by decide +kernel
theorem d_S_clear_13 : decode b_S_clear 13 = .ok (.iload_n 1, 1) := by decide +kernel
theorem d_S_clear_14 : decode b_S_clear 14 = .ok (.aconst_null, 1) := by decide +kernel
theorem d_S_clear_15 : decode b_S_clear 15 = .ok (.aastore, 1) := by decide +kernel
theorem d_S_clear_16 : decode b_S_clear 16 = .ok (.iconst 1, 1) := by decide +kernel
theorem d_S_clear_17 : decode b_S_clear 17 = .ok (.ireturn, 1) := by decide +kernel
theorem d_S_kind_0 : decode b_S_kind 0 = .ok (.iload_n 1, 1) := by decide +kernel
theorem d_S_kind_1 : decode b_S_kind 1 = .ok (.invokestatic 36, 3) := by decide +kernel
theorem d_S_kind_4 : decode b_S_kind 4 = .ok (.ifCond .ne 5, 3) := by decide +kernel
theorem d_S_kind_7 : decode b_S_kind 7 = .ok (.iconst (-1), 1) := by decide +kernel
theorem d_S_kind_8 : decode b_S_kind 8 = .ok (.ireturn, 1) := by decide +kernel
theorem d_S_kind_9 : decode b_S_kind 9 = .ok (.aload_n 0, 1) := by decide +kernel
theorem d_S_kind_10 : decode b_S_kind 10 = .ok (.getfield 23, 3) := by decide +kernel
theorem d_S_kind_13 : decode b_S_kind 13 = .ok (.iload_n 1, 1) := by decide +kernel
theorem d_S_kind_14 : decode b_S_kind 14 = .ok (.aaload, 1) := by decide +kernel
theorem d_S_kind_15 : decode b_S_kind 15 = .ok (.astore_n 2, 1) := by decide +kernel
theorem d_S_kind_16 : decode b_S_kind 16 = .ok (.aload_n 2, 1) := by decide +kernel
theorem d_S_kind_17 : decode b_S_kind 17 = .ok (.ifnonnull 7, 3) := by decide +kernel
theorem d_S_kind_20 : decode b_S_kind 20 = .ok (.iconst 0, 1) := by decide +kernel
theorem d_S_kind_21 : decode b_S_kind 21 = .ok (.goto 7, 3) := by decide +kernel
theorem d_S_kind_24 : decode b_S_kind 24 = .ok (.aload_n 2, 1) := by decide +kernel
theorem d_S_kind_25 : decode b_S_kind 25 = .ok (.invokevirtual 48, 3) := by decide +kernel
theorem d_S_kind_28 : decode b_S_kind 28 = .ok (.ireturn, 1) := by decide +kernel
theorem d_S_value_0 : decode b_S_value 0 = .ok (.iload_n 1, 1) := by decide +kernel
theorem d_S_value_1 : decode b_S_value 1 = .ok (.invokestatic 36, 3) := by decide +kernel
theorem d_S_value_4 : decode b_S_value 4 = .ok (.ifCond .ne 5, 3) := by decide +kernel
theorem d_S_value_7 : decode b_S_value 7 = .ok (.iconst 0, 1) := by decide +kernel
theorem d_S_value_8 : decode b_S_value 8 = .ok (.ireturn, 1) := by decide +kernel
theorem d_S_value_9 : decode b_S_value 9 = .ok (.aload_n 0, 1) := by decide +kernel
theorem d_S_value_10 : decode b_S_value 10 = .ok (.getfield 23, 3) := by decide +kernel
theorem d_S_value_13 : decode b_S_value 13 = .ok (.iload_n 1, 1) := by decide +kernel
theorem d_S_value_14 : decode b_S_value 14 = .ok (.aaload, 1) := by decide +kernel
theorem d_S_value_15 : decode b_S_value 15 = .ok (.astore_n 2, 1) := by decide +kernel
theorem d_S_value_16 : decode b_S_value 16 = .ok (.aload_n 2, 1) := by decide +kernel
theorem d_S_value_17 : decode b_S_value 17 = .ok (.ifnonnull 7, 3) := by decide +kernel
theorem d_S_value_20 : decode b_S_value 20 = .ok (.iconst 0, 1) := by decide +kernel
theorem d_S_value_21 : decode b_S_value 21 = .ok (.goto 7, 3) := by decide +kernel
theorem d_S_value_24 : decode b_S_value 24 = .ok (.aload_n 2, 1) := by decide +kernel
theorem d_S_value_25 : decode b_S_value 25 = .ok (.invokevirtual 52, 3) := by decide +kernel
theorem d_S_value_28 : decode b_S_value 28 = .ok (.ireturn, 1) := by decide +kernel
theorem d_S_method_0 : decode b_S_method 0 = .ok (.iload_n 1, 1) := by decide +kernel
theorem d_S_method_1 : decode b_S_method 1 = .ok (.invokestatic 36, 3) := by decide +kernel
theorem d_S_method_4 : decode b_S_method 4 = .ok (.ifCond .eq 13, 3) := by decide +kernel
theorem d_S_method_7 : decode b_S_method 7 = .ok (.iload_n 2, 1) := by decide +kernel
theorem d_S_method_8 : decode b_S_method 8 = .ok (.iload_n 3, 1) := by decide +kernel
theorem d_S_method_9 : decode b_S_method 9 = .ok (.iload 4, 2) := by decide +kernel
theorem d_S_method_11 : decode b_S_method 11 = .ok (.invokestatic 55, 3) := by decide +kernel
theorem d_S_method_14 : decode b_S_method 14 = .ok (.ifCond .ne 5, 3) := by decide +kernel
theorem d_S_method_17 : decode b_S_method 17 = .ok (.iconst (-1), 1) := by decide +kernel
theorem d_S_method_18 : decode b_S_method 18 = .ok (.ireturn, 1) := by decide +kernel
theorem d_S_method_19 : decode b_S_method 19 = .ok (.aload_n 0, 1) := by decide +kernel
theorem d_S_method_20 : decode b_S_method 20 = .ok (.bipush 10, 2) := by decide +kernel
theorem d_S_method_22 : decode b_S_method 22 = .ok (.iconst 2, 1) := by decide +kernel
theorem d_S_method_23 : decode b_S_method 23 = .ok (.invokevirtual 58, 3) := by decide +kernel
theorem d_S_method_26 : decode b_S_method 26 = .ok (.ifCond .ne 6, 3) := by decide +kernel
theorem d_S_method_29 : decode b_S_method 29 = .ok (.bipush (-2), 2) := by decide +kernel
theorem d_S_method_31 : decode b_S_method 31 = .ok (.ireturn, 1) := by decide +kernel
theorem d_S_method_32 : decode b_S_method 32 = .ok (.aload_n 0, 1) := by decide +kernel
theorem d_S_method_33 : decode b_S_method 33 = .ok (.dup, 1) := by decide +kernel
theorem d_S_method_34 : decode b_S_method 34 = .ok (.getfield 33, 3) := by decide +kernel
theorem d_S_method_37 : decode b_S_method 37 = .ok (.iconst 2, 1) := by decide +kernel
theorem d_S_method_38 : decode b_S_method 38 = .ok (.iadd, 1) := by decide +kernel
theorem d_S_method_39 : decode b_S_method 39 = .ok (.putfield 33, 3) := by decide +kernel
theorem d_S_method_42 : decode b_S_method 42 = .ok (.aload_n 0, 1) := by decide +kernel
theorem d_S_method_43 : decode b_S_method 43 = .ok (.getfield 23, 3) := by decide +kernel
theorem d_S_method_46 : decode b_S_method 46 = .ok (.iload_n 1, 1) := by decide +kernel
theorem d_S_method_47 : decode b_S_method 47 = .ok (.new 62, 3) := by decide +kernel
theorem d_S_method_50 : decode b_S_method 50 = .ok (.dup, 1) := by decide +kernel
theorem d_S_method_51 : decode b_S_method 51 = .ok (.aload_n 0, 1) := by decide +kernel
theorem d_S_method_52 : decode b_S_method 52 = .ok (.getfield 33, 3) := by decide +kernel
theorem d_S_method_55 : decode b_S_method 55 = .ok (.iload_n 3, 1) := by decide +kernel
theorem d_S_method_56 : decode b_S_method 56 = .ok (.iload 4, 2) := by decide +kernel
theorem d_S_method_58 : decode b_S_method 58 = .ok (.invokespecial 64, 3) := by decide +kernel
theorem d_S_method_61 : decode b_S_method 61 = .ok (.aastore, 1) := by decide +kernel
theorem d_S_method_62 : decode b_S_method 62 = .ok (.aload_n 0, 1) := by decide +kernel
theorem d_S_method_63 : decode b_S_method 63 = .ok (.getfield 33, 3) := by decide +kernel
theorem d_S_method_66 : decode b_S_method 66 = .ok (.ireturn, 1) := by decide +kernel
theorem d_S_change_0 : decode b_S_change 0 = .ok (.aload_n 0, 1) := by decide +kernel
theorem d_S_change_1 : decode b_S_change 1 = .ok (.iload_n 1, 1) := by decide +kernel
theorem d_S_change_2 : decode b_S_change 2 = .ok (.invokevirtual 67, 3) := by decide +kernel
theorem d_S_change_5 : decode b_S_change 5 = .ok (.astore 5, 2) := by decide +kernel
theorem d_S_change_7 : decode b_S_change 7 = .ok (.aload 5, 2) := by decide +kernel
theorem d_S_change_9 : decode b_S_change 9 = .ok (.ifnull 13, 3) := by decide +kernel
theorem d_S_change_12 : decode b_S_change 12 = .ok (.iload_n 2, 1) := by decide +kernel
theorem d_S_change_13 : decode b_S_change 13 = .ok (.iload_n 3, 1) := by decide +kernel
theorem d_S_change_14 : decode b_S_change 14 = .ok (.iload 4, 2) := by decide +kernel
theorem d_S_change_16 : decode b_S_change 16 = .ok (.invokestatic 55, 3) := by decide +kernel
theorem d_S_change_19 : decode b_S_change 19 = .ok (.ifCond .ne 5, 3) := by decide +kernel
theorem d_S_change_22 : decode b_S_change 22 = .ok (.iconst 0, 1) := by decide +kernel
theorem d_S_change_23 : decode b_S_change 23 = .ok (.ireturn, 1) := by decide +kernel
theorem d_S_change_24 : decode b_S_change 24 = .ok (.aload 5, 2) := by decide +kernel
theorem d_S_change_26 : decode b_S_change 26 = .ok (.iload_n 3, 1) := by decide +kernel
theorem d_S_change_27 : decode b_S_change 27 = .ok (.iload 4, 2) := by decide +kernel
theorem d_S_change_29 : decode b_S_change 29 = .ok (.invokevirtual 71, 3) := by decide +kernel
theorem d_S_change_32 : decode b_S_change 32 = .ok (.iconst 1, 1) := by decide +kernel
theorem d_S_change_33 : decode b_S_change 33 = .ok (.ireturn, 1) := by decide +kernel
theorem d_S_context_0 : decode b_S_context 0 = .ok (.aload_n 0, 1) := by decide +kernel
theorem d_S_context_1 : decode b_S_context 1 = .ok (.iload_n 2, 1) := by decide +kernel
theorem d_S_context_2 : decode b_S_context 2 = .ok (.invokevirtual 67, 3) := by decide +kernel
theorem d_S_context_5 : decode b_S_context 5 = .ok (.astore 4, 2) := by decide +kernel
theorem d_S_context_7 : decode b_S_context 7 = .ok (.iload_n 1, 1) := by decide +kernel
theorem d_S_context_8 : decode b_S_context 8 = .ok (.invokestatic 36, 3) := by decide +kernel
theorem d_S_context_11 : decode b_S_context 11 = .ok (.ifCond .eq 16, 3) := by decide +kernel
theorem d_S_context_14 : decode b_S_context 14 = .ok (.aload 4, 2) := by decide +kernel
theorem d_S_context_16 : decode b_S_context 16 = .ok (.ifnull 11, 3) := by decide +kernel
theorem d_S_context_19 : decode b_S_context 19 = .ok (.aload_n 0, 1) := by decide +kernel
theorem d_S_context_20 : decode b_S_context 20 = .ok (.iload_n 3, 1) := by decide +kernel
theorem d_S_context_21 : decode b_S_context 21 = .ok (.invokevirtual 75, 3) := by decide +kernel
theorem d_S_context_24 : decode b_S_context 24 = .ok (.ifCond .ne 5, 3) := by decide +kernel
theorem d_S_context_27 : decode b_S_context 27 = .ok (.iconst (-1), 1) := by decide +kernel
theorem d_S_context_28 : decode b_S_context 28 = .ok (.ireturn, 1) := by decide +kernel
theorem d_S_context_29 : decode b_S_context 29 = .ok (.aload 4, 2) := by decide +kernel
theorem d_S_context_31 : decode b_S_context 31 = .ok (.getfield 78, 3) := by decide +kernel
theorem d_S_context_34 : decode b_S_context 34 = .ok (.aload 4, 2) := by decide +kernel
theorem d_S_context_36 : decode b_S_context 36 = .ok (.getfield 81, 3) := by decide +kernel
theorem d_S_context_39 : decode b_S_context 39 = .ok (.iadd, 1) := by decide +kernel
theorem d_S_context_40 : decode b_S_context 40 = .ok (.istore 5, 2) := by decide +kernel
theorem d_S_context_42 : decode b_S_context 42 = .ok (.aload_n 0, 1) := by decide +kernel
theorem d_S_context_43 : decode b_S_context 43 = .ok (.bipush 9, 2) := by decide +kernel
theorem d_S_context_45 : decode b_S_context 45 = .ok (.iload 5, 2) := by decide +kernel
theorem d_S_context_47 : decode b_S_context 47 = .ok (.iadd, 1) := by decide +kernel
theorem d_S_context_48 : decode b_S_context 48 = .ok (.iconst 1, 1) := by decide +kernel
theorem d_S_context_49 : decode b_S_context 49 = .ok (.invokevirtual 58, 3) := by decide +kernel
theorem d_S_context_52 : decode b_S_context 52 = .ok (.ifCond .ne 6, 3) := by decide +kernel
theorem d_S_context_55 : decode b_S_context 55 = .ok (.bipush (-2), 2) := by decide +kernel
theorem d_S_context_57 : decode b_S_context 57 = .ok (.ireturn, 1) := by decide +kernel
theorem d_S_context_58 : decode b_S_context 58 = .ok (.aload_n 0, 1) := by decide +kernel
theorem d_S_context_59 : decode b_S_context 59 = .ok (.dup, 1) := by decide +kernel
theorem d_S_context_60 : decode b_S_context 60 = .ok (.getfield 33, 3) := by decide +kernel
theorem d_S_context_63 : decode b_S_context 63 = .ok (.iconst 1, 1) := by decide +kernel
theorem d_S_context_64 : decode b_S_context 64 = .ok (.iadd, 1) := by decide +kernel
theorem d_S_context_65 : decode b_S_context 65 = .ok (.putfield 33, 3) := by decide +kernel
theorem d_S_context_68 : decode b_S_context 68 = .ok (.aload_n 0, 1) := by decide +kernel
theorem d_S_context_69 : decode b_S_context 69 = .ok (.getfield 23, 3) := by decide +kernel
theorem d_S_context_72 : decode b_S_context 72 = .ok (.iload_n 1, 1) := by decide +kernel
theorem d_S_context_73 : decode b_S_context 73 = .ok (.new 84, 3) := by decide +kernel
theorem d_S_context_76 : decode b_S_context 76 = .ok (.dup, 1) := by decide +kernel
theorem d_S_context_77 : decode b_S_context 77 = .ok (.aload_n 0, 1) := by decide +kernel
theorem d_S_context_78 : decode b_S_context 78 = .ok (.getfield 33, 3) := by decide +kernel
theorem d_S_context_81 : decode b_S_context 81 = .ok (.aload 4, 2) := by decide +kernel
theorem d_S_context_83 : decode b_S_context 83 = .ok (.aload_n 0, 1) := by decide +kernel
theorem d_S_context_84 : decode b_S_context 84 = .ok (.iload_n 3, 1) := by decide +kernel
theorem d_S_context_85 : decode b_S_context 85 = .ok (.invokevirtual 86, 3) := by decide +kernel
theorem d_S_context_88 : decode b_S_context 88 = .ok (.invokespecial 90, 3) := by decide +kernel
theorem d_S_context_91 : decode b_S_context 91 = .ok (.aastore, 1) := by decide +kernel
theorem d_S_context_92 : decode b_S_context 92 = .ok (.aload_n 0, 1) := by decide +kernel
theorem d_S_context_93 : decode b_S_context 93 = .ok (.getfield 33, 3) := by decide +kernel
theorem d_S_context_96 : decode b_S_context 96 = .ok (.ireturn, 1) := by decide +kernel
theorem d_S_block_0 : decode b_S_block 0 = .ok (.aload_n 0, 1) := by decide +kernel
theorem d_S_block_1 : decode b_S_block 1 = .ok (.iload_n 2, 1) := by decide +kernel
theorem d_S_block_2 : decode b_S_block 2 = .ok (.invokevirtual 86, 3) := by decide +kernel
theorem d_S_block_5 : decode b_S_block 5 = .ok (.astore 4, 2) := by decide +kernel
theorem d_S_block_7 : decode b_S_block 7 = .ok (.iload_n 1, 1) := by decide +kernel
theorem d_S_block_8 : decode b_S_block 8 = .ok (.invokestatic 36, 3) := by decide +kernel
theorem d_S_block_11 : decode b_S_block 11 = .ok (.ifCond .eq 18, 3) := by decide +kernel
theorem d_S_block_14 : decode b_S_block 14 = .ok (.aload 4, 2) := by decide +kernel
theorem d_S_block_16 : decode b_S_block 16 = .ok (.ifnull 13, 3) := by decide +kernel
theorem d_S_block_19 : decode b_S_block 19 = .ok (.iload_n 3, 1) := by decide +kernel
theorem d_S_block_20 : decode b_S_block 20 = .ok (.iconst 0, 1) := by decide +kernel
theorem d_S_block_21 : decode b_S_block 21 = .ok (.bipush 15, 2) := by decide +kernel
theorem d_S_block_23 : decode b_S_block 23 = .ok (.invokestatic 10, 3) := by decide +kernel
theorem d_S_block_26 : decode b_S_block 26 = .ok (.ifCond .ne 5, 3) := by decide +kernel
theorem d_S_block_29 : decode b_S_block 29 = .ok (.iconst (-1), 1) := by decide +kernel
theorem d_S_block_30 : decode b_S_block 30 = .ok (.ireturn, 1) := by decide +kernel
theorem d_S_block_31 : decode b_S_block 31 = .ok (.aload 4, 2) := by decide +kernel
theorem d_S_block_33 : decode b_S_block 33 = .ok (.invokevirtual 93, 3) := by decide +kernel
theorem d_S_block_36 : decode b_S_block 36 = .ok (.astore 5, 2) := by decide +kernel
theorem d_S_block_38 : decode b_S_block 38 = .ok (.aload 5, 2) := by decide +kernel
theorem d_S_block_40 : decode b_S_block 40 = .ok (.getfield 99, 3) := by decide +kernel
theorem d_S_block_43 : decode b_S_block 43 = .ok (.getfield 81, 3) := by decide +kernel
theorem d_S_block_46 : decode b_S_block 46 = .ok (.istore 6, 2) := by decide +kernel
theorem d_S_block_48 : decode b_S_block 48 = .ok (.aload_n 0, 1) := by decide +kernel
theorem d_S_block_49 : decode b_S_block 49 = .ok (.bipush 10, 2) := by decide +kernel
theorem d_S_block_51 : decode b_S_block 51 = .ok (.iload 6, 2) := by decide +kernel
theorem d_S_block_53 : decode b_S_block 53 = .ok (.iadd, 1) := by decide +kernel
theorem d_S_block_54 : decode b_S_block 54 = .ok (.iconst 1, 1) := by decide +kernel
theorem d_S_block_55 : decode b_S_block 55 = .ok (.invokevirtual 58, 3) := by decide +kernel
theorem d_S_block_58 : decode b_S_block 58 = .ok (.ifCond .ne 6, 3) := by decide +kernel
theorem d_S_block_61 : decode b_S_block 61 = .ok (.bipush (-2), 2) := by decide +kernel
theorem d_S_block_63 : decode b_S_block 63 = .ok (.ireturn, 1) := by decide +kernel
theorem d_S_block_64 : decode b_S_block 64 = .ok (.aload_n 0, 1) := by decide +kernel
theorem d_S_block_65 : decode b_S_block 65 = .ok (.dup, 1) := by decide +kernel
theorem d_S_block_66 : decode b_S_block 66 = .ok (.getfield 33, 3) := by decide +kernel
theorem d_S_block_69 : decode b_S_block 69 = .ok (.iconst 1, 1) := by decide +kernel
theorem d_S_block_70 : decode b_S_block 70 = .ok (.iadd, 1) := by decide +kernel
theorem d_S_block_71 : decode b_S_block 71 = .ok (.putfield 33, 3) := by decide +kernel
theorem d_S_block_74 : decode b_S_block 74 = .ok (.aload_n 0, 1) := by decide +kernel
theorem d_S_block_75 : decode b_S_block 75 = .ok (.getfield 23, 3) := by decide +kernel
theorem d_S_block_78 : decode b_S_block 78 = .ok (.iload_n 1, 1) := by decide +kernel
theorem d_S_block_79 : decode b_S_block 79 = .ok (.new 103, 3) := by decide +kernel
theorem d_S_block_82 : decode b_S_block 82 = .ok (.dup, 1) := by decide +kernel
theorem d_S_block_83 : decode b_S_block 83 = .ok (.aload_n 0, 1) := by decide +kernel
theorem d_S_block_84 : decode b_S_block 84 = .ok (.getfield 33, 3) := by decide +kernel
theorem d_S_block_87 : decode b_S_block 87 = .ok (.aload 5, 2) := by decide +kernel
theorem d_S_block_89 : decode b_S_block 89 = .ok (.iload_n 3, 1) := by decide +kernel
theorem d_S_block_90 : decode b_S_block 90 = .ok (.invokespecial 105, 3) := by decide +kernel
theorem d_S_block_93 : decode b_S_block 93 = .ok (.aastore, 1) := by decide +kernel
theorem d_S_block_94 : decode b_S_block 94 = .ok (.aload_n 0, 1) := by decide +kernel
theorem d_S_block_95 : decode b_S_block 95 = .ok (.getfield 33, 3) := by decide +kernel
theorem d_S_block_98 : decode b_S_block 98 = .ok (.ireturn, 1) := by decide +kernel
theorem d_S_push_0 : decode b_S_push 0 = .ok (.aload_n 0, 1) := by decide +kernel
theorem d_S_push_1 : decode b_S_push 1 = .ok (.iload_n 1, 1) := by decide +kernel
theorem d_S_push_2 : decode b_S_push 2 = .ok (.invokevirtual 86, 3) := by decide +kernel
theorem d_S_push_5 : decode b_S_push 5 = .ok (.astore_n 3, 1) := by decide +kernel
theorem d_S_push_6 : decode b_S_push 6 = .ok (.aload_n 3, 1) := by decide +kernel
theorem d_S_push_7 : decode b_S_push 7 = .ok (.ifnull 17, 3) := by decide +kernel
theorem d_S_push_10 : decode b_S_push 10 = .ok (.iload_n 2, 1) := by decide +kernel
theorem d_S_push_11 : decode b_S_push 11 = .ok (.invokestatic 36, 3) := by decide +kernel
theorem d_S_push_14 : decode b_S_push 14 = .ok (.ifCond .eq 10, 3) := by decide +kernel
theorem d_S_push_17 : decode b_S_push 17 = .ok (.aload_n 3, 1) := by decide +kernel
theorem d_S_push_18 : decode b_S_push 18 = .ok (.invokevirtual 108, 3) := by decide +kernel
theorem d_S_push_21 : decode b_S_push 21 = .ok (.ifCond .eq 5, 3) := by decide +kernel
theorem d_S_push_24 : decode b_S_push 24 = .ok (.iconst 0, 1) := by decide +kernel
theorem d_S_push_25 : decode b_S_push 25 = .ok (.ireturn, 1) := by decide +kernel
theorem d_S_push_26 : decode b_S_push 26 = .ok (.aload_n 3, 1) := by decide +kernel
theorem d_S_push_27 : decode b_S_push 27 = .ok (.aload_n 0, 1) := by decide +kernel
theorem d_S_push_28 : decode b_S_push 28 = .ok (.getfield 23, 3) := by decide +kernel
theorem d_S_push_31 : decode b_S_push 31 = .ok (.iload_n 2, 1) := by decide +kernel
theorem d_S_push_32 : decode b_S_push 32 = .ok (.aaload, 1) := by decide +kernel
theorem d_S_push_33 : decode b_S_push 33 = .ok (.invokevirtual 112, 3) := by decide +kernel
theorem d_S_push_36 : decode b_S_push 36 = .ok (.iconst 1, 1) := by decide +kernel
theorem d_S_push_37 : decode b_S_push 37 = .ok (.ireturn, 1) := by decide +kernel
theorem d_S_fill_0 : decode b_S_fill 0 = .ok (.aload_n 0, 1) := by decide +kernel
theorem d_S_fill_1 : decode b_S_fill 1 = .ok (.iload_n 1, 1) := by decide +kernel
theorem d_S_fill_2 : decode b_S_fill 2 = .ok (.invokevirtual 86, 3) := by decide +kernel
theorem d_S_fill_5 : decode b_S_fill 5 = .ok (.astore 4, 2) := by decide +kernel
theorem d_S_fill_7 : decode b_S_fill 7 = .ok (.aload 4, 2) := by decide +kernel
theorem d_S_fill_9 : decode b_S_fill 9 = .ok (.ifnull 21, 3) := by decide +kernel
theorem d_S_fill_12 : decode b_S_fill 12 = .ok (.iload_n 3, 1) := by decide +kernel
theorem d_S_fill_13 : decode b_S_fill 13 = .ok (.iconst 0, 1) := by decide +kernel
theorem d_S_fill_14 : decode b_S_fill 14 = .ok (.bipush 100, 2) := by decide +kernel
theorem d_S_fill_16 : decode b_S_fill 16 = .ok (.invokestatic 10, 3) := by decide +kernel
theorem d_S_fill_19 : decode b_S_fill 19 = .ok (.ifCond .eq 11, 3) := by decide +kernel
theorem d_S_fill_22 : decode b_S_fill 22 = .ok (.iload_n 2, 1) := by decide +kernel
theorem d_S_fill_23 : decode b_S_fill 23 = .ok (.iload_n 3, 1) := by decide +kernel
theorem d_S_fill_24 : decode b_S_fill 24 = .ok (.invokestatic 116, 3) := by decide +kernel
theorem d_S_fill_27 : decode b_S_fill 27 = .ok (.ifCond .ne 5, 3) := by decide +kernel
theorem d_S_fill_30 : decode b_S_fill 30 = .ok (.iconst (-1), 1) := by decide +kernel
theorem d_S_fill_31 : decode b_S_fill 31 = .ok (.ireturn, 1) := by decide +kernel
theorem d_S_fill_32 : decode b_S_fill 32 = .ok (.iconst 0, 1) := by decide +kernel
theorem d_S_fill_33 : decode b_S_fill 33 = .ok (.istore 5, 2) := by decide +kernel
theorem d_S_fill_35 : decode b_S_fill 35 = .ok (.iload 5, 2) := by decide +kernel
theorem d_S_fill_37 : decode b_S_fill 37 = .ok (.iload_n 3, 1) := by decide +kernel
theorem d_S_fill_38 : decode b_S_fill 38 = .ok (.if_icmp .ge 33, 3) := by decide +kernel
theorem d_S_fill_41 : decode b_S_fill 41 = .ok (.aload 4, 2) := by decide +kernel
theorem d_S_fill_43 : decode b_S_fill 43 = .ok (.invokevirtual 108, 3) := by decide +kernel
theorem d_S_fill_46 : decode b_S_fill 46 = .ok (.ifCond .ne 25, 3) := by decide +kernel
theorem d_S_fill_49 : decode b_S_fill 49 = .ok (.aload 4, 2) := by decide +kernel
theorem d_S_fill_51 : decode b_S_fill 51 = .ok (.new 43, 3) := by decide +kernel
theorem d_S_fill_54 : decode b_S_fill 54 = .ok (.dup, 1) := by decide +kernel
theorem d_S_fill_55 : decode b_S_fill 55 = .ok (.iload_n 2, 1) := by decide +kernel
theorem d_S_fill_56 : decode b_S_fill 56 = .ok (.iload 5, 2) := by decide +kernel
theorem d_S_fill_58 : decode b_S_fill 58 = .ok (.iadd, 1) := by decide +kernel
theorem d_S_fill_59 : decode b_S_fill 59 = .ok (.invokespecial 45, 3) := by decide +kernel
theorem d_S_fill_62 : decode b_S_fill 62 = .ok (.invokevirtual 112, 3) := by decide +kernel
theorem d_S_fill_65 : decode b_S_fill 65 = .ok (.iinc 5 1, 3) := by decide +kernel
theorem d_S_fill_68 : decode b_S_fill 68 = .ok (.goto (-33), 3) := by decide +kernel
theorem d_S_fill_71 : decode b_S_fill 71 = .ok (.iload 5, 2) := by decide +kernel
theorem d_S_fill_73 : decode b_S_fill 73 = .ok (.ireturn, 1) := by decide +kernel
theorem d_S_pop_0 : decode b_S_pop 0 = .ok (.aload_n 0, 1) := by decide +kernel
theorem d_S_pop_1 : decode b_S_pop 1 = .ok (.iload_n 2, 1) := by decide +kernel
theorem d_S_pop_2 : decode b_S_pop 2 = .ok (.invokevirtual 86, 3) := by decide +kernel
theorem d_S_pop_5 : decode b_S_pop 5 = .ok (.astore_n 3, 1) := by decide +kernel
theorem d_S_pop_6 : decode b_S_pop 6 = .ok (.iload_n 1, 1) := by decide +kernel
theorem d_S_pop_7 : decode b_S_pop 7 = .ok (.invokestatic 36, 3) := by decide +kernel
theorem d_S_pop_10 : decode b_S_pop 10 = .ok (.ifCond .eq 14, 3) := by decide +kernel
theorem d_S_pop_13 : decode b_S_pop 13 = .ok (.aload_n 3, 1) := by decide +kernel
theorem d_S_pop_14 : decode b_S_pop 14 = .ok (.ifnull 10, 3) := by decide +kernel
theorem d_S_pop_17 : decode b_S_pop 17 = .ok (.aload_n 3, 1) := by decide +kernel
theorem d_S_pop_18 : decode b_S_pop 18 = .ok (.invokevirtual 119, 3) := by decide +kernel
theorem d_S_pop_21 : decode b_S_pop 21 = .ok (.ifCond .gt 5, 3) := by decide +kernel
theorem d_S_pop_24 : decode b_S_pop 24 = .ok (.iconst 0, 1) := by decide +kernel
theorem d_S_pop_25 : decode b_S_pop 25 = .ok (.ireturn, 1) := by decide +kernel
theorem d_S_pop_26 : decode b_S_pop 26 = .ok (.aload_n 0, 1) := by decide +kernel
theorem d_S_pop_27 : decode b_S_pop 27 = .ok (.getfield 23, 3) := by decide +kernel
theorem d_S_pop_30 : decode b_S_pop 30 = .ok (.iload_n 1, 1) := by decide +kernel
theorem d_S_pop_31 : decode b_S_pop 31 = .ok (.aload_n 3, 1) := by decide +kernel
theorem d_S_pop_32 : decode b_S_pop 32 = .ok (.invokevirtual 122, 3) := by decide +kernel
theorem d_S_pop_35 : decode b_S_pop 35 = .ok (.aastore, 1) := by decide +kernel
theorem d_S_pop_36 : decode b_S_pop 36 = .ok (.iconst 1, 1) := by decide +kernel
theorem d_S_pop_37 : decode b_S_pop 37 = .ok (.ireturn, 1) := by decide +kernel
theorem d_S_peek_0 : decode b_S_peek 0 = .ok (.aload_n 0, 1) := by decide +kernel
theorem d_S_peek_1 : decode b_S_peek 1 = .ok (.iload_n 2, 1) := by decide +kernel
theorem d_S_peek_2 : decode b_S_peek 2 = .ok (.invokevirtual 86, 3) := by decide +kernel
theorem d_S_peek_5 : decode b_S_peek 5 = .ok (.astore 4, 2) := by decide +kernel
theorem d_S_peek_7 : decode b_S_peek 7 = .ok (.iload_n 1, 1) := by decide +kernel
theorem d_S_peek_8 : decode b_S_peek 8 = .ok (.invokestatic 36, 3) := by decide +kernel
theorem d_S_peek_11 : decode b_S_peek 11 = .ok (.ifCond .eq 21, 3) := by decide +kernel
theorem d_S_peek_14 : decode b_S_peek 14 = .ok (.aload 4, 2) := by decide +kernel
theorem d_S_peek_16 : decode b_S_peek 16 = .ok (.ifnull 16, 3) := by decide +kernel
theorem d_S_peek_19 : decode b_S_peek 19 = .ok (.iload_n 3, 1) := by decide +kernel
theorem d_S_peek_20 : decode b_S_peek 20 = .ok (.ifCond .lt 12, 3) := by decide +kernel
theorem d_S_peek_23 : decode b_S_peek 23 = .ok (.iload_n 3, 1) := by decide +kernel
theorem d_S_peek_24 : decode b_S_peek 24 = .ok (.aload 4, 2) := by decide +kernel
theorem d_S_peek_26 : decode b_S_peek 26 = .ok (.invokevirtual 119, 3) := by decide +kernel
theorem d_S_peek_29 : decode b_S_peek 29 = .ok (.if_icmp .lt 5, 3) := by decide +kernel
theorem d_S_peek_32 : decode b_S_peek 32 = .ok (.iconst 0, 1) := by decide +kernel
theorem d_S_peek_33 : decode b_S_peek 33 = .ok (.ireturn, 1) := by decide +kernel
theorem d_S_peek_34 : decode b_S_peek 34 = .ok (.aload_n 0, 1) := by decide +kernel
theorem d_S_peek_35 : decode b_S_peek 35 = .ok (.getfield 23, 3) := by decide +kernel
theorem d_S_peek_38 : decode b_S_peek 38 = .ok (.iload_n 1, 1) := by decide +kernel
theorem d_S_peek_39 : decode b_S_peek 39 = .ok (.aload 4, 2) := by decide +kernel
theorem d_S_peek_41 : decode b_S_peek 41 = .ok (.aload 4, 2) := by decide +kernel
theorem d_S_peek_43 : decode b_S_peek 43 = .ok (.getfield 126, 3) := by decide +kernel
theorem d_S_peek_46 : decode b_S_peek 46 = .ok (.iconst 1, 1) := by decide +kernel
theorem d_S_peek_47 : decode b_S_peek 47 = .ok (.isub, 1) := by decide +kernel
theorem d_S_peek_48 : decode b_S_peek 48 = .ok (.iload_n 3, 1) := by decide +kernel
theorem d_S_peek_49 : decode b_S_peek 49 = .ok (.isub, 1) := by decide +kernel
theorem d_S_peek_50 : decode b_S_peek 50 = .ok (.invokevirtual 129, 3) := by decide +kernel
theorem d_S_peek_53 : decode b_S_peek 53 = .ok (.aastore, 1) := by decide +kernel
theorem d_S_peek_54 : decode b_S_peek 54 = .ok (.iconst 1, 1) := by decide +kernel
theorem d_S_peek_55 : decode b_S_peek 55 = .ok (.ireturn, 1) := by decide +kernel
theorem d_S_drop_0 : decode b_S_drop 0 = .ok (.aload_n 0, 1) := by decide +kernel
theorem d_S_drop_1 : decode b_S_drop 1 = .ok (.iload_n 1, 1) := by decide +kernel
theorem d_S_drop_2 : decode b_S_drop 2 = .ok (.invokevirtual 86, 3) := by decide +kernel
theorem d_S_drop_5 : decode b_S_drop 5 = .ok (.astore_n 3, 1) := by decide +kernel
theorem d_S_drop_6 : decode b_S_drop 6 = .ok (.aload_n 3, 1) := by decide +kernel
theorem d_S_drop_7 : decode b_S_drop 7 = .ok (.ifnull 7, 3) := by decide +kernel
theorem d_S_drop_10 : decode b_S_drop 10 = .ok (.iload_n 2, 1) := by decide +kernel
theorem d_S_drop_11 : decode b_S_drop 11 = .ok (.ifCond .ge 5, 3) := by decide +kernel
theorem d_S_drop_14 : decode b_S_drop 14 = .ok (.iconst 0, 1) := by decide +kernel
theorem d_S_drop_15 : decode b_S_drop 15 = .ok (.ireturn, 1) := by decide +kernel
theorem d_S_drop_16 : decode b_S_drop 16 = .ok (.iload_n 2, 1) := by decide +kernel
theorem d_S_drop_17 : decode b_S_drop 17 = .ok (.ifCond .le 13, 3) := by decide +kernel
theorem d_S_drop_20 : decode b_S_drop 20 = .ok (.iload_n 2, 1) := by decide +kernel
theorem d_S_drop_21 : decode b_S_drop 21 = .ok (.aload_n 3, 1) := by decide +kernel
theorem d_S_drop_22 : decode b_S_drop 22 = .ok (.invokevirtual 119, 3) := by decide +kernel
theorem d_S_drop_25 : decode b_S_drop 25 = .ok (.if_icmp .le 5, 3) := by decide +kernel
theorem d_S_drop_28 : decode b_S_drop 28 = .ok (.iconst 0, 1) := by decide +kernel
theorem d_S_drop_29 : decode b_S_drop 29 = .ok (.ireturn, 1) := by decide +kernel
theorem d_S_drop_30 : decode b_S_drop 30 = .ok (.iconst 0, 1) := by decide +kernel
theorem d_S_drop_31 : decode b_S_drop 31 = .ok (.istore 4, 2) := by decide +kernel
theorem d_S_drop_33 : decode b_S_drop 33 = .ok (.iload 4, 2) := by decide +kernel
theorem d_S_drop_35 : decode b_S_drop 35 = .ok (.iload_n 2, 1) := by decide +kernel
theorem d_S_drop_36 : decode b_S_drop 36 = .ok (.if_icmp .ge 14, 3) := by decide +kernel
theorem d_S_drop_39 : decode b_S_drop 39 = .ok (.aload_n 3, 1) := by decide +kernel
theorem d_S_drop_40 : decode b_S_drop 40 = .ok (.invokevirtual 122, 3) := by decide +kernel
theorem d_S_drop_43 : decode b_S_drop 43 = .ok (.pop, 1) := by decide +kernel
theorem d_S_drop_44 : decode b_S_drop 44 = .ok (.iinc 4 1, 3) := by decide +kernel
theorem d_S_drop_47 : decode b_S_drop 47 = .ok (.goto (-14), 3) := by decide +kernel
theorem d_S_drop_50 : decode b_S_drop 50 = .ok (.iconst 1, 1) := by decide +kernel
theorem d_S_drop_51 : decode b_S_drop 51 = .ok (.ireturn, 1) := by decide +kernel
theorem d_S_height_0 : decode b_S_height 0 = .ok (.aload_n 0, 1) := by decide +kernel
theorem d_S_height_1 : decode b_S_height 1 = .ok (.iload_n 1, 1) := by decide +kernel
theorem d_S_height_2 : decode b_S_height 2 = .ok (.invokevirtual 86, 3) := by decide +kernel
theorem d_S_height_5 : decode b_S_height 5 = .ok (.astore_n 2, 1) := by decide +kernel
theorem d_S_height_6 : decode b_S_height 6 = .ok (.aload_n 2, 1) := by decide +kernel
theorem d_S_height_7 : decode b_S_height 7 = .ok (.ifnonnull 7, 3) := by decide +kernel
theorem d_S_height_10 : decode b_S_height 10 = .ok (.iconst (-1), 1) := by decide +kernel
theorem d_S_height_11 : decode b_S_height 11 = .ok (.goto 7, 3) := by decide +kernel
theorem d_S_height_14 : decode b_S_height 14 = .ok (.aload_n 2, 1) := by decide +kernel
theorem d_S_height_15 : decode b_S_height 15 = .ok (.getfield 126, 3) := by decide +kernel
theorem d_S_height_18 : decode b_S_height 18 = .ok (.ireturn, 1) := by decide +kernel
theorem d_S_room_0 : decode b_S_room 0 = .ok (.aload_n 0, 1) := by decide +kernel
theorem d_S_room_1 : decode b_S_room 1 = .ok (.iload_n 1, 1) := by decide +kernel
theorem d_S_room_2 : decode b_S_room 2 = .ok (.invokevirtual 86, 3) := by decide +kernel
theorem d_S_room_5 : decode b_S_room 5 = .ok (.astore_n 2, 1) := by decide +kernel
theorem d_S_room_6 : decode b_S_room 6 = .ok (.aload_n 2, 1) := by decide +kernel
theorem d_S_room_7 : decode b_S_room 7 = .ok (.ifnonnull 7, 3) := by decide +kernel
theorem d_S_room_10 : decode b_S_room 10 = .ok (.iconst (-1), 1) := by decide +kernel
theorem d_S_room_11 : decode b_S_room 11 = .ok (.goto 8, 3) := by decide +kernel
theorem d_S_room_14 : decode b_S_room 14 = .ok (.aload_n 2, 1) := by decide +kernel
theorem d_S_room_15 : decode b_S_room 15 = .ok (.getfield 133, 3) := by decide +kernel
theorem d_S_room_18 : decode b_S_room 18 = .ok (.arraylength, 1) := by decide +kernel
theorem d_S_room_19 : decode b_S_room 19 = .ok (.ireturn, 1) := by decide +kernel
theorem d_S_floor_0 : decode b_S_floor 0 = .ok (.aload_n 0, 1) := by decide +kernel
theorem d_S_floor_1 : decode b_S_floor 1 = .ok (.iload_n 1, 1) := by decide +kernel
theorem d_S_floor_2 : decode b_S_floor 2 = .ok (.invokevirtual 86, 3) := by decide +kernel
theorem d_S_floor_5 : decode b_S_floor 5 = .ok (.astore_n 2, 1) := by decide +kernel
theorem d_S_floor_6 : decode b_S_floor 6 = .ok (.aload_n 2, 1) := by decide +kernel
theorem d_S_floor_7 : decode b_S_floor 7 = .ok (.ifnonnull 7, 3) := by decide +kernel
theorem d_S_floor_10 : decode b_S_floor 10 = .ok (.iconst (-1), 1) := by decide +kernel
theorem d_S_floor_11 : decode b_S_floor 11 = .ok (.goto 7, 3) := by decide +kernel
theorem d_S_floor_14 : decode b_S_floor 14 = .ok (.aload_n 2, 1) := by decide +kernel
theorem d_S_floor_15 : decode b_S_floor 15 = .ok (.invokevirtual 136, 3) := by decide +kernel
theorem d_S_floor_18 : decode b_S_floor 18 = .ok (.ireturn, 1) := by decide +kernel
theorem d_S_count_0 : decode b_S_count 0 = .ok (.iload_n 1, 1) := by decide +kernel
theorem d_S_count_1 : decode b_S_count 1 = .ok (.invokestatic 36, 3) := by decide +kernel
theorem d_S_count_4 : decode b_S_count 4 = .ok (.ifCond .eq 27, 3) := by decide +kernel
theorem d_S_count_7 : decode b_S_count 7 = .ok (.aload_n 0, 1) := by decide +kernel
theorem d_S_count_8 : decode b_S_count 8 = .ok (.getfield 23, 3) := by decide +kernel
theorem d_S_count_11 : decode b_S_count 11 = .ok (.iload_n 1, 1) := by decide +kernel
theorem d_S_count_12 : decode b_S_count 12 = .ok (.aaload, 1) := by decide +kernel
theorem d_S_count_13 : decode b_S_count 13 = .ok (.astore_n 3, 1) := by decide +kernel
theorem d_S_count_14 : decode b_S_count 14 = .ok (.aload_n 3, 1) := by decide +kernel
theorem d_S_count_15 : decode b_S_count 15 = .ok (.instanceof 103, 3) := by decide +kernel
theorem d_S_count_18 : decode b_S_count 18 = .ok (.ifCond .eq 13, 3) := by decide +kernel
theorem d_S_count_21 : decode b_S_count 21 = .ok (.aload_n 3, 1) := by decide +kernel
theorem d_S_count_22 : decode b_S_count 22 = .ok (.checkcast 103, 3) := by decide +kernel
theorem d_S_count_25 : decode b_S_count 25 = .ok (.astore_n 2, 1) := by decide +kernel
theorem d_S_count_26 : decode b_S_count 26 = .ok (.aload_n 2, 1) := by decide +kernel
theorem d_S_count_27 : decode b_S_count 27 = .ok (.getfield 139, 3) := by decide +kernel
theorem d_S_count_30 : decode b_S_count 30 = .ok (.ireturn, 1) := by decide +kernel
theorem d_S_count_31 : decode b_S_count 31 = .ok (.iconst (-1), 1) := by decide +kernel
theorem d_S_count_32 : decode b_S_count 32 = .ok (.ireturn, 1) := by decide +kernel
theorem d_S_home_0 : decode b_S_home 0 = .ok (.aload_n 0, 1) := by decide +kernel
theorem d_S_home_1 : decode b_S_home 1 = .ok (.iload_n 2, 1) := by decide +kernel
theorem d_S_home_2 : decode b_S_home 2 = .ok (.invokevirtual 86, 3) := by decide +kernel
theorem d_S_home_5 : decode b_S_home 5 = .ok (.astore_n 3, 1) := by decide +kernel
theorem d_S_home_6 : decode b_S_home 6 = .ok (.iload_n 1, 1) := by decide +kernel
theorem d_S_home_7 : decode b_S_home 7 = .ok (.invokestatic 36, 3) := by decide +kernel
theorem d_S_home_10 : decode b_S_home 10 = .ok (.ifCond .eq 7, 3) := by decide +kernel
theorem d_S_home_13 : decode b_S_home 13 = .ok (.aload_n 3, 1) := by decide +kernel
theorem d_S_home_14 : decode b_S_home 14 = .ok (.ifnonnull 5, 3) := by decide +kernel
theorem d_S_home_17 : decode b_S_home 17 = .ok (.iconst 0, 1) := by decide +kernel
theorem d_S_home_18 : decode b_S_home 18 = .ok (.ireturn, 1) := by decide +kernel
theorem d_S_home_19 : decode b_S_home 19 = .ok (.aload_n 0, 1) := by decide +kernel
theorem d_S_home_20 : decode b_S_home 20 = .ok (.getfield 23, 3) := by decide +kernel
theorem d_S_home_23 : decode b_S_home 23 = .ok (.iload_n 1, 1) := by decide +kernel
theorem d_S_home_24 : decode b_S_home 24 = .ok (.aload_n 3, 1) := by decide +kernel
theorem d_S_home_25 : decode b_S_home 25 = .ok (.invokevirtual 93, 3) := by decide +kernel
theorem d_S_home_28 : decode b_S_home 28 = .ok (.aastore, 1) := by decide +kernel
theorem d_S_home_29 : decode b_S_home 29 = .ok (.iconst 1, 1) := by decide +kernel
theorem d_S_home_30 : decode b_S_home 30 = .ok (.ireturn, 1) := by decide +kernel
theorem d_S_sender_0 : decode b_S_sender 0 = .ok (.aload_n 0, 1) := by decide +kernel
theorem d_S_sender_1 : decode b_S_sender 1 = .ok (.iload_n 2, 1) := by decide +kernel
theorem d_S_sender_2 : decode b_S_sender 2 = .ok (.invokevirtual 86, 3) := by decide +kernel
theorem d_S_sender_5 : decode b_S_sender 5 = .ok (.astore_n 3, 1) := by decide +kernel
theorem d_S_sender_6 : decode b_S_sender 6 = .ok (.iload_n 1, 1) := by decide +kernel
theorem d_S_sender_7 : decode b_S_sender 7 = .ok (.invokestatic 36, 3) := by decide +kernel
theorem d_S_sender_10 : decode b_S_sender 10 = .ok (.ifCond .eq 7, 3) := by decide +kernel
theorem d_S_sender_13 : decode b_S_sender 13 = .ok (.aload_n 3, 1) := by decide +kernel
theorem d_S_sender_14 : decode b_S_sender 14 = .ok (.ifnonnull 5, 3) := by decide +kernel
theorem d_S_sender_17 : decode b_S_sender 17 = .ok (.iconst 0, 1) := by decide +kernel
theorem d_S_sender_18 : decode b_S_sender 18 = .ok (.ireturn, 1) := by decide +kernel
theorem d_S_sender_19 : decode b_S_sender 19 = .ok (.aload_n 0, 1) := by decide +kernel
theorem d_S_sender_20 : decode b_S_sender 20 = .ok (.getfield 23, 3) := by decide +kernel
theorem d_S_sender_23 : decode b_S_sender 23 = .ok (.iload_n 1, 1) := by decide +kernel
theorem d_S_sender_24 : decode b_S_sender 24 = .ok (.aload_n 3, 1) := by decide +kernel
theorem d_S_sender_25 : decode b_S_sender 25 = .ok (.getfield 142, 3) := by decide +kernel
theorem d_S_sender_28 : decode b_S_sender 28 = .ok (.aastore, 1) := by decide +kernel
theorem d_S_sender_29 : decode b_S_sender 29 = .ok (.iconst 1, 1) := by decide +kernel
theorem d_S_sender_30 : decode b_S_sender 30 = .ok (.ireturn, 1) := by decide +kernel
theorem d_S_send_0 : decode b_S_send 0 = .ok (.aload_n 0, 1) := by decide +kernel
theorem d_S_send_1 : decode b_S_send 1 = .ok (.iload_n 1, 1) := by decide +kernel
theorem d_S_send_2 : decode b_S_send 2 = .ok (.invokevirtual 86, 3) := by decide +kernel
theorem d_S_send_5 : decode b_S_send 5 = .ok (.astore_n 3, 1) := by decide +kernel
theorem d_S_send_6 : decode b_S_send 6 = .ok (.aload_n 3, 1) := by decide +kernel
theorem d_S_send_7 : decode b_S_send 7 = .ok (.ifnull 11, 3) := by decide +kernel
theorem d_S_send_10 : decode b_S_send 10 = .ok (.aload_n 0, 1) := by decide +kernel
theorem d_S_send_11 : decode b_S_send 11 = .ok (.iload_n 2, 1) := by decide +kernel
theorem d_S_send_12 : decode b_S_send 12 = .ok (.invokevirtual 75, 3) := by decide +kernel
theorem d_S_send_15 : decode b_S_send 15 = .ok (.ifCond .ne 5, 3) := by decide +kernel
theorem d_S_send_18 : decode b_S_send 18 = .ok (.iconst 0, 1) := by decide +kernel
theorem d_S_send_19 : decode b_S_send 19 = .ok (.ireturn, 1) := by decide +kernel
theorem d_S_send_20 : decode b_S_send 20 = .ok (.aload_n 3, 1) := by decide +kernel
theorem d_S_send_21 : decode b_S_send 21 = .ok (.aload_n 0, 1) := by decide +kernel
theorem d_S_send_22 : decode b_S_send 22 = .ok (.iload_n 2, 1) := by decide +kernel
theorem d_S_send_23 : decode b_S_send 23 = .ok (.invokevirtual 86, 3) := by decide +kernel
theorem d_S_send_26 : decode b_S_send 26 = .ok (.putfield 142, 3) := by decide +kernel
theorem d_S_send_29 : decode b_S_send 29 = .ok (.iconst 1, 1) := by decide +kernel
theorem d_S_send_30 : decode b_S_send 30 = .ok (.ireturn, 1) := by decide +kernel
theorem d_S_kill_0 : decode b_S_kill 0 = .ok (.aload_n 0, 1) := by decide +kernel
theorem d_S_kill_1 : decode b_S_kill 1 = .ok (.iload_n 1, 1) := by decide +kernel
theorem d_S_kill_2 : decode b_S_kill 2 = .ok (.invokevirtual 86, 3) := by decide +kernel
theorem d_S_kill_5 : decode b_S_kill 5 = .ok (.astore_n 3, 1) := by decide +kernel
theorem d_S_kill_6 : decode b_S_kill 6 = .ok (.aload_n 3, 1) := by decide +kernel
theorem d_S_kill_7 : decode b_S_kill 7 = .ok (.ifnonnull 5, 3) := by decide +kernel
theorem d_S_kill_10 : decode b_S_kill 10 = .ok (.iconst 0, 1) := by decide +kernel
theorem d_S_kill_11 : decode b_S_kill 11 = .ok (.ireturn, 1) := by decide +kernel
theorem d_S_kill_12 : decode b_S_kill 12 = .ok (.aload_n 3, 1) := by decide +kernel
theorem d_S_kill_13 : decode b_S_kill 13 = .ok (.getfield 146, 3) := by decide +kernel
theorem d_S_kill_16 : decode b_S_kill 16 = .ok (.istore 4, 2) := by decide +kernel
theorem d_S_kill_18 : decode b_S_kill 18 = .ok (.aload_n 3, 1) := by decide +kernel
theorem d_S_kill_19 : decode b_S_kill 19 = .ok (.iload_n 2, 1) := by decide +kernel
theorem d_S_kill_20 : decode b_S_kill 20 = .ok (.putfield 146, 3) := by decide +kernel
theorem d_S_kill_23 : decode b_S_kill 23 = .ok (.iload 4, 2) := by decide +kernel
theorem d_S_kill_25 : decode b_S_kill 25 = .ok (.ireturn, 1) := by decide +kernel
theorem d_S_temporary_0 : decode b_S_temporary 0 = .ok (.aload_n 0, 1) := by decide +kernel
theorem d_S_temporary_1 : decode b_S_temporary 1 = .ok (.iload_n 2, 1) := by decide +kernel
theorem d_S_temporary_2 : decode b_S_temporary 2 = .ok (.invokevirtual 86, 3) := by decide +kernel
theorem d_S_temporary_5 : decode b_S_temporary 5 = .ok (.astore 4, 2) := by decide +kernel
theorem d_S_temporary_7 : decode b_S_temporary 7 = .ok (.iload_n 1, 1) := by decide +kernel
theorem d_S_temporary_8 : decode b_S_temporary 8 = .ok (.invokestatic 36, 3) := by decide +kernel
theorem d_S_temporary_11 : decode b_S_temporary 11 = .ok (.ifCond .eq 20, 3) := by decide +kernel
theorem d_S_temporary_14 : decode b_S_temporary 14 = .ok (.aload 4, 2) := by decide +kernel
theorem d_S_temporary_16 : decode b_S_temporary 16 = .ok (.ifnull 15, 3) := by decide +kernel
theorem d_S_temporary_19 : decode b_S_temporary 19 = .ok (.aload 4, 2) := by decide +kernel
theorem d_S_temporary_21 : decode b_S_temporary 21 = .ok (.invokevirtual 93, 3) := by decide +kernel
theorem d_S_temporary_24 : decode b_S_temporary 24 = .ok (.iload_n 3, 1) := by decide +kernel
theorem d_S_temporary_25 : decode b_S_temporary 25 = .ok (.invokevirtual 150, 3) := by decide +kernel
theorem d_S_temporary_28 : decode b_S_temporary 28 = .ok (.ifCond .ne 5, 3) := by decide +kernel
theorem d_S_temporary_31 : decode b_S_temporary 31 = .ok (.iconst 0, 1) := by decide +kernel
theorem d_S_temporary_32 : decode b_S_temporary 32 = .ok (.ireturn, 1) := by decide +kernel
theorem d_S_temporary_33 : decode b_S_temporary 33 = .ok (.aload_n 0, 1) := by decide +kernel
theorem d_S_temporary_34 : decode b_S_temporary 34 = .ok (.getfield 23, 3) := by decide +kernel
theorem d_S_temporary_37 : decode b_S_temporary 37 = .ok (.iload_n 1, 1) := by decide +kernel
theorem d_S_temporary_38 : decode b_S_temporary 38 = .ok (.aload 4, 2) := by decide +kernel
theorem d_S_temporary_40 : decode b_S_temporary 40 = .ok (.invokevirtual 93, 3) := by decide +kernel
theorem d_S_temporary_43 : decode b_S_temporary 43 = .ok (.iload_n 3, 1) := by decide +kernel
theorem d_S_temporary_44 : decode b_S_temporary 44 = .ok (.invokevirtual 153, 3) := by decide +kernel
theorem d_S_temporary_47 : decode b_S_temporary 47 = .ok (.aastore, 1) := by decide +kernel
theorem d_S_temporary_48 : decode b_S_temporary 48 = .ok (.iconst 1, 1) := by decide +kernel
theorem d_S_temporary_49 : decode b_S_temporary 49 = .ok (.ireturn, 1) := by decide +kernel
theorem d_S_keep_0 : decode b_S_keep 0 = .ok (.aload_n 0, 1) := by decide +kernel
theorem d_S_keep_1 : decode b_S_keep 1 = .ok (.iload_n 1, 1) := by decide +kernel
theorem d_S_keep_2 : decode b_S_keep 2 = .ok (.invokevirtual 86, 3) := by decide +kernel
theorem d_S_keep_5 : decode b_S_keep 5 = .ok (.astore 4, 2) := by decide +kernel
theorem d_S_keep_7 : decode b_S_keep 7 = .ok (.aload 4, 2) := by decide +kernel
theorem d_S_keep_9 : decode b_S_keep 9 = .ok (.ifnull 22, 3) := by decide +kernel
theorem d_S_keep_12 : decode b_S_keep 12 = .ok (.iload_n 3, 1) := by decide +kernel
theorem d_S_keep_13 : decode b_S_keep 13 = .ok (.invokestatic 36, 3) := by decide +kernel
theorem d_S_keep_16 : decode b_S_keep 16 = .ok (.ifCond .eq 15, 3) := by decide +kernel
theorem d_S_keep_19 : decode b_S_keep 19 = .ok (.aload 4, 2) := by decide +kernel
theorem d_S_keep_21 : decode b_S_keep 21 = .ok (.invokevirtual 93, 3) := by decide +kernel
theorem d_S_keep_24 : decode b_S_keep 24 = .ok (.iload_n 2, 1) := by decide +kernel
theorem d_S_keep_25 : decode b_S_keep 25 = .ok (.invokevirtual 150, 3) := by decide +kernel
theorem d_S_keep_28 : decode b_S_keep 28 = .ok (.ifCond .ne 5, 3) := by decide +kernel
theorem d_S_keep_31 : decode b_S_keep 31 = .ok (.iconst 0, 1) := by decide +kernel
theorem d_S_keep_32 : decode b_S_keep 32 = .ok (.ireturn, 1) := by decide +kernel
theorem d_S_keep_33 : decode b_S_keep 33 = .ok (.aload 4, 2) := by decide +kernel
theorem d_S_keep_35 : decode b_S_keep 35 = .ok (.invokevirtual 93, 3) := by decide +kernel
theorem d_S_keep_38 : decode b_S_keep 38 = .ok (.iload_n 2, 1) := by decide +kernel
theorem d_S_keep_39 : decode b_S_keep 39 = .ok (.aload_n 0, 1) := by decide +kernel
theorem d_S_keep_40 : decode b_S_keep 40 = .ok (.getfield 23, 3) := by decide +kernel
theorem d_S_keep_43 : decode b_S_keep 43 = .ok (.iload_n 3, 1) := by decide +kernel
theorem d_S_keep_44 : decode b_S_keep 44 = .ok (.aaload, 1) := by decide +kernel
theorem d_S_keep_45 : decode b_S_keep 45 = .ok (.invokevirtual 154, 3) := by decide +kernel
theorem d_S_keep_48 : decode b_S_keep 48 = .ok (.iconst 1, 1) := by decide +kernel
theorem d_S_keep_49 : decode b_S_keep 49 = .ok (.ireturn, 1) := by decide +kernel
theorem d_S_words_0 : decode b_S_words 0 = .ok (.aload_n 0, 1) := by decide +kernel
theorem d_S_words_1 : decode b_S_words 1 = .ok (.invokevirtual 158, 3) := by decide +kernel
theorem d_S_words_4 : decode b_S_words 4 = .ok (.aload_n 0, 1) := by decide +kernel
