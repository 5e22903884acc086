theorem d_S_words_5 : decode b_S_words 5 = .ok (.getfield 161, 3) := by decide +kernel
theorem d_S_words_8 : decode b_S_words 8 = .ok (.ireturn, 1) := by decide +kernel
theorem d_S_entries_0 : decode b_S_entries 0 = .ok (.aload_n 0, 1) := by decide +kernel
theorem d_S_entries_1 : decode b_S_entries 1 = .ok (.invokevirtual 158, 3) := by decide +kernel
theorem d_S_entries_4 : decode b_S_entries 4 = .ok (.aload_n 0, 1) := by decide +kernel
theorem d_S_entries_5 : decode b_S_entries 5 = .ok (.getfield 164, 3) := by decide +kernel
theorem d_S_entries_8 : decode b_S_entries 8 = .ok (.ireturn, 1) := by decide +kernel
theorem d_S_contexts_0 : decode b_S_contexts 0 = .ok (.aload_n 0, 1) := by decide +kernel
theorem d_S_contexts_1 : decode b_S_contexts 1 = .ok (.invokevirtual 158, 3) := by decide +kernel
theorem d_S_contexts_4 : decode b_S_contexts 4 = .ok (.aload_n 0, 1) := by decide +kernel
theorem d_S_contexts_5 : decode b_S_contexts 5 = .ok (.getfield 167, 3) := by decide +kernel
theorem d_S_contexts_8 : decode b_S_contexts 8 = .ok (.ireturn, 1) := by decide +kernel
theorem d_S_isWithin_0 : decode b_S_isWithin 0 = .ok (.iload_n 0, 1) := by decide +kernel
theorem d_S_isWithin_1 : decode b_S_isWithin 1 = .ok (.iload_n 1, 1) := by decide +kernel
theorem d_S_isWithin_2 : decode b_S_isWithin 2 = .ok (.if_icmp .lt 12, 3) := by decide +kernel
theorem d_S_isWithin_5 : decode b_S_isWithin 5 = .ok (.iload_n 0, 1) := by decide +kernel
theorem d_S_isWithin_6 : decode b_S_isWithin 6 = .ok (.iload_n 2, 1) := by decide +kernel
theorem d_S_isWithin_7 : decode b_S_isWithin 7 = .ok (.if_icmp .gt 7, 3) := by decide +kernel
theorem d_S_isWithin_10 : decode b_S_isWithin 10 = .ok (.iconst 1, 1) := by decide +kernel
theorem d_S_isWithin_11 : decode b_S_isWithin 11 = .ok (.goto 4, 3) := by decide +kernel
theorem d_S_isWithin_14 : decode b_S_isWithin 14 = .ok (.iconst 0, 1) := by decide +kernel
theorem d_S_isWithin_15 : decode b_S_isWithin 15 = .ok (.ireturn, 1) := by decide +kernel
theorem d_S_isRegister_0 : decode b_S_isRegister 0 = .ok (.iload_n 0, 1) := by decide +kernel
theorem d_S_isRegister_1 : decode b_S_isRegister 1 = .ok (.iconst 0, 1) := by decide +kernel
theorem d_S_isRegister_2 : decode b_S_isRegister 2 = .ok (.bipush 15, 2) := by decide +kernel
theorem d_S_isRegister_4 : decode b_S_isRegister 4 = .ok (.invokestatic 10, 3) := by decide +kernel
theorem d_S_isRegister_7 : decode b_S_isRegister 7 = .ok (.ireturn, 1) := by decide +kernel
theorem d_S_isNumber_0 : decode b_S_isNumber 0 = .ok (.iload_n 0, 1) := by decide +kernel
theorem d_S_isNumber_1 : decode b_S_isNumber 1 = .ok (.ldc 170, 2) := by decide +kernel
theorem d_S_isNumber_3 : decode b_S_isNumber 3 = .ok (.ldc 171, 2) := by decide +kernel
theorem d_S_isNumber_5 : decode b_S_isNumber 5 = .ok (.invokestatic 10, 3) := by decide +kernel
theorem d_S_isNumber_8 : decode b_S_isNumber 8 = .ok (.ireturn, 1) := by decide +kernel
theorem d_S_areNumbers_0 : decode b_S_areNumbers 0 = .ok (.iload_n 1, 1) := by decide +kernel
theorem d_S_areNumbers_1 : decode b_S_areNumbers 1 = .ok (.ifCond .eq 20, 3) := by decide +kernel
theorem d_S_areNumbers_4 : decode b_S_areNumbers 4 = .ok (.iload_n 0, 1) := by decide +kernel
theorem d_S_areNumbers_5 : decode b_S_areNumbers 5 = .ok (.invokestatic 40, 3) := by decide +kernel
theorem d_S_areNumbers_8 : decode b_S_areNumbers 8 = .ok (.ifCond .eq 17, 3) := by decide +kernel
theorem d_S_areNumbers_11 : decode b_S_areNumbers 11 = .ok (.iload_n 0, 1) := by decide +kernel
theorem d_S_areNumbers_12 : decode b_S_areNumbers 12 = .ok (.ldc 171, 2) := by decide +kernel
theorem d_S_areNumbers_14 : decode b_S_areNumbers 14 = .ok (.iload_n 1, 1) := by decide +kernel
theorem d_S_areNumbers_15 : decode b_S_areNumbers 15 = .ok (.iconst 1, 1) := by decide +kernel
theorem d_S_areNumbers_16 : decode b_S_areNumbers 16 = .ok (.isub, 1) := by decide +kernel
theorem d_S_areNumbers_17 : decode b_S_areNumbers 17 = .ok (.isub, 1) := by decide +kernel
theorem d_S_areNumbers_18 : decode b_S_areNumbers 18 = .ok (.if_icmp .gt 7, 3) := by decide +kernel
theorem d_S_areNumbers_21 : decode b_S_areNumbers 21 = .ok (.iconst 1, 1) := by decide +kernel
theorem d_S_areNumbers_22 : decode b_S_areNumbers 22 = .ok (.goto 4, 3) := by decide +kernel
theorem d_S_areNumbers_25 : decode b_S_areNumbers 25 = .ok (.iconst 0, 1) := by decide +kernel
theorem d_S_areNumbers_26 : decode b_S_areNumbers 26 = .ok (.ireturn, 1) := by decide +kernel
theorem d_S_areMethodNumbers_0 : decode b_S_areMethodNumbers 0 = .ok (.iload_n 0, 1) := by decide +kernel
theorem d_S_areMethodNumbers_1 : decode b_S_areMethodNumbers 1 = .ok (.iconst 0, 1) := by decide +kernel
theorem d_S_areMethodNumbers_2 : decode b_S_areMethodNumbers 2 = .ok (.bipush 15, 2) := by decide +kernel
theorem d_S_areMethodNumbers_4 : decode b_S_areMethodNumbers 4 = .ok (.invokestatic 10, 3) := by decide +kernel
theorem d_S_areMethodNumbers_7 : decode b_S_areMethodNumbers 7 = .ok (.ifCond .eq 27, 3) := by decide +kernel
theorem d_S_areMethodNumbers_10 : decode b_S_areMethodNumbers 10 = .ok (.iload_n 1, 1) := by decide +kernel
theorem d_S_areMethodNumbers_11 : decode b_S_areMethodNumbers 11 = .ok (.iload_n 0, 1) := by decide +kernel
theorem d_S_areMethodNumbers_12 : decode b_S_areMethodNumbers 12 = .ok (.bipush 31, 2) := by decide +kernel
theorem d_S_areMethodNumbers_14 : decode b_S_areMethodNumbers 14 = .ok (.invokestatic 10, 3) := by decide +kernel
theorem d_S_areMethodNumbers_17 : decode b_S_areMethodNumbers 17 = .ok (.ifCond .eq 17, 3) := by decide +kernel
theorem d_S_areMethodNumbers_20 : decode b_S_areMethodNumbers 20 = .ok (.iload_n 2, 1) := by decide +kernel
theorem d_S_areMethodNumbers_21 : decode b_S_areMethodNumbers 21 = .ok (.iconst 0, 1) := by decide +kernel
theorem d_S_areMethodNumbers_22 : decode b_S_areMethodNumbers 22 = .ok (.bipush 63, 2) := by decide +kernel
theorem d_S_areMethodNumbers_24 : decode b_S_areMethodNumbers 24 = .ok (.invokestatic 10, 3) := by decide +kernel
theorem d_S_areMethodNumbers_27 : decode b_S_areMethodNumbers 27 = .ok (.ifCond .eq 7, 3) := by decide +kernel
theorem d_S_areMethodNumbers_30 : decode b_S_areMethodNumbers 30 = .ok (.iconst 1, 1) := by decide +kernel
theorem d_S_areMethodNumbers_31 : decode b_S_areMethodNumbers 31 = .ok (.goto 4, 3) := by decide +kernel
theorem d_S_areMethodNumbers_34 : decode b_S_areMethodNumbers 34 = .ok (.iconst 0, 1) := by decide +kernel
theorem d_S_areMethodNumbers_35 : decode b_S_areMethodNumbers 35 = .ok (.ireturn, 1) := by decide +kernel
theorem d_S_isSender_0 : decode b_S_isSender 0 = .ok (.iload_n 1, 1) := by decide +kernel
theorem d_S_isSender_1 : decode b_S_isSender 1 = .ok (.invokestatic 36, 3) := by decide +kernel
theorem d_S_isSender_4 : decode b_S_isSender 4 = .ok (.ifCond .eq 28, 3) := by decide +kernel
theorem d_S_isSender_7 : decode b_S_isSender 7 = .ok (.aload_n 0, 1) := by decide +kernel
theorem d_S_isSender_8 : decode b_S_isSender 8 = .ok (.getfield 23, 3) := by decide +kernel
theorem d_S_isSender_11 : decode b_S_isSender 11 = .ok (.iload_n 1, 1) := by decide +kernel
theorem d_S_isSender_12 : decode b_S_isSender 12 = .ok (.aaload, 1) := by decide +kernel
theorem d_S_isSender_13 : decode b_S_isSender 13 = .ok (.ifnull 15, 3) := by decide +kernel
theorem d_S_isSender_16 : decode b_S_isSender 16 = .ok (.aload_n 0, 1) := by decide +kernel
theorem d_S_isSender_17 : decode b_S_isSender 17 = .ok (.getfield 23, 3) := by decide +kernel
theorem d_S_isSender_20 : decode b_S_isSender 20 = .ok (.iload_n 1, 1) := by decide +kernel
theorem d_S_isSender_21 : decode b_S_isSender 21 = .ok (.aaload, 1) := by decide +kernel
theorem d_S_isSender_22 : decode b_S_isSender 22 = .ok (.instanceof 94, 3) := by decide +kernel
theorem d_S_isSender_25 : decode b_S_isSender 25 = .ok (.ifCond .eq 7, 3) := by decide +kernel
theorem d_S_isSender_28 : decode b_S_isSender 28 = .ok (.iconst 1, 1) := by decide +kernel
theorem d_S_isSender_29 : decode b_S_isSender 29 = .ok (.goto 4, 3) := by decide +kernel
theorem d_S_isSender_32 : decode b_S_isSender 32 = .ok (.iconst 0, 1) := by decide +kernel
theorem d_S_isSender_33 : decode b_S_isSender 33 = .ok (.ireturn, 1) := by decide +kernel
theorem d_S_methodIn_0 : decode b_S_methodIn 0 = .ok (.iload_n 1, 1) := by decide +kernel
theorem d_S_methodIn_1 : decode b_S_methodIn 1 = .ok (.invokestatic 36, 3) := by decide +kernel
theorem d_S_methodIn_4 : decode b_S_methodIn 4 = .ok (.ifCond .eq 24, 3) := by decide +kernel
theorem d_S_methodIn_7 : decode b_S_methodIn 7 = .ok (.aload_n 0, 1) := by decide +kernel
theorem d_S_methodIn_8 : decode b_S_methodIn 8 = .ok (.getfield 23, 3) := by decide +kernel
theorem d_S_methodIn_11 : decode b_S_methodIn 11 = .ok (.iload_n 1, 1) := by decide +kernel
theorem d_S_methodIn_12 : decode b_S_methodIn 12 = .ok (.aaload, 1) := by decide +kernel
theorem d_S_methodIn_13 : decode b_S_methodIn 13 = .ok (.astore_n 3, 1) := by decide +kernel
theorem d_S_methodIn_14 : decode b_S_methodIn 14 = .ok (.aload_n 3, 1) := by decide +kernel
theorem d_S_methodIn_15 : decode b_S_methodIn 15 = .ok (.instanceof 62, 3) := by decide +kernel
theorem d_S_methodIn_18 : decode b_S_methodIn 18 = .ok (.ifCond .eq 10, 3) := by decide +kernel
theorem d_S_methodIn_21 : decode b_S_methodIn 21 = .ok (.aload_n 3, 1) := by decide +kernel
theorem d_S_methodIn_22 : decode b_S_methodIn 22 = .ok (.checkcast 62, 3) := by decide +kernel
theorem d_S_methodIn_25 : decode b_S_methodIn 25 = .ok (.astore_n 2, 1) := by decide +kernel
theorem d_S_methodIn_26 : decode b_S_methodIn 26 = .ok (.aload_n 2, 1) := by decide +kernel
theorem d_S_methodIn_27 : decode b_S_methodIn 27 = .ok (.areturn, 1) := by decide +kernel
theorem d_S_methodIn_28 : decode b_S_methodIn 28 = .ok (.aconst_null, 1) := by decide +kernel
theorem d_S_methodIn_29 : decode b_S_methodIn 29 = .ok (.areturn, 1) := by decide +kernel
theorem d_S_contextIn_0 : decode b_S_contextIn 0 = .ok (.iload_n 1, 1) := by decide +kernel
theorem d_S_contextIn_1 : decode b_S_contextIn 1 = .ok (.invokestatic 36, 3) := by decide +kernel
theorem d_S_contextIn_4 : decode b_S_contextIn 4 = .ok (.ifCond .eq 24, 3) := by decide +kernel
theorem d_S_contextIn_7 : decode b_S_contextIn 7 = .ok (.aload_n 0, 1) := by decide +kernel
theorem d_S_contextIn_8 : decode b_S_contextIn 8 = .ok (.getfield 23, 3) := by decide +kernel
theorem d_S_contextIn_11 : decode b_S_contextIn 11 = .ok (.iload_n 1, 1) := by decide +kernel
theorem d_S_contextIn_12 : decode b_S_contextIn 12 = .ok (.aaload, 1) := by decide +kernel
theorem d_S_contextIn_13 : decode b_S_contextIn 13 = .ok (.astore_n 3, 1) := by decide +kernel
theorem d_S_contextIn_14 : decode b_S_contextIn 14 = .ok (.aload_n 3, 1) := by decide +kernel
theorem d_S_contextIn_15 : decode b_S_contextIn 15 = .ok (.instanceof 94, 3) := by decide +kernel
theorem d_S_contextIn_18 : decode b_S_contextIn 18 = .ok (.ifCond .eq 10, 3) := by decide +kernel
theorem d_S_contextIn_21 : decode b_S_contextIn 21 = .ok (.aload_n 3, 1) := by decide +kernel
theorem d_S_contextIn_22 : decode b_S_contextIn 22 = .ok (.checkcast 94, 3) := by decide +kernel
theorem d_S_contextIn_25 : decode b_S_contextIn 25 = .ok (.astore_n 2, 1) := by decide +kernel
theorem d_S_contextIn_26 : decode b_S_contextIn 26 = .ok (.aload_n 2, 1) := by decide +kernel
theorem d_S_contextIn_27 : decode b_S_contextIn 27 = .ok (.areturn, 1) := by decide +kernel
theorem d_S_contextIn_28 : decode b_S_contextIn 28 = .ok (.aconst_null, 1) := by decide +kernel
theorem d_S_contextIn_29 : decode b_S_contextIn 29 = .ok (.areturn, 1) := by decide +kernel
theorem d_S_canBeMade_0 : decode b_S_canBeMade 0 = .ok (.aload_n 0, 1) := by decide +kernel
theorem d_S_canBeMade_1 : decode b_S_canBeMade 1 = .ok (.invokevirtual 158, 3) := by decide +kernel
theorem d_S_canBeMade_4 : decode b_S_canBeMade 4 = .ok (.iload_n 1, 1) := by decide +kernel
theorem d_S_canBeMade_5 : decode b_S_canBeMade 5 = .ok (.aload_n 0, 1) := by decide +kernel
theorem d_S_canBeMade_6 : decode b_S_canBeMade 6 = .ok (.getfield 161, 3) := by decide +kernel
theorem d_S_canBeMade_9 : decode b_S_canBeMade 9 = .ok (.if_icmp .gt 15, 3) := by decide +kernel
theorem d_S_canBeMade_12 : decode b_S_canBeMade 12 = .ok (.iload_n 2, 1) := by decide +kernel
theorem d_S_canBeMade_13 : decode b_S_canBeMade 13 = .ok (.aload_n 0, 1) := by decide +kernel
theorem d_S_canBeMade_14 : decode b_S_canBeMade 14 = .ok (.getfield 164, 3) := by decide +kernel
theorem d_S_canBeMade_17 : decode b_S_canBeMade 17 = .ok (.if_icmp .gt 7, 3) := by decide +kernel
theorem d_S_canBeMade_20 : decode b_S_canBeMade 20 = .ok (.iconst 1, 1) := by decide +kernel
theorem d_S_canBeMade_21 : decode b_S_canBeMade 21 = .ok (.goto 4, 3) := by decide +kernel
theorem d_S_canBeMade_24 : decode b_S_canBeMade 24 = .ok (.iconst 0, 1) := by decide +kernel
theorem d_S_canBeMade_25 : decode b_S_canBeMade 25 = .ok (.ireturn, 1) := by decide +kernel
theorem d_S_survey_0 : decode b_S_survey 0 = .ok (.aload_n 0, 1) := by decide +kernel
theorem d_S_survey_1 : decode b_S_survey 1 = .ok (.dup, 1) := by decide +kernel
theorem d_S_survey_2 : decode b_S_survey 2 = .ok (.getfield 172, 3) := by decide +kernel
theorem d_S_survey_5 : decode b_S_survey 5 = .ok (.iconst 1, 1) := by decide +kernel
theorem d_S_survey_6 : decode b_S_survey 6 = .ok (.iadd, 1) := by decide +kernel
theorem d_S_survey_7 : decode b_S_survey 7 = .ok (.putfield 172, 3) := by decide +kernel
theorem d_S_survey_10 : decode b_S_survey 10 = .ok (.aload_n 0, 1) := by decide +kernel
theorem d_S_survey_11 : decode b_S_survey 11 = .ok (.iconst 0, 1) := by decide +kernel
theorem d_S_survey_12 : decode b_S_survey 12 = .ok (.putfield 175, 3) := by decide +kernel
theorem d_S_survey_15 : decode b_S_survey 15 = .ok (.aload_n 0, 1) := by decide +kernel
theorem d_S_survey_16 : decode b_S_survey 16 = .ok (.aload_n 0, 1) := by decide +kernel
theorem d_S_survey_17 : decode b_S_survey 17 = .ok (.getfield 14, 3) := by decide +kernel
theorem d_S_survey_20 : decode b_S_survey 20 = .ok (.bipush 8, 2) := by decide +kernel
theorem d_S_survey_22 : decode b_S_survey 22 = .ok (.isub, 1) := by decide +kernel
theorem d_S_survey_23 : decode b_S_survey 23 = .ok (.putfield 161, 3) := by decide +kernel
theorem d_S_survey_26 : decode b_S_survey 26 = .ok (.aload_n 0, 1) := by decide +kernel
theorem d_S_survey_27 : decode b_S_survey 27 = .ok (.aload_n 0, 1) := by decide +kernel
theorem d_S_survey_28 : decode b_S_survey 28 = .ok (.getfield 18, 3) := by decide +kernel
theorem d_S_survey_31 : decode b_S_survey 31 = .ok (.iconst 2, 1) := by decide +kernel
theorem d_S_survey_32 : decode b_S_survey 32 = .ok (.isub, 1) := by decide +kernel
theorem d_S_survey_33 : decode b_S_survey 33 = .ok (.putfield 164, 3) := by decide +kernel
theorem d_S_survey_36 : decode b_S_survey 36 = .ok (.aload_n 0, 1) := by decide +kernel
theorem d_S_survey_37 : decode b_S_survey 37 = .ok (.iconst 0, 1) := by decide +kernel
theorem d_S_survey_38 : decode b_S_survey 38 = .ok (.putfield 167, 3) := by decide +kernel
theorem d_S_survey_41 : decode b_S_survey 41 = .ok (.iconst 0, 1) := by decide +kernel
theorem d_S_survey_42 : decode b_S_survey 42 = .ok (.istore_n 1, 1) := by decide +kernel
theorem d_S_survey_43 : decode b_S_survey 43 = .ok (.iload_n 1, 1) := by decide +kernel
theorem d_S_survey_44 : decode b_S_survey 44 = .ok (.aload_n 0, 1) := by decide +kernel
theorem d_S_survey_45 : decode b_S_survey 45 = .ok (.getfield 23, 3) := by decide +kernel
theorem d_S_survey_48 : decode b_S_survey 48 = .ok (.arraylength, 1) := by decide +kernel
theorem d_S_survey_49 : decode b_S_survey 49 = .ok (.if_icmp .ge 19, 3) := by decide +kernel
theorem d_S_survey_52 : decode b_S_survey 52 = .ok (.aload_n 0, 1) := by decide +kernel
theorem d_S_survey_53 : decode b_S_survey 53 = .ok (.aload_n 0, 1) := by decide +kernel
theorem d_S_survey_54 : decode b_S_survey 54 = .ok (.getfield 23, 3) := by decide +kernel
theorem d_S_survey_57 : decode b_S_survey 57 = .ok (.iload_n 1, 1) := by decide +kernel
theorem d_S_survey_58 : decode b_S_survey 58 = .ok (.aaload, 1) := by decide +kernel
theorem d_S_survey_59 : decode b_S_survey 59 = .ok (.invokevirtual 178, 3) := by decide +kernel
theorem d_S_survey_62 : decode b_S_survey 62 = .ok (.iinc 1 1, 3) := by decide +kernel
theorem d_S_survey_65 : decode b_S_survey 65 = .ok (.goto (-22), 3) := by decide +kernel
theorem d_S_survey_68 : decode b_S_survey 68 = .ok (.iconst 0, 1) := by decide +kernel
theorem d_S_survey_69 : decode b_S_survey 69 = .ok (.istore_n 1, 1) := by decide +kernel
theorem d_S_survey_70 : decode b_S_survey 70 = .ok (.iload_n 1, 1) := by decide +kernel
theorem d_S_survey_71 : decode b_S_survey 71 = .ok (.aload_n 0, 1) := by decide +kernel
theorem d_S_survey_72 : decode b_S_survey 72 = .ok (.getfield 175, 3) := by decide +kernel
theorem d_S_survey_75 : decode b_S_survey 75 = .ok (.if_icmp .ge 52, 3) := by decide +kernel
theorem d_S_survey_78 : decode b_S_survey 78 = .ok (.iload_n 1, 1) := by decide +kernel
theorem d_S_survey_79 : decode b_S_survey 79 = .ok (.aload_n 0, 1) := by decide +kernel
theorem d_S_survey_80 : decode b_S_survey 80 = .ok (.getfield 29, 3) := by decide +kernel
theorem d_S_survey_83 : decode b_S_survey 83 = .ok (.arraylength, 1) := by decide +kernel
theorem d_S_survey_84 : decode b_S_survey 84 = .ok (.if_icmp .ge 43, 3) := by decide +kernel
theorem d_S_survey_87 : decode b_S_survey 87 = .ok (.aload_n 0, 1) := by decide +kernel
theorem d_S_survey_88 : decode b_S_survey 88 = .ok (.getfield 29, 3) := by decide +kernel
theorem d_S_survey_91 : decode b_S_survey 91 = .ok (.iload_n 1, 1) := by decide +kernel
theorem d_S_survey_92 : decode b_S_survey 92 = .ok (.aaload, 1) := by decide +kernel
theorem d_S_survey_93 : decode b_S_survey 93 = .ok (.astore_n 3, 1) := by decide +kernel
theorem d_S_survey_94 : decode b_S_survey 94 = .ok (.aload_n 3, 1) := by decide +kernel
theorem d_S_survey_95 : decode b_S_survey 95 = .ok (.instanceof 94, 3) := by decide +kernel
theorem d_S_survey_98 : decode b_S_survey 98 = .ok (.ifCond .eq 23, 3) := by decide +kernel
theorem d_S_survey_101 : decode b_S_survey 101 = .ok (.aload_n 3, 1) := by decide +kernel
theorem d_S_survey_102 : decode b_S_survey 102 = .ok (.checkcast 94, 3) := by decide +kernel
theorem d_S_survey_105 : decode b_S_survey 105 = .ok (.astore_n 2, 1) := by decide +kernel
theorem d_S_survey_106 : decode b_S_survey 106 = .ok (.aload_n 0, 1) := by decide +kernel
theorem d_S_survey_107 : decode b_S_survey 107 = .ok (.dup, 1) := by decide +kernel
theorem d_S_survey_108 : decode b_S_survey 108 = .ok (.getfield 167, 3) := by decide +kernel
theorem d_S_survey_111 : decode b_S_survey 111 = .ok (.iconst 1, 1) := by decide +kernel
theorem d_S_survey_112 : decode b_S_survey 112 = .ok (.iadd, 1) := by decide +kernel
theorem d_S_survey_113 : decode b_S_survey 113 = .ok (.putfield 167, 3) := by decide +kernel
theorem d_S_survey_116 : decode b_S_survey 116 = .ok (.aload_n 0, 1) := by decide +kernel
theorem d_S_survey_117 : decode b_S_survey 117 = .ok (.aload_n 2, 1) := by decide +kernel
theorem d_S_survey_118 : decode b_S_survey 118 = .ok (.invokevirtual 181, 3) := by decide +kernel
theorem d_S_survey_121 : decode b_S_survey 121 = .ok (.iinc 1 1, 3) := by decide +kernel
theorem d_S_survey_124 : decode b_S_survey 124 = .ok (.goto (-54), 3) := by decide +kernel
theorem d_S_survey_127 : decode b_S_survey 127 = .ok (.return_, 1) := by decide +kernel
theorem d_S_reachPartsOf_0 : decode b_S_reachPartsOf 0 = .ok (.aload_n 0, 1) := by decide +kernel
theorem d_S_reachPartsOf_1 : decode b_S_reachPartsOf 1 = .ok (.aload_n 1, 1) := by decide +kernel
theorem d_S_reachPartsOf_2 : decode b_S_reachPartsOf 2 = .ok (.getfield 142, 3) := by decide +kernel
theorem d_S_reachPartsOf_5 : decode b_S_reachPartsOf 5 = .ok (.invokevirtual 178, 3) := by decide +kernel
theorem d_S_reachPartsOf_8 : decode b_S_reachPartsOf 8 = .ok (.aload_n 0, 1) := by decide +kernel
theorem d_S_reachPartsOf_9 : decode b_S_reachPartsOf 9 = .ok (.aload_n 1, 1) := by decide +kernel
theorem d_S_reachPartsOf_10 : decode b_S_reachPartsOf 10 = .ok (.invokevirtual 185, 3) := by decide +kernel
theorem d_S_reachPartsOf_13 : decode b_S_reachPartsOf 13 = .ok (.invokevirtual 178, 3) := by decide +kernel
theorem d_S_reachPartsOf_16 : decode b_S_reachPartsOf 16 = .ok (.iconst 0, 1) := by decide +kernel
theorem d_S_reachPartsOf_17 : decode b_S_reachPartsOf 17 = .ok (.istore_n 2, 1) := by decide +kernel
theorem d_S_reachPartsOf_18 : decode b_S_reachPartsOf 18 = .ok (.iload_n 2, 1) := by decide +kernel
theorem d_S_reachPartsOf_19 : decode b_S_reachPartsOf 19 = .ok (.aload_n 1, 1) := by decide +kernel
theorem d_S_reachPartsOf_20 : decode b_S_reachPartsOf 20 = .ok (.getfield 133, 3) := by decide +kernel
theorem d_S_reachPartsOf_23 : decode b_S_reachPartsOf 23 = .ok (.arraylength, 1) := by decide +kernel
theorem d_S_reachPartsOf_24 : decode b_S_reachPartsOf 24 = .ok (.if_icmp .ge 19, 3) := by decide +kernel
theorem d_S_reachPartsOf_27 : decode b_S_reachPartsOf 27 = .ok (.aload_n 0, 1) := by decide +kernel
theorem d_S_reachPartsOf_28 : decode b_S_reachPartsOf 28 = .ok (.aload_n 1, 1) := by decide +kernel
theorem d_S_reachPartsOf_29 : decode b_S_reachPartsOf 29 = .ok (.getfield 133, 3) := by decide +kernel
theorem d_S_reachPartsOf_32 : decode b_S_reachPartsOf 32 = .ok (.iload_n 2, 1) := by decide +kernel
theorem d_S_reachPartsOf_33 : decode b_S_reachPartsOf 33 = .ok (.aaload, 1) := by decide +kernel
theorem d_S_reachPartsOf_34 : decode b_S_reachPartsOf 34 = .ok (.invokevirtual 178, 3) := by decide +kernel
theorem d_S_reachPartsOf_37 : decode b_S_reachPartsOf 37 = .ok (.iinc 2 1, 3) := by decide +kernel
theorem d_S_reachPartsOf_40 : decode b_S_reachPartsOf 40 = .ok (.goto (-22), 3) := by decide +kernel
theorem d_S_reachPartsOf_43 : decode b_S_reachPartsOf 43 = .ok (.return_, 1) := by decide +kernel
theorem d_S_reach_0 : decode b_S_reach 0 = .ok (.aload_n 1, 1) := by decide +kernel
theorem d_S_reach_1 : decode b_S_reach 1 = .ok (.instanceof 27, 3) := by decide +kernel
theorem d_S_reach_4 : decode b_S_reach 4 = .ok (.ifCond .eq 85, 3) := by decide +kernel
theorem d_S_reach_7 : decode b_S_reach 7 = .ok (.aload_n 1, 1) := by decide +kernel
theorem d_S_reach_8 : decode b_S_reach 8 = .ok (.checkcast 27, 3) := by decide +kernel
theorem d_S_reach_11 : decode b_S_reach 11 = .ok (.astore_n 2, 1) := by decide +kernel
theorem d_S_reach_12 : decode b_S_reach 12 = .ok (.aload_n 2, 1) := by decide +kernel
theorem d_S_reach_13 : decode b_S_reach 13 = .ok (.getfield 189, 3) := by decide +kernel
theorem d_S_reach_16 : decode b_S_reach 16 = .ok (.aload_n 0, 1) := by decide +kernel
theorem d_S_reach_17 : decode b_S_reach 17 = .ok (.getfield 172, 3) := by decide +kernel
theorem d_S_reach_20 : decode b_S_reach 20 = .ok (.if_icmp .eq 69, 3) := by decide +kernel
theorem d_S_reach_23 : decode b_S_reach 23 = .ok (.aload_n 0, 1) := by decide +kernel
theorem d_S_reach_24 : decode b_S_reach 24 = .ok (.getfield 175, 3) := by decide +kernel
theorem d_S_reach_27 : decode b_S_reach 27 = .ok (.aload_n 0, 1) := by decide +kernel
theorem d_S_reach_28 : decode b_S_reach 28 = .ok (.getfield 29, 3) := by decide +kernel
theorem d_S_reach_31 : decode b_S_reach 31 = .ok (.arraylength, 1) := by decide +kernel
theorem d_S_reach_32 : decode b_S_reach 32 = .ok (.if_icmp .ge 57, 3) := by decide +kernel
theorem d_S_reach_35 : decode b_S_reach 35 = .ok (.aload_n 2, 1) := by decide +kernel
theorem d_S_reach_36 : decode b_S_reach 36 = .ok (.aload_n 0, 1) := by decide +kernel
theorem d_S_reach_37 : decode b_S_reach 37 = .ok (.getfield 172, 3) := by decide +kernel
theorem d_S_reach_40 : decode b_S_reach 40 = .ok (.putfield 189, 3) := by decide +kernel
theorem d_S_reach_43 : decode b_S_reach 43 = .ok (.aload_n 0, 1) := by decide +kernel
theorem d_S_reach_44 : decode b_S_reach 44 = .ok (.getfield 29, 3) := by decide +kernel
theorem d_S_reach_47 : decode b_S_reach 47 = .ok (.aload_n 0, 1) := by decide +kernel
theorem d_S_reach_48 : decode b_S_reach 48 = .ok (.getfield 175, 3) := by decide +kernel
theorem d_S_reach_51 : decode b_S_reach 51 = .ok (.aload_n 2, 1) := by decide +kernel
theorem d_S_reach_52 : decode b_S_reach 52 = .ok (.aastore, 1) := by decide +kernel
theorem d_S_reach_53 : decode b_S_reach 53 = .ok (.aload_n 0, 1) := by decide +kernel
theorem d_S_reach_54 : decode b_S_reach 54 = .ok (.dup, 1) := by decide +kernel
theorem d_S_reach_55 : decode b_S_reach 55 = .ok (.getfield 175, 3) := by decide +kernel
theorem d_S_reach_58 : decode b_S_reach 58 = .ok (.iconst 1, 1) := by decide +kernel
theorem d_S_reach_59 : decode b_S_reach 59 = .ok (.iadd, 1) := by decide +kernel
theorem d_S_reach_60 : decode b_S_reach 60 = .ok (.putfield 175, 3) := by decide +kernel
theorem d_S_reach_63 : decode b_S_reach 63 = .ok (.aload_n 0, 1) := by decide +kernel
theorem d_S_reach_64 : decode b_S_reach 64 = .ok (.dup, 1) := by decide +kernel
theorem d_S_reach_65 : decode b_S_reach 65 = .ok (.getfield 161, 3) := by decide +kernel
theorem d_S_reach_68 : decode b_S_reach 68 = .ok (.aload_n 2, 1) := by decide +kernel
theorem d_S_reach_69 : decode b_S_reach 69 = .ok (.invokevirtual 190, 3) := by decide +kernel
theorem d_S_reach_72 : decode b_S_reach 72 = .ok (.isub, 1) := by decide +kernel
theorem d_S_reach_73 : decode b_S_reach 73 = .ok (.putfield 161, 3) := by decide +kernel
theorem d_S_reach_76 : decode b_S_reach 76 = .ok (.aload_n 0, 1) := by decide +kernel
theorem d_S_reach_77 : decode b_S_reach 77 = .ok (.dup, 1) := by decide +kernel
theorem d_S_reach_78 : decode b_S_reach 78 = .ok (.getfield 164, 3) := by decide +kernel
theorem d_S_reach_81 : decode b_S_reach 81 = .ok (.aload_n 2, 1) := by decide +kernel
theorem d_S_reach_82 : decode b_S_reach 82 = .ok (.invokevirtual 193, 3) := by decide +kernel
theorem d_S_reach_85 : decode b_S_reach 85 = .ok (.isub, 1) := by decide +kernel
theorem d_S_reach_86 : decode b_S_reach 86 = .ok (.putfield 164, 3) := by decide +kernel
theorem d_S_reach_89 : decode b_S_reach 89 = .ok (.return_, 1) := by decide +kernel
theorem d_B_init_0 : decode b_B_init 0 = .ok (.aload_n 0, 1) := by decide +kernel
theorem d_B_init_1 : decode b_B_init 1 = .ok (.iload_n 1, 1) := by decide +kernel
theorem d_B_init_2 : decode b_B_init 2 = .ok (.aconst_null, 1) := by decide +kernel
theorem d_B_init_3 : decode b_B_init 3 = .ok (.iconst 1, 1) := by decide +kernel
theorem d_B_init_4 : decode b_B_init 4 = .ok (.iconst 0, 1) := by decide +kernel
theorem d_B_init_5 : decode b_B_init 5 = .ok (.aload_n 2, 1) := by decide +kernel
theorem d_B_init_6 : decode b_B_init 6 = .ok (.getfield 3, 3) := by decide +kernel
theorem d_B_init_9 : decode b_B_init 9 = .ok (.getfield 9, 3) := by decide +kernel
theorem d_B_init_12 : decode b_B_init 12 = .ok (.invokespecial 15, 3) := by decide +kernel
theorem d_B_init_15 : decode b_B_init 15 = .ok (.aload_n 0, 1) := by decide +kernel
theorem d_B_init_16 : decode b_B_init 16 = .ok (.aload_n 2, 1) := by decide +kernel
theorem d_B_init_17 : decode b_B_init 17 = .ok (.putfield 21, 3) := by decide +kernel
theorem d_B_init_20 : decode b_B_init 20 = .ok (.aload_n 0, 1) := by decide +kernel
theorem d_B_init_21 : decode b_B_init 21 = .ok (.iload_n 3, 1) := by decide +kernel
theorem d_B_init_22 : decode b_B_init 22 = .ok (.putfield 27, 3) := by decide +kernel
theorem d_B_init_25 : decode b_B_init 25 = .ok (.return_, 1) := by decide +kernel
theorem d_B_kindCode_0 : decode b_B_kindCode 0 = .ok (.iconst 4, 1) := by decide +kernel
theorem d_B_kindCode_1 : decode b_B_kindCode 1 = .ok (.ireturn, 1) := by decide +kernel
theorem d_B_headFields_0 : decode b_B_headFields 0 = .ok (.bipush 6, 2) := by decide +kernel
theorem d_B_headFields_2 : decode b_B_headFields 2 = .ok (.ireturn, 1) := by decide +kernel
theorem d_B_floorNow_0 : decode b_B_floorNow 0 = .ok (.iconst 0, 1) := by decide +kernel
theorem d_B_floorNow_1 : decode b_B_floorNow 1 = .ok (.ireturn, 1) := by decide +kernel
theorem d_B_homeContext_0 : decode b_B_homeContext 0 = .ok (.aload_n 0, 1) := by decide +kernel
theorem d_B_homeContext_1 : decode b_B_homeContext 1 = .ok (.getfield 21, 3) := by decide +kernel
theorem d_B_homeContext_4 : decode b_B_homeContext 4 = .ok (.areturn, 1) := by decide +kernel
theorem d_B_origin_0 : decode b_B_origin 0 = .ok (.aload_n 0, 1) := by decide +kernel
theorem d_B_origin_1 : decode b_B_origin 1 = .ok (.getfield 21, 3) := by decide +kernel
theorem d_B_origin_4 : decode b_B_origin 4 = .ok (.areturn, 1) := by decide +kernel
theorem d_C_init_0 : decode b_C_init 0 = .ok (.aload_n 0, 1) := by decide +kernel
theorem d_C_init_1 : decode b_C_init 1 = .ok (.iload_n 1, 1) := by decide +kernel
theorem d_C_init_2 : decode b_C_init 2 = .ok (.invokespecial 3, 3) := by decide +kernel
theorem d_C_init_5 : decode b_C_init 5 = .ok (.aload_n 0, 1) := by decide +kernel
theorem d_C_init_6 : decode b_C_init 6 = .ok (.aload_n 2, 1) := by decide +kernel
theorem d_C_init_7 : decode b_C_init 7 = .ok (.putfield 9, 3) := by decide +kernel
theorem d_C_init_10 : decode b_C_init 10 = .ok (.aload_n 0, 1) := by decide +kernel
theorem d_C_init_11 : decode b_C_init 11 = .ok (.iload_n 3, 1) := by decide +kernel
theorem d_C_init_12 : decode b_C_init 12 = .ok (.putfield 15, 3) := by decide +kernel
theorem d_C_init_15 : decode b_C_init 15 = .ok (.aload_n 0, 1) := by decide +kernel
theorem d_C_init_16 : decode b_C_init 16 = .ok (.iload 4, 2) := by decide +kernel
theorem d_C_init_18 : decode b_C_init 18 = .ok (.putfield 19, 3) := by decide +kernel
theorem d_C_init_21 : decode b_C_init 21 = .ok (.aload_n 0, 1) := by decide +kernel
theorem d_C_init_22 : decode b_C_init 22 = .ok (.iload 5, 2) := by decide +kernel
theorem d_C_init_24 : decode b_C_init 24 = .ok (.anewarray 23, 3) := by decide +kernel
theorem d_C_init_27 : decode b_C_init 27 = .ok (.putfield 25, 3) := by decide +kernel
theorem d_C_init_30 : decode b_C_init 30 = .ok (.return_, 1) := by decide +kernel
theorem d_C_wordsTaken_0 : decode b_C_wordsTaken 0 = .ok (.iconst 4, 1) := by decide +kernel
theorem d_C_wordsTaken_1 : decode b_C_wordsTaken 1 = .ok (.aload_n 0, 1) := by decide +kernel
theorem d_C_wordsTaken_2 : decode b_C_wordsTaken 2 = .ok (.invokevirtual 29, 3) := by decide +kernel
theorem d_C_wordsTaken_5 : decode b_C_wordsTaken 5 = .ok (.iadd, 1) := by decide +kernel
theorem d_C_wordsTaken_6 : decode b_C_wordsTaken 6 = .ok (.aload_n 0, 1) := by decide +kernel
theorem d_C_wordsTaken_7 : decode b_C_wordsTaken 7 = .ok (.getfield 25, 3) := by decide +kernel
theorem d_C_wordsTaken_10 : decode b_C_wordsTaken 10 = .ok (.arraylength, 1) := by decide +kernel
theorem d_C_wordsTaken_11 : decode b_C_wordsTaken 11 = .ok (.iadd, 1) := by decide +kernel
theorem d_C_wordsTaken_12 : decode b_C_wordsTaken 12 = .ok (.ireturn, 1) := by decide +kernel
theorem d_C_entriesTaken_0 : decode b_C_entriesTaken 0 = .ok (.iconst 1, 1) := by decide +kernel
theorem d_C_entriesTaken_1 : decode b_C_entriesTaken 1 = .ok (.ireturn, 1) := by decide +kernel
theorem d_C_isFull_0 : decode b_C_isFull 0 = .ok (.aload_n 0, 1) := by decide +kernel
theorem d_C_isFull_1 : decode b_C_isFull 1 = .ok (.getfield 19, 3) := by decide +kernel
theorem d_C_isFull_4 : decode b_C_isFull 4 = .ok (.aload_n 0, 1) := by decide +kernel
theorem d_C_isFull_5 : decode b_C_isFull 5 = .ok (.getfield 25, 3) := by decide +kernel
theorem d_C_isFull_8 : decode b_C_isFull 8 = .ok (.arraylength, 1) := by decide +kernel
theorem d_C_isFull_9 : decode b_C_isFull 9 = .ok (.if_icmp .lt 7, 3) := by decide +kernel
theorem d_C_isFull_12 : decode b_C_isFull 12 = .ok (.iconst 1, 1) := by decide +kernel
theorem d_C_isFull_13 : decode b_C_isFull 13 = .ok (.goto 4, 3) := by decide +kernel
theorem d_C_isFull_16 : decode b_C_isFull 16 = .ok (.iconst 0, 1) := by decide +kernel
theorem d_C_isFull_17 : decode b_C_isFull 17 = .ok (.ireturn, 1) := by decide +kernel
theorem d_C_depthNow_0 : decode b_C_depthNow 0 = .ok (.aload_n 0, 1) := by decide +kernel
theorem d_C_depthNow_1 : decode b_C_depthNow 1 = .ok (.getfield 19, 3) := by decide +kernel
theorem d_C_depthNow_4 : decode b_C_depthNow 4 = .ok (.aload_n 0, 1) := by decide +kernel
theorem d_C_depthNow_5 : decode b_C_depthNow 5 = .ok (.invokevirtual 33, 3) := by decide +kernel
theorem d_C_depthNow_8 : decode b_C_depthNow 8 = .ok (.isub, 1) := by decide +kernel
theorem d_C_depthNow_9 : decode b_C_depthNow 9 = .ok (.ireturn, 1) := by decide +kernel
theorem d_C_hasField_0 : decode b_C_hasField 0 = .ok (.iload_n 1, 1) := by decide +kernel
theorem d_C_hasField_1 : decode b_C_hasField 1 = .ok (.ifCond .lt 16, 3) := by decide +kernel
theorem d_C_hasField_4 : decode b_C_hasField 4 = .ok (.iload_n 1, 1) := by decide +kernel
theorem d_C_hasField_5 : decode b_C_hasField 5 = .ok (.aload_n 0, 1) := by decide +kernel
theorem d_C_hasField_6 : decode b_C_hasField 6 = .ok (.getfield 25, 3) := by decide +kernel
theorem d_C_hasField_9 : decode b_C_hasField 9 = .ok (.arraylength, 1) := by decide +kernel
theorem d_C_hasField_10 : decode b_C_hasField 10 = .ok (.if_icmp .ge 7, 3) := by decide +kernel
theorem d_C_hasField_13 : decode b_C_hasField 13 = .ok (.iconst 1, 1) := by decide +kernel
theorem d_C_hasField_14 : decode b_C_hasField 14 = .ok (.goto 4, 3) := by decide +kernel
theorem d_C_hasField_17 : decode b_C_hasField 17 = .ok (.iconst 0, 1) := by decide +kernel
theorem d_C_hasField_18 : decode b_C_hasField 18 = .ok (.ireturn, 1) := by decide +kernel
theorem d_C_fieldAt_0 : decode b_C_fieldAt 0 = .ok (.aload_n 0, 1) := by decide +kernel
theorem d_C_fieldAt_1 : decode b_C_fieldAt 1 = .ok (.iload_n 1, 1) := by decide +kernel
theorem d_C_fieldAt_2 : decode b_C_fieldAt 2 = .ok (.invokevirtual 36, 3) := by decide +kernel
theorem d_C_fieldAt_5 : decode b_C_fieldAt 5 = .ok (.ifCond .eq 12, 3) := by decide +kernel
theorem d_C_fieldAt_8 : decode b_C_fieldAt 8 = .ok (.aload_n 0, 1) := by decide +kernel
theorem d_C_fieldAt_9 : decode b_C_fieldAt 9 = .ok (.getfield 25, 3) := by decide +kernel
theorem d_C_fieldAt_12 : decode b_C_fieldAt 12 = .ok (.iload_n 1, 1) := by decide +kernel
theorem d_C_fieldAt_13 : decode b_C_fieldAt 13 = .ok (.aaload, 1) := by decide +kernel
theorem d_C_fieldAt_14 : decode b_C_fieldAt 14 = .ok (.goto 4, 3) := by decide +kernel
theorem d_C_fieldAt_17 : decode b_C_fieldAt 17 = .ok (.aconst_null, 1) := by decide +kernel
theorem d_C_fieldAt_18 : decode b_C_fieldAt 18 = .ok (.areturn, 1) := by decide +kernel
theorem d_C_putField_0 : decode b_C_putField 0 = .ok (.aload_n 0, 1) := by decide +kernel
theorem d_C_putField_1 : decode b_C_putField 1 = .ok (.iload_n 1, 1) := by decide +kernel
theorem d_C_putField_2 : decode b_C_putField 2 = .ok (.invokevirtual 36, 3) := by decide +kernel
theorem d_C_putField_5 : decode b_C_putField 5 = .ok (.ifCond .eq 10, 3) := by decide +kernel
theorem d_C_putField_8 : decode b_C_putField 8 = .ok (.aload_n 0, 1) := by decide +kernel
theorem d_C_putField_9 : decode b_C_putField 9 = .ok (.getfield 25, 3) := by decide +kernel
theorem d_C_putField_12 : decode b_C_putField 12 = .ok (.iload_n 1, 1) := by decide +kernel
theorem d_C_putField_13 : decode b_C_putField 13 = .ok (.aload_n 2, 1) := by decide +kernel
theorem d_C_putField_14 : decode b_C_putField 14 = .ok (.aastore, 1) := by decide +kernel
theorem d_C_putField_15 : decode b_C_putField 15 = .ok (.return_, 1) := by decide +kernel
theorem d_C_pushOne_0 : decode b_C_pushOne 0 = .ok (.aload_n 0, 1) := by decide +kernel
theorem d_C_pushOne_1 : decode b_C_pushOne 1 = .ok (.aload_n 0, 1) := by decide +kernel
theorem d_C_pushOne_2 : decode b_C_pushOne 2 = .ok (.getfield 19, 3) := by decide +kernel
theorem d_C_pushOne_5 : decode b_C_pushOne 5 = .ok (.aload_n 1, 1) := by decide +kernel
theorem d_C_pushOne_6 : decode b_C_pushOne 6 = .ok (.invokevirtual 40, 3) := by decide +kernel
theorem d_C_pushOne_9 : decode b_C_pushOne 9 = .ok (.aload_n 0, 1) := by decide +kernel
theorem d_C_pushOne_10 : decode b_C_pushOne 10 = .ok (.dup, 1) := by decide +kernel
theorem d_C_pushOne_11 : decode b_C_pushOne 11 = .ok (.getfield 19, 3) := by decide +kernel
theorem d_C_pushOne_14 : decode b_C_pushOne 14 = .ok (.iconst 1, 1) := by decide +kernel
theorem d_C_pushOne_15 : decode b_C_pushOne 15 = .ok (.iadd, 1) := by decide +kernel
theorem d_C_pushOne_16 : decode b_C_pushOne 16 = .ok (.putfield 19, 3) := by decide +kernel
theorem d_C_pushOne_19 : decode b_C_pushOne 19 = .ok (.return_, 1) := by decide +kernel
theorem d_C_popOne_0 : decode b_C_popOne 0 = .ok (.aload_n 0, 1) := by decide +kernel
theorem d_C_popOne_1 : decode b_C_popOne 1 = .ok (.dup, 1) := by decide +kernel
theorem d_C_popOne_2 : decode b_C_popOne 2 = .ok (.getfield 19, 3) := by decide +kernel
theorem d_C_popOne_5 : decode b_C_popOne 5 = .ok (.iconst 1, 1) := by decide +kernel
theorem d_C_popOne_6 : decode b_C_popOne 6 = .ok (.isub, 1) := by decide +kernel
theorem d_C_popOne_7 : decode b_C_popOne 7 = .ok (.putfield 19, 3) := by decide +kernel
theorem d_C_popOne_10 : decode b_C_popOne 10 = .ok (.aload_n 0, 1) := by decide +kernel
theorem d_C_popOne_11 : decode b_C_popOne 11 = .ok (.aload_n 0, 1) := by decide +kernel
theorem d_C_popOne_12 : decode b_C_popOne 12 = .ok (.getfield 19, 3) := by decide +kernel
theorem d_C_popOne_15 : decode b_C_popOne 15 = .ok (.invokevirtual 44, 3) := by decide +kernel
theorem d_C_popOne_18 : decode b_C_popOne 18 = .ok (.astore_n 1, 1) := by decide +kernel
theorem d_C_popOne_19 : decode b_C_popOne 19 = .ok (.aload_n 0, 1) := by decide +kernel
theorem d_C_popOne_20 : decode b_C_popOne 20 = .ok (.aload_n 0, 1) := by decide +kernel
theorem d_C_popOne_21 : decode b_C_popOne 21 = .ok (.getfield 19, 3) := by decide +kernel
theorem d_C_popOne_24 : decode b_C_popOne 24 = .ok (.aconst_null, 1) := by decide +kernel
theorem d_C_popOne_25 : decode b_C_popOne 25 = .ok (.invokevirtual 40, 3) := by decide +kernel
theorem d_C_popOne_28 : decode b_C_popOne 28 = .ok (.aload_n 1, 1) := by decide +kernel
theorem d_C_popOne_29 : decode b_C_popOne 29 = .ok (.areturn, 1) := by decide +kernel
theorem d_M_init_0 : decode b_M_init 0 = .ok (.aload_n 0, 1) := by decide +kernel
theorem d_M_init_1 : decode b_M_init 1 = .ok (.iload_n 1, 1) := by decide +kernel
theorem d_M_init_2 : decode b_M_init 2 = .ok (.invokespecial 3, 3) := by decide +kernel
theorem d_M_init_5 : decode b_M_init 5 = .ok (.aload_n 0, 1) := by decide +kernel
theorem d_M_init_6 : decode b_M_init 6 = .ok (.iload_n 2, 1) := by decide +kernel
theorem d_M_init_7 : decode b_M_init 7 = .ok (.putfield 9, 3) := by decide +kernel
theorem d_M_init_10 : decode b_M_init 10 = .ok (.aload_n 0, 1) := by decide +kernel
theorem d_M_init_11 : decode b_M_init 11 = .ok (.iload_n 3, 1) := by decide +kernel
theorem d_M_init_12 : decode b_M_init 12 = .ok (.putfield 15, 3) := by decide +kernel
theorem d_M_init_15 : decode b_M_init 15 = .ok (.return_, 1) := by decide +kernel
theorem d_M_setNumbers_0 : decode b_M_setNumbers 0 = .ok (.aload_n 0, 1) := by decide +kernel
theorem d_M_setNumbers_1 : decode b_M_setNumbers 1 = .ok (.iload_n 1, 1) := by decide +kernel
theorem d_M_setNumbers_2 : decode b_M_setNumbers 2 = .ok (.putfield 9, 3) := by decide +kernel
theorem d_M_setNumbers_5 : decode b_M_setNumbers 5 = .ok (.aload_n 0, 1) := by decide +kernel
theorem d_M_setNumbers_6 : decode b_M_setNumbers 6 = .ok (.iload_n 2, 1) := by decide +kernel
theorem d_M_setNumbers_7 : decode b_M_setNumbers 7 = .ok (.putfield 15, 3) := by decide +kernel
theorem d_M_setNumbers_10 : decode b_M_setNumbers 10 = .ok (.return_, 1) := by decide +kernel
theorem d_M_kindCode_0 : decode b_M_kindCode 0 = .ok (.iconst 2, 1) := by decide +kernel
theorem d_M_kindCode_1 : decode b_M_kindCode 1 = .ok (.ireturn, 1) := by decide +kernel
theorem d_M_wordsTaken_0 : decode b_M_wordsTaken 0 = .ok (.bipush 10, 2) := by decide +kernel
theorem d_M_wordsTaken_2 : decode b_M_wordsTaken 2 = .ok (.ireturn, 1) := by decide +kernel
theorem d_M_entriesTaken_0 : decode b_M_entriesTaken 0 = .ok (.iconst 2, 1) := by decide +kernel
theorem d_M_entriesTaken_1 : decode b_M_entriesTaken 1 = .ok (.ireturn, 1) := by decide +kernel
theorem d_X_init_0 : decode b_X_init 0 = .ok (.aload_n 0, 1) := by decide +kernel
theorem d_X_init_1 : decode b_X_init 1 = .ok (.iload_n 1, 1) := by decide +kernel
theorem d_X_init_2 : decode b_X_init 2 = .ok (.aload_n 3, 1) := by decide +kernel
theorem d_X_init_3 : decode b_X_init 3 = .ok (.iconst 0, 1) := by decide +kernel
theorem d_X_init_4 : decode b_X_init 4 = .ok (.aload_n 2, 1) := by decide +kernel
theorem d_X_init_5 : decode b_X_init 5 = .ok (.getfield 3, 3) := by decide +kernel
theorem d_X_init_8 : decode b_X_init 8 = .ok (.aload_n 2, 1) := by decide +kernel
theorem d_X_init_9 : decode b_X_init 9 = .ok (.getfield 3, 3) := by decide +kernel
theorem d_X_init_12 : decode b_X_init 12 = .ok (.aload_n 2, 1) := by decide +kernel
theorem d_X_init_13 : decode b_X_init 13 = .ok (.getfield 9, 3) := by decide +kernel
theorem d_X_init_16 : decode b_X_init 16 = .ok (.iadd, 1) := by decide +kernel
theorem d_X_init_17 : decode b_X_init 17 = .ok (.invokespecial 12, 3) := by decide +kernel
theorem d_X_init_20 : decode b_X_init 20 = .ok (.aload_n 0, 1) := by decide +kernel
theorem d_X_init_21 : decode b_X_init 21 = .ok (.aload_n 2, 1) := by decide +kernel
theorem d_X_init_22 : decode b_X_init 22 = .ok (.putfield 18, 3) := by decide +kernel
theorem d_X_init_25 : decode b_X_init 25 = .ok (.return_, 1) := by decide +kernel
theorem d_X_hasTemporary_0 : decode b_X_hasTemporary 0 = .ok (.iload_n 1, 1) := by decide +kernel
theorem d_X_hasTemporary_1 : decode b_X_hasTemporary 1 = .ok (.aload_n 0, 1) := by decide +kernel
theorem d_X_hasTemporary_2 : decode b_X_hasTemporary 2 = .ok (.getfield 18, 3) := by decide +kernel
theorem d_X_hasTemporary_5 : decode b_X_hasTemporary 5 = .ok (.getfield 3, 3) := by decide +kernel
theorem d_X_hasTemporary_8 : decode b_X_hasTemporary 8 = .ok (.if_icmp .ge 15, 3) := by decide +kernel
theorem d_X_hasTemporary_11 : decode b_X_hasTemporary 11 = .ok (.aload_n 0, 1) := by decide +kernel
theorem d_X_hasTemporary_12 : decode b_X_hasTemporary 12 = .ok (.iload_n 1, 1) := by decide +kernel
theorem d_X_hasTemporary_13 : decode b_X_hasTemporary 13 = .ok (.invokevirtual 24, 3) := by decide +kernel
theorem d_X_hasTemporary_16 : decode b_X_hasTemporary 16 = .ok (.ifCond .eq 7, 3) := by decide +kernel
theorem d_X_hasTemporary_19 : decode b_X_hasTemporary 19 = .ok (.iconst 1, 1) := by decide +kernel
theorem d_X_hasTemporary_20 : decode b_X_hasTemporary 20 = .ok (.goto 4, 3) := by decide +kernel
theorem d_X_hasTemporary_23 : decode b_X_hasTemporary 23 = .ok (.iconst 0, 1) := by decide +kernel
theorem d_X_hasTemporary_24 : decode b_X_hasTemporary 24 = .ok (.ireturn, 1) := by decide +kernel
theorem d_X_kindCode_0 : decode b_X_kindCode 0 = .ok (.iconst 3, 1) := by decide +kernel
theorem d_X_kindCode_1 : decode b_X_kindCode 1 = .ok (.ireturn, 1) := by decide +kernel
theorem d_X_headFields_0 : decode b_X_headFields 0 = .ok (.iconst 5, 1) := by decide +kernel
theorem d_X_headFields_1 : decode b_X_headFields 1 = .ok (.ireturn, 1) := by decide +kernel
theorem d_X_floorNow_0 : decode b_X_floorNow 0 = .ok (.aload_n 0, 1) := by decide +kernel
theorem d_X_floorNow_1 : decode b_X_floorNow 1 = .ok (.getfield 18, 3) := by decide +kernel
theorem d_X_floorNow_4 : decode b_X_floorNow 4 = .ok (.getfield 3, 3) := by decide +kernel
theorem d_X_floorNow_7 : decode b_X_floorNow 7 = .ok (.ireturn, 1) := by decide +kernel
theorem d_X_homeContext_0 : decode b_X_homeContext 0 = .ok (.aload_n 0, 1) := by decide +kernel
theorem d_X_homeContext_1 : decode b_X_homeContext 1 = .ok (.areturn, 1) := by decide +kernel
theorem d_X_origin_0 : decode b_X_origin 0 = .ok (.aload_n 0, 1) := by decide +kernel
theorem d_X_origin_1 : decode b_X_origin 1 = .ok (.getfield 18, 3) := by decide +kernel
theorem d_X_origin_4 : decode b_X_origin 4 = .ok (.areturn, 1) := by decide +kernel
theorem d_T_init_0 : decode b_T_init 0 = .ok (.aload_n 0, 1) := by decide +kernel
theorem d_T_init_1 : decode b_T_init 1 = .ok (.invokespecial 1, 3) := by decide +kernel
theorem d_T_init_4 : decode b_T_init 4 = .ok (.aload_n 0, 1) := by decide +kernel
theorem d_T_init_5 : decode b_T_init 5 = .ok (.iload_n 1, 1) := by decide +kernel
theorem d_T_init_6 : decode b_T_init 6 = .ok (.putfield 7, 3) := by decide +kernel
theorem d_T_init_9 : decode b_T_init 9 = .ok (.return_, 1) := by decide +kernel
theorem d_T_shown_0 : decode b_T_shown 0 = .ok (.aload_n 0, 1) := by decide +kernel
theorem d_T_shown_1 : decode b_T_shown 1 = .ok (.getfield 7, 3) := by decide +kernel
theorem d_T_shown_4 : decode b_T_shown 4 = .ok (.ireturn, 1) := by decide +kernel
theorem d_V_init_0 : decode b_V_init 0 = .ok (.aload_n 0, 1) := by decide +kernel
theorem d_V_init_1 : decode b_V_init 1 = .ok (.invokespecial 1, 3) := by decide +kernel
theorem d_V_init_4 : decode b_V_init 4 = .ok (.return_, 1) := by decide +kernel
theorem d_W_init_0 : decode b_W_init 0 = .ok (.aload_n 0, 1) := by decide +kernel
theorem d_W_init_1 : decode b_W_init 1 = .ok (.invokespecial 3, 3) := by decide +kernel
theorem d_W_init_4 : decode b_W_init 4 = .ok (.aload_n 0, 1) := by decide +kernel
theorem d_W_init_5 : decode b_W_init 5 = .ok (.iload_n 1, 1) := by decide +kernel
theorem d_W_init_6 : decode b_W_init 6 = .ok (.putfield 9, 3) := by decide +kernel
theorem d_W_init_9 : decode b_W_init 9 = .ok (.return_, 1) := by decide +kernel
theorem d_W_kindCode_0 : decode b_W_kindCode 0 = .ok (.iconst 1, 1) := by decide +kernel
theorem d_W_kindCode_1 : decode b_W_kindCode 1 = .ok (.ireturn, 1) := by decide +kernel
theorem d_W_shown_0 : decode b_W_shown 0 = .ok (.aload_n 0, 1) := by decide +kernel
theorem d_W_shown_1 : decode b_W_shown 1 = .ok (.getfield 9, 3) := by decide +kernel
theorem d_W_shown_4 : decode b_W_shown 4 = .ok (.ireturn, 1) := by decide +kernel
