theorem d_R_init_0 : decode b_R_init 0 = .ok (.aload_n 0, 1) := by decide +kernel
theorem d_R_init_1 : decode b_R_init 1 = .ok (.invokespecial 1, 3) := by decide +kernel
theorem d_R_init_4 : decode b_R_init 4 = .ok (.aload_n 0, 1) := by decide +kernel
theorem d_R_init_5 : decode b_R_init 5 = .ok (.iconst 2, 1) := by decide +kernel
theorem d_R_init_6 : decode b_R_init 6 = .ok (.putfield 7, 3) := by decide +kernel
theorem d_R_init_9 : decode b_R_init 9 = .ok (.aload_n 0, 1) := by decide +kernel
theorem d_R_init_10 : decode b_R_init 10 = .ok (.bipush 16, 2) := by decide +kernel
theorem d_R_init_12 : decode b_R_init 12 = .ok (.newarray .int, 2) := by decide +kernel
theorem d_R_init_14 : decode b_R_init 14 = .ok (.putfield 13, 3) := by decide +kernel
theorem d_R_init_17 : decode b_R_init 17 = .ok (.aload_n 0, 1) := by decide +kernel
theorem d_R_init_18 : decode b_R_init 18 = .ok (.sipush 4096, 3) := by decide +kernel
theorem d_R_init_21 : decode b_R_init 21 = .ok (.newarray .byte, 2) := by decide +kernel
theorem d_R_init_23 : decode b_R_init 23 = .ok (.putfield 17, 3) := by decide +kernel
theorem d_R_init_26 : decode b_R_init 26 = .ok (.aload_n 0, 1) := by decide +kernel
theorem d_R_init_27 : decode b_R_init 27 = .ok (.sipush 4096, 3) := by decide +kernel
theorem d_R_init_30 : decode b_R_init 30 = .ok (.newarray .int, 2) := by decide +kernel
theorem d_R_init_32 : decode b_R_init 32 = .ok (.putfield 21, 3) := by decide +kernel
theorem d_R_init_35 : decode b_R_init 35 = .ok (.aload_n 0, 1) := by decide +kernel
theorem d_R_init_36 : decode b_R_init 36 = .ok (.sipush 4096, 3) := by decide +kernel
theorem d_R_init_39 : decode b_R_init 39 = .ok (.newarray .int, 2) := by decide +kernel
theorem d_R_init_41 : decode b_R_init 41 = .ok (.putfield 24, 3) := by decide +kernel
theorem d_R_init_44 : decode b_R_init 44 = .ok (.aload_n 0, 1) := by decide +kernel
theorem d_R_init_45 : decode b_R_init 45 = .ok (.sipush 4096, 3) := by decide +kernel
theorem d_R_init_48 : decode b_R_init 48 = .ok (.newarray .int, 2) := by decide +kernel
theorem d_R_init_50 : decode b_R_init 50 = .ok (.putfield 27, 3) := by decide +kernel
theorem d_R_init_53 : decode b_R_init 53 = .ok (.aload_n 0, 1) := by decide +kernel
theorem d_R_init_54 : decode b_R_init 54 = .ok (.sipush 4096, 3) := by decide +kernel
theorem d_R_init_57 : decode b_R_init 57 = .ok (.newarray .int, 2) := by decide +kernel
theorem d_R_init_59 : decode b_R_init 59 = .ok (.putfield 30, 3) := by decide +kernel
theorem d_R_init_62 : decode b_R_init 62 = .ok (.aload_n 0, 1) := by decide +kernel
theorem d_R_init_63 : decode b_R_init 63 = .ok (.sipush 4096, 3) := by decide +kernel
theorem d_R_init_66 : decode b_R_init 66 = .ok (.newarray .int, 2) := by decide +kernel
theorem d_R_init_68 : decode b_R_init 68 = .ok (.putfield 33, 3) := by decide +kernel
theorem d_R_init_71 : decode b_R_init 71 = .ok (.aload_n 0, 1) := by decide +kernel
theorem d_R_init_72 : decode b_R_init 72 = .ok (.sipush 4096, 3) := by decide +kernel
theorem d_R_init_75 : decode b_R_init 75 = .ok (.newarray .boolean, 2) := by decide +kernel
theorem d_R_init_77 : decode b_R_init 77 = .ok (.putfield 36, 3) := by decide +kernel
theorem d_R_init_80 : decode b_R_init 80 = .ok (.aload_n 0, 1) := by decide +kernel
theorem d_R_init_81 : decode b_R_init 81 = .ok (.sipush 4096, 3) := by decide +kernel
theorem d_R_init_84 : decode b_R_init 84 = .ok (.newarray .int, 2) := by decide +kernel
theorem d_R_init_86 : decode b_R_init 86 = .ok (.putfield 40, 3) := by decide +kernel
theorem d_R_init_89 : decode b_R_init 89 = .ok (.aload_n 0, 1) := by decide +kernel
theorem d_R_init_90 : decode b_R_init 90 = .ok (.sipush 4096, 3) := by decide +kernel
theorem d_R_init_93 : decode b_R_init 93 = .ok (.newarray .int, 2) := by decide +kernel
theorem d_R_init_95 : decode b_R_init 95 = .ok (.putfield 43, 3) := by decide +kernel
theorem d_R_init_98 : decode b_R_init 98 = .ok (.aload_n 0, 1) := by decide +kernel
theorem d_R_init_99 : decode b_R_init 99 = .ok (.sipush 4096, 3) := by decide +kernel
theorem d_R_init_102 : decode b_R_init 102 = .ok (.newarray .int, 2) := by decide +kernel
theorem d_R_init_104 : decode b_R_init 104 = .ok (.putfield 46, 3) := by decide +kernel
theorem d_R_init_107 : decode b_R_init 107 = .ok (.aload_n 0, 1) := by decide +kernel
theorem d_R_init_108 : decode b_R_init 108 = .ok (.sipush 4096, 3) := by decide +kernel
theorem d_R_init_111 : decode b_R_init 111 = .ok (.newarray .int, 2) := by decide +kernel
theorem d_R_init_113 : decode b_R_init 113 = .ok (.putfield 49, 3) := by decide +kernel
theorem d_R_init_116 : decode b_R_init 116 = .ok (.aload_n 0, 1) := by decide +kernel
theorem d_R_init_117 : decode b_R_init 117 = .ok (.sipush 4096, 3) := by decide +kernel
theorem d_R_init_120 : decode b_R_init 120 = .ok (.newarray .int, 2) := by decide +kernel
theorem d_R_init_122 : decode b_R_init 122 = .ok (.putfield 52, 3) := by decide +kernel
theorem d_R_init_125 : decode b_R_init 125 = .ok (.aload_n 0, 1) := by decide +kernel
theorem d_R_init_126 : decode b_R_init 126 = .ok (.ldc 55, 2) := by decide +kernel
theorem d_R_init_128 : decode b_R_init 128 = .ok (.newarray .int, 2) := by decide +kernel
theorem d_R_init_130 : decode b_R_init 130 = .ok (.putfield 56, 3) := by decide +kernel
theorem d_R_init_133 : decode b_R_init 133 = .ok (.aload_n 0, 1) := by decide +kernel
theorem d_R_init_134 : decode b_R_init 134 = .ok (.ldc 55, 2) := by decide +kernel
theorem d_R_init_136 : decode b_R_init 136 = .ok (.newarray .int, 2) := by decide +kernel
theorem d_R_init_138 : decode b_R_init 138 = .ok (.putfield 59, 3) := by decide +kernel
theorem d_R_init_141 : decode b_R_init 141 = .ok (.aload_n 0, 1) := by decide +kernel
theorem d_R_init_142 : decode b_R_init 142 = .ok (.sipush 4096, 3) := by decide +kernel
theorem d_R_init_145 : decode b_R_init 145 = .ok (.newarray .boolean, 2) := by decide +kernel
theorem d_R_init_147 : decode b_R_init 147 = .ok (.putfield 62, 3) := by decide +kernel
theorem d_R_init_150 : decode b_R_init 150 = .ok (.aload_n 0, 1) := by decide +kernel
theorem d_R_init_151 : decode b_R_init 151 = .ok (.sipush 4096, 3) := by decide +kernel
theorem d_R_init_154 : decode b_R_init 154 = .ok (.newarray .int, 2) := by decide +kernel
theorem d_R_init_156 : decode b_R_init 156 = .ok (.putfield 65, 3) := by decide +kernel
theorem d_R_init_159 : decode b_R_init 159 = .ok (.aload_n 0, 1) := by decide +kernel
theorem d_R_init_160 : decode b_R_init 160 = .ok (.iload_n 1, 1) := by decide +kernel
theorem d_R_init_161 : decode b_R_init 161 = .ok (.sipush 128, 3) := by decide +kernel
theorem d_R_init_164 : decode b_R_init 164 = .ok (.if_icmp .lt 13, 3) := by decide +kernel
theorem d_R_init_167 : decode b_R_init 167 = .ok (.iload_n 1, 1) := by decide +kernel
theorem d_R_init_168 : decode b_R_init 168 = .ok (.ldc 55, 2) := by decide +kernel
theorem d_R_init_170 : decode b_R_init 170 = .ok (.if_icmp .gt 7, 3) := by decide +kernel
theorem d_R_init_173 : decode b_R_init 173 = .ok (.iload_n 1, 1) := by decide +kernel
theorem d_R_init_174 : decode b_R_init 174 = .ok (.goto 5, 3) := by decide +kernel
theorem d_R_init_177 : decode b_R_init 177 = .ok (.ldc 55, 2) := by decide +kernel
theorem d_R_init_179 : decode b_R_init 179 = .ok (.putfield 68, 3) := by decide +kernel
theorem d_R_init_182 : decode b_R_init 182 = .ok (.aload_n 0, 1) := by decide +kernel
theorem d_R_init_183 : decode b_R_init 183 = .ok (.iload_n 2, 1) := by decide +kernel
theorem d_R_init_184 : decode b_R_init 184 = .ok (.bipush 16, 2) := by decide +kernel
theorem d_R_init_186 : decode b_R_init 186 = .ok (.if_icmp .lt 14, 3) := by decide +kernel
theorem d_R_init_189 : decode b_R_init 189 = .ok (.iload_n 2, 1) := by decide +kernel
theorem d_R_init_190 : decode b_R_init 190 = .ok (.sipush 4096, 3) := by decide +kernel
theorem d_R_init_193 : decode b_R_init 193 = .ok (.if_icmp .gt 7, 3) := by decide +kernel
theorem d_R_init_196 : decode b_R_init 196 = .ok (.iload_n 2, 1) := by decide +kernel
theorem d_R_init_197 : decode b_R_init 197 = .ok (.goto 6, 3) := by decide +kernel
theorem d_R_init_200 : decode b_R_init 200 = .ok (.sipush 4096, 3) := by decide +kernel
theorem d_R_init_203 : decode b_R_init 203 = .ok (.putfield 71, 3) := by decide +kernel
theorem d_R_init_206 : decode b_R_init 206 = .ok (.return_, 1) := by decide +kernel
theorem d_R_isRegister_0 : decode b_R_isRegister 0 = .ok (.iload_n 0, 1) := by decide +kernel
theorem d_R_isRegister_1 : decode b_R_isRegister 1 = .ok (.ifCond .lt 13, 3) := by decide +kernel
theorem d_R_isRegister_4 : decode b_R_isRegister 4 = .ok (.iload_n 0, 1) := by decide +kernel
theorem d_R_isRegister_5 : decode b_R_isRegister 5 = .ok (.bipush 16, 2) := by decide +kernel
theorem d_R_isRegister_7 : decode b_R_isRegister 7 = .ok (.if_icmp .ge 7, 3) := by decide +kernel
theorem d_R_isRegister_10 : decode b_R_isRegister 10 = .ok (.iconst 1, 1) := by decide +kernel
theorem d_R_isRegister_11 : decode b_R_isRegister 11 = .ok (.goto 4, 3) := by decide +kernel
theorem d_R_isRegister_14 : decode b_R_isRegister 14 = .ok (.iconst 0, 1) := by decide +kernel
theorem d_R_isRegister_15 : decode b_R_isRegister 15 = .ok (.ireturn, 1) := by decide +kernel
theorem d_R_isNumber_0 : decode b_R_isNumber 0 = .ok (.iload_n 0, 1) := by decide +kernel
theorem d_R_isNumber_1 : decode b_R_isNumber 1 = .ok (.ldc 74, 2) := by decide +kernel
theorem d_R_isNumber_3 : decode b_R_isNumber 3 = .ok (.if_icmp .lt 13, 3) := by decide +kernel
theorem d_R_isNumber_6 : decode b_R_isNumber 6 = .ok (.iload_n 0, 1) := by decide +kernel
theorem d_R_isNumber_7 : decode b_R_isNumber 7 = .ok (.ldc 75, 2) := by decide +kernel
theorem d_R_isNumber_9 : decode b_R_isNumber 9 = .ok (.if_icmp .gt 7, 3) := by decide +kernel
theorem d_R_isNumber_12 : decode b_R_isNumber 12 = .ok (.iconst 1, 1) := by decide +kernel
theorem d_R_isNumber_13 : decode b_R_isNumber 13 = .ok (.goto 4, 3) := by decide +kernel
theorem d_R_isNumber_16 : decode b_R_isNumber 16 = .ok (.iconst 0, 1) := by decide +kernel
theorem d_R_isNumber_17 : decode b_R_isNumber 17 = .ok (.ireturn, 1) := by decide +kernel
theorem d_R_numeral_0 : decode b_R_numeral 0 = .ok (.iconst 2, 1) := by decide +kernel
theorem d_R_numeral_1 : decode b_R_numeral 1 = .ok (.iload_n 0, 1) := by decide +kernel
theorem d_R_numeral_2 : decode b_R_numeral 2 = .ok (.imul, 1) := by decide +kernel
theorem d_R_numeral_3 : decode b_R_numeral 3 = .ok (.iconst 1, 1) := by decide +kernel
theorem d_R_numeral_4 : decode b_R_numeral 4 = .ok (.iadd, 1) := by decide +kernel
theorem d_R_numeral_5 : decode b_R_numeral 5 = .ok (.ireturn, 1) := by decide +kernel
theorem d_R_isObject_0 : decode b_R_isObject 0 = .ok (.iload_n 0, 1) := by decide +kernel
theorem d_R_isObject_1 : decode b_R_isObject 1 = .ok (.ifCond .eq 13, 3) := by decide +kernel
theorem d_R_isObject_4 : decode b_R_isObject 4 = .ok (.iload_n 0, 1) := by decide +kernel
theorem d_R_isObject_5 : decode b_R_isObject 5 = .ok (.iconst 2, 1) := by decide +kernel
theorem d_R_isObject_6 : decode b_R_isObject 6 = .ok (.irem, 1) := by decide +kernel
theorem d_R_isObject_7 : decode b_R_isObject 7 = .ok (.ifCond .ne 7, 3) := by decide +kernel
theorem d_R_isObject_10 : decode b_R_isObject 10 = .ok (.iconst 1, 1) := by decide +kernel
theorem d_R_isObject_11 : decode b_R_isObject 11 = .ok (.goto 4, 3) := by decide +kernel
theorem d_R_isObject_14 : decode b_R_isObject 14 = .ok (.iconst 0, 1) := by decide +kernel
theorem d_R_isObject_15 : decode b_R_isObject 15 = .ok (.ireturn, 1) := by decide +kernel
theorem d_R_objectIn_0 : decode b_R_objectIn 0 = .ok (.iload_n 1, 1) := by decide +kernel
theorem d_R_objectIn_1 : decode b_R_objectIn 1 = .ok (.invokestatic 76, 3) := by decide +kernel
theorem d_R_objectIn_4 : decode b_R_objectIn 4 = .ok (.ifCond .eq 15, 3) := by decide +kernel
theorem d_R_objectIn_7 : decode b_R_objectIn 7 = .ok (.aload_n 0, 1) := by decide +kernel
theorem d_R_objectIn_8 : decode b_R_objectIn 8 = .ok (.getfield 13, 3) := by decide +kernel
theorem d_R_objectIn_11 : decode b_R_objectIn 11 = .ok (.iload_n 1, 1) := by decide +kernel
theorem d_R_objectIn_12 : decode b_R_objectIn 12 = .ok (.iaload, 1) := by decide +kernel
theorem d_R_objectIn_13 : decode b_R_objectIn 13 = .ok (.invokestatic 80, 3) := by decide +kernel
theorem d_R_objectIn_16 : decode b_R_objectIn 16 = .ok (.ifCond .ne 5, 3) := by decide +kernel
theorem d_R_objectIn_19 : decode b_R_objectIn 19 = .ok (.iconst (-1), 1) := by decide +kernel
theorem d_R_objectIn_20 : decode b_R_objectIn 20 = .ok (.ireturn, 1) := by decide +kernel
theorem d_R_objectIn_21 : decode b_R_objectIn 21 = .ok (.aload_n 0, 1) := by decide +kernel
theorem d_R_objectIn_22 : decode b_R_objectIn 22 = .ok (.getfield 13, 3) := by decide +kernel
theorem d_R_objectIn_25 : decode b_R_objectIn 25 = .ok (.iload_n 1, 1) := by decide +kernel
theorem d_R_objectIn_26 : decode b_R_objectIn 26 = .ok (.iaload, 1) := by decide +kernel
theorem d_R_objectIn_27 : decode b_R_objectIn 27 = .ok (.iconst 2, 1) := by decide +kernel
theorem d_R_objectIn_28 : decode b_R_objectIn 28 = .ok (.idiv, 1) := by decide +kernel
theorem d_R_objectIn_29 : decode b_R_objectIn 29 = .ok (.iconst 1, 1) := by decide +kernel
theorem d_R_objectIn_30 : decode b_R_objectIn 30 = .ok (.isub, 1) := by decide +kernel
theorem d_R_objectIn_31 : decode b_R_objectIn 31 = .ok (.istore 4, 2) := by decide +kernel
theorem d_R_objectIn_33 : decode b_R_objectIn 33 = .ok (.aload_n 0, 1) := by decide +kernel
theorem d_R_objectIn_34 : decode b_R_objectIn 34 = .ok (.getfield 17, 3) := by decide +kernel
theorem d_R_objectIn_37 : decode b_R_objectIn 37 = .ok (.iload 4, 2) := by decide +kernel
theorem d_R_objectIn_39 : decode b_R_objectIn 39 = .ok (.baload, 1) := by decide +kernel
theorem d_R_objectIn_40 : decode b_R_objectIn 40 = .ok (.iload_n 2, 1) := by decide +kernel
theorem d_R_objectIn_41 : decode b_R_objectIn 41 = .ok (.if_icmp .lt 19, 3) := by decide +kernel
theorem d_R_objectIn_44 : decode b_R_objectIn 44 = .ok (.aload_n 0, 1) := by decide +kernel
theorem d_R_objectIn_45 : decode b_R_objectIn 45 = .ok (.getfield 17, 3) := by decide +kernel
theorem d_R_objectIn_48 : decode b_R_objectIn 48 = .ok (.iload 4, 2) := by decide +kernel
theorem d_R_objectIn_50 : decode b_R_objectIn 50 = .ok (.baload, 1) := by decide +kernel
theorem d_R_objectIn_51 : decode b_R_objectIn 51 = .ok (.iload_n 3, 1) := by decide +kernel
theorem d_R_objectIn_52 : decode b_R_objectIn 52 = .ok (.if_icmp .gt 8, 3) := by decide +kernel
theorem d_R_objectIn_55 : decode b_R_objectIn 55 = .ok (.iload 4, 2) := by decide +kernel
theorem d_R_objectIn_57 : decode b_R_objectIn 57 = .ok (.goto 4, 3) := by decide +kernel
theorem d_R_objectIn_60 : decode b_R_objectIn 60 = .ok (.iconst (-1), 1) := by decide +kernel
theorem d_R_objectIn_61 : decode b_R_objectIn 61 = .ok (.ireturn, 1) := by decide +kernel
theorem d_R_contextIn_0 : decode b_R_contextIn 0 = .ok (.aload_n 0, 1) := by decide +kernel
theorem d_R_contextIn_1 : decode b_R_contextIn 1 = .ok (.iload_n 1, 1) := by decide +kernel
theorem d_R_contextIn_2 : decode b_R_contextIn 2 = .ok (.iconst 3, 1) := by decide +kernel
theorem d_R_contextIn_3 : decode b_R_contextIn 3 = .ok (.iconst 4, 1) := by decide +kernel
theorem d_R_contextIn_4 : decode b_R_contextIn 4 = .ok (.invokevirtual 83, 3) := by decide +kernel
theorem d_R_contextIn_7 : decode b_R_contextIn 7 = .ok (.ireturn, 1) := by decide +kernel
theorem d_R_isNilOrContext_0 : decode b_R_isNilOrContext 0 = .ok (.iload_n 1, 1) := by decide +kernel
theorem d_R_isNilOrContext_1 : decode b_R_isNilOrContext 1 = .ok (.invokestatic 76, 3) := by decide +kernel
theorem d_R_isNilOrContext_4 : decode b_R_isNilOrContext 4 = .ok (.ifCond .eq 24, 3) := by decide +kernel
theorem d_R_isNilOrContext_7 : decode b_R_isNilOrContext 7 = .ok (.aload_n 0, 1) := by decide +kernel
theorem d_R_isNilOrContext_8 : decode b_R_isNilOrContext 8 = .ok (.getfield 13, 3) := by decide +kernel
theorem d_R_isNilOrContext_11 : decode b_R_isNilOrContext 11 = .ok (.iload_n 1, 1) := by decide +kernel
theorem d_R_isNilOrContext_12 : decode b_R_isNilOrContext 12 = .ok (.iaload, 1) := by decide +kernel
theorem d_R_isNilOrContext_13 : decode b_R_isNilOrContext 13 = .ok (.ifCond .eq 11, 3) := by decide +kernel
theorem d_R_isNilOrContext_16 : decode b_R_isNilOrContext 16 = .ok (.aload_n 0, 1) := by decide +kernel
theorem d_R_isNilOrContext_17 : decode b_R_isNilOrContext 17 = .ok (.iload_n 1, 1) := by decide +kernel
theorem d_R_isNilOrContext_18 : decode b_R_isNilOrContext 18 = .ok (.invokevirtual 87, 3) := by decide +kernel
theorem d_R_isNilOrContext_21 : decode b_R_isNilOrContext 21 = .ok (.ifCond .lt 7, 3) := by decide +kernel
theorem d_R_isNilOrContext_24 : decode b_R_isNilOrContext 24 = .ok (.iconst 1, 1) := by decide +kernel
theorem d_R_isNilOrContext_25 : decode b_R_isNilOrContext 25 = .ok (.goto 4, 3) := by decide +kernel
theorem d_R_isNilOrContext_28 : decode b_R_isNilOrContext 28 = .ok (.iconst 0, 1) := by decide +kernel
theorem d_R_isNilOrContext_29 : decode b_R_isNilOrContext 29 = .ok (.ireturn, 1) := by decide +kernel
theorem d_R_see_0 : decode b_R_see 0 = .ok (.iload_n 1, 1) := by decide +kernel
theorem d_R_see_1 : decode b_R_see 1 = .ok (.invokestatic 80, 3) := by decide +kernel
theorem d_R_see_4 : decode b_R_see 4 = .ok (.ifCond .eq 51, 3) := by decide +kernel
theorem d_R_see_7 : decode b_R_see 7 = .ok (.aload_n 0, 1) := by decide +kernel
theorem d_R_see_8 : decode b_R_see 8 = .ok (.getfield 62, 3) := by decide +kernel
theorem d_R_see_11 : decode b_R_see 11 = .ok (.iload_n 1, 1) := by decide +kernel
theorem d_R_see_12 : decode b_R_see 12 = .ok (.iconst 2, 1) := by decide +kernel
theorem d_R_see_13 : decode b_R_see 13 = .ok (.idiv, 1) := by decide +kernel
theorem d_R_see_14 : decode b_R_see 14 = .ok (.iconst 1, 1) := by decide +kernel
theorem d_R_see_15 : decode b_R_see 15 = .ok (.isub, 1) := by decide +kernel
theorem d_R_see_16 : decode b_R_see 16 = .ok (.baload, 1) := by decide +kernel
theorem d_R_see_17 : decode b_R_see 17 = .ok (.ifCond .ne 38, 3) := by decide +kernel
theorem d_R_see_20 : decode b_R_see 20 = .ok (.aload_n 0, 1) := by decide +kernel
theorem d_R_see_21 : decode b_R_see 21 = .ok (.getfield 62, 3) := by decide +kernel
theorem d_R_see_24 : decode b_R_see 24 = .ok (.iload_n 1, 1) := by decide +kernel
theorem d_R_see_25 : decode b_R_see 25 = .ok (.iconst 2, 1) := by decide +kernel
theorem d_R_see_26 : decode b_R_see 26 = .ok (.idiv, 1) := by decide +kernel
theorem d_R_see_27 : decode b_R_see 27 = .ok (.iconst 1, 1) := by decide +kernel
theorem d_R_see_28 : decode b_R_see 28 = .ok (.isub, 1) := by decide +kernel
theorem d_R_see_29 : decode b_R_see 29 = .ok (.iconst 1, 1) := by decide +kernel
theorem d_R_see_30 : decode b_R_see 30 = .ok (.bastore, 1) := by decide +kernel
theorem d_R_see_31 : decode b_R_see 31 = .ok (.aload_n 0, 1) := by decide +kernel
theorem d_R_see_32 : decode b_R_see 32 = .ok (.getfield 65, 3) := by decide +kernel
theorem d_R_see_35 : decode b_R_see 35 = .ok (.aload_n 0, 1) := by decide +kernel
theorem d_R_see_36 : decode b_R_see 36 = .ok (.getfield 91, 3) := by decide +kernel
theorem d_R_see_39 : decode b_R_see 39 = .ok (.iload_n 1, 1) := by decide +kernel
theorem d_R_see_40 : decode b_R_see 40 = .ok (.iconst 2, 1) := by decide +kernel
theorem d_R_see_41 : decode b_R_see 41 = .ok (.idiv, 1) := by decide +kernel
theorem d_R_see_42 : decode b_R_see 42 = .ok (.iconst 1, 1) := by decide +kernel
theorem d_R_see_43 : decode b_R_see 43 = .ok (.isub, 1) := by decide +kernel
theorem d_R_see_44 : decode b_R_see 44 = .ok (.iastore, 1) := by decide +kernel
theorem d_R_see_45 : decode b_R_see 45 = .ok (.aload_n 0, 1) := by decide +kernel
theorem d_R_see_46 : decode b_R_see 46 = .ok (.dup, 1) := by decide +kernel
theorem d_R_see_47 : decode b_R_see 47 = .ok (.getfield 91, 3) := by decide +kernel
theorem d_R_see_50 : decode b_R_see 50 = .ok (.iconst 1, 1) := by decide +kernel
theorem d_R_see_51 : decode b_R_see 51 = .ok (.iadd, 1) := by decide +kernel
theorem d_R_see_52 : decode b_R_see 52 = .ok (.putfield 91, 3) := by decide +kernel
theorem d_R_see_55 : decode b_R_see 55 = .ok (.return_, 1) := by decide +kernel
theorem d_R_look_0 : decode b_R_look 0 = .ok (.iconst 0, 1) := by decide +kernel
theorem d_R_look_1 : decode b_R_look 1 = .ok (.istore_n 1, 1) := by decide +kernel
theorem d_R_look_2 : decode b_R_look 2 = .ok (.iload_n 1, 1) := by decide +kernel
theorem d_R_look_3 : decode b_R_look 3 = .ok (.sipush 4096, 3) := by decide +kernel
theorem d_R_look_6 : decode b_R_look 6 = .ok (.if_icmp .ge 16, 3) := by decide +kernel
theorem d_R_look_9 : decode b_R_look 9 = .ok (.aload_n 0, 1) := by decide +kernel
theorem d_R_look_10 : decode b_R_look 10 = .ok (.getfield 62, 3) := by decide +kernel
theorem d_R_look_13 : decode b_R_look 13 = .ok (.iload_n 1, 1) := by decide +kernel
theorem d_R_look_14 : decode b_R_look 14 = .ok (.iconst 0, 1) := by decide +kernel
theorem d_R_look_15 : decode b_R_look 15 = .ok (.bastore, 1) := by decide +kernel
theorem d_R_look_16 : decode b_R_look 16 = .ok (.iinc 1 1, 3) := by decide +kernel
theorem d_R_look_19 : decode b_R_look 19 = .ok (.goto (-17), 3) := by decide +kernel
theorem d_R_look_22 : decode b_R_look 22 = .ok (.aload_n 0, 1) := by decide +kernel
theorem d_R_look_23 : decode b_R_look 23 = .ok (.iconst 0, 1) := by decide +kernel
theorem d_R_look_24 : decode b_R_look 24 = .ok (.putfield 91, 3) := by decide +kernel
theorem d_R_look_27 : decode b_R_look 27 = .ok (.aload_n 0, 1) := by decide +kernel
theorem d_R_look_28 : decode b_R_look 28 = .ok (.iconst 0, 1) := by decide +kernel
theorem d_R_look_29 : decode b_R_look 29 = .ok (.putfield 94, 3) := by decide +kernel
theorem d_R_look_32 : decode b_R_look 32 = .ok (.aload_n 0, 1) := by decide +kernel
theorem d_R_look_33 : decode b_R_look 33 = .ok (.iconst 0, 1) := by decide +kernel
theorem d_R_look_34 : decode b_R_look 34 = .ok (.putfield 97, 3) := by decide +kernel
theorem d_R_look_37 : decode b_R_look 37 = .ok (.aload_n 0, 1) := by decide +kernel
theorem d_R_look_38 : decode b_R_look 38 = .ok (.iconst 0, 1) := by decide +kernel
theorem d_R_look_39 : decode b_R_look 39 = .ok (.putfield 100, 3) := by decide +kernel
theorem d_R_look_42 : decode b_R_look 42 = .ok (.iconst 0, 1) := by decide +kernel
theorem d_R_look_43 : decode b_R_look 43 = .ok (.istore_n 1, 1) := by decide +kernel
theorem d_R_look_44 : decode b_R_look 44 = .ok (.iload_n 1, 1) := by decide +kernel
theorem d_R_look_45 : decode b_R_look 45 = .ok (.bipush 16, 2) := by decide +kernel
theorem d_R_look_47 : decode b_R_look 47 = .ok (.if_icmp .ge 19, 3) := by decide +kernel
theorem d_R_look_50 : decode b_R_look 50 = .ok (.aload_n 0, 1) := by decide +kernel
theorem d_R_look_51 : decode b_R_look 51 = .ok (.aload_n 0, 1) := by decide +kernel
theorem d_R_look_52 : decode b_R_look 52 = .ok (.getfield 13, 3) := by decide +kernel
theorem d_R_look_55 : decode b_R_look 55 = .ok (.iload_n 1, 1) := by decide +kernel
theorem d_R_look_56 : decode b_R_look 56 = .ok (.iaload, 1) := by decide +kernel
theorem d_R_look_57 : decode b_R_look 57 = .ok (.invokevirtual 103, 3) := by decide +kernel
theorem d_R_look_60 : decode b_R_look 60 = .ok (.iinc 1 1, 3) := by decide +kernel
theorem d_R_look_63 : decode b_R_look 63 = .ok (.goto (-19), 3) := by decide +kernel
theorem d_R_look_66 : decode b_R_look 66 = .ok (.iconst 0, 1) := by decide +kernel
theorem d_R_look_67 : decode b_R_look 67 = .ok (.istore_n 1, 1) := by decide +kernel
theorem d_R_look_68 : decode b_R_look 68 = .ok (.iload_n 1, 1) := by decide +kernel
theorem d_R_look_69 : decode b_R_look 69 = .ok (.aload_n 0, 1) := by decide +kernel
theorem d_R_look_70 : decode b_R_look 70 = .ok (.getfield 91, 3) := by decide +kernel
theorem d_R_look_73 : decode b_R_look 73 = .ok (.if_icmp .ge 162, 3) := by decide +kernel
theorem d_R_look_76 : decode b_R_look 76 = .ok (.aload_n 0, 1) := by decide +kernel
theorem d_R_look_77 : decode b_R_look 77 = .ok (.getfield 65, 3) := by decide +kernel
theorem d_R_look_80 : decode b_R_look 80 = .ok (.iload_n 1, 1) := by decide +kernel
theorem d_R_look_81 : decode b_R_look 81 = .ok (.iaload, 1) := by decide +kernel
theorem d_R_look_82 : decode b_R_look 82 = .ok (.istore_n 2, 1) := by decide +kernel
theorem d_R_look_83 : decode b_R_look 83 = .ok (.aload_n 0, 1) := by decide +kernel
theorem d_R_look_84 : decode b_R_look 84 = .ok (.getfield 17, 3) := by decide +kernel
theorem d_R_look_87 : decode b_R_look 87 = .ok (.iload_n 2, 1) := by decide +kernel
theorem d_R_look_88 : decode b_R_look 88 = .ok (.baload, 1) := by decide +kernel
theorem d_R_look_89 : decode b_R_look 89 = .ok (.iconst 2, 1) := by decide +kernel
theorem d_R_look_90 : decode b_R_look 90 = .ok (.if_icmp .ne 27, 3) := by decide +kernel
theorem d_R_look_93 : decode b_R_look 93 = .ok (.aload_n 0, 1) := by decide +kernel
theorem d_R_look_94 : decode b_R_look 94 = .ok (.dup, 1) := by decide +kernel
theorem d_R_look_95 : decode b_R_look 95 = .ok (.getfield 94, 3) := by decide +kernel
theorem d_R_look_98 : decode b_R_look 98 = .ok (.iconst 2, 1) := by decide +kernel
theorem d_R_look_99 : decode b_R_look 99 = .ok (.iadd, 1) := by decide +kernel
theorem d_R_look_100 : decode b_R_look 100 = .ok (.putfield 94, 3) := by decide +kernel
theorem d_R_look_103 : decode b_R_look 103 = .ok (.aload_n 0, 1) := by decide +kernel
theorem d_R_look_104 : decode b_R_look 104 = .ok (.dup, 1) := by decide +kernel
theorem d_R_look_105 : decode b_R_look 105 = .ok (.getfield 97, 3) := by decide +kernel
theorem d_R_look_108 : decode b_R_look 108 = .ok (.bipush 10, 2) := by decide +kernel
theorem d_R_look_110 : decode b_R_look 110 = .ok (.iadd, 1) := by decide +kernel
theorem d_R_look_111 : decode b_R_look 111 = .ok (.putfield 97, 3) := by decide +kernel
theorem d_R_look_114 : decode b_R_look 114 = .ok (.goto 115, 3) := by decide +kernel
theorem d_R_look_117 : decode b_R_look 117 = .ok (.aload_n 0, 1) := by decide +kernel
theorem d_R_look_118 : decode b_R_look 118 = .ok (.dup, 1) := by decide +kernel
theorem d_R_look_119 : decode b_R_look 119 = .ok (.getfield 94, 3) := by decide +kernel
theorem d_R_look_122 : decode b_R_look 122 = .ok (.iconst 1, 1) := by decide +kernel
theorem d_R_look_123 : decode b_R_look 123 = .ok (.iadd, 1) := by decide +kernel
theorem d_R_look_124 : decode b_R_look 124 = .ok (.putfield 94, 3) := by decide +kernel
theorem d_R_look_127 : decode b_R_look 127 = .ok (.aload_n 0, 1) := by decide +kernel
theorem d_R_look_128 : decode b_R_look 128 = .ok (.dup, 1) := by decide +kernel
theorem d_R_look_129 : decode b_R_look 129 = .ok (.getfield 100, 3) := by decide +kernel
theorem d_R_look_132 : decode b_R_look 132 = .ok (.iconst 1, 1) := by decide +kernel
theorem d_R_look_133 : decode b_R_look 133 = .ok (.iadd, 1) := by decide +kernel
theorem d_R_look_134 : decode b_R_look 134 = .ok (.putfield 100, 3) := by decide +kernel
theorem d_R_look_137 : decode b_R_look 137 = .ok (.aload_n 0, 1) := by decide +kernel
theorem d_R_look_138 : decode b_R_look 138 = .ok (.dup, 1) := by decide +kernel
theorem d_R_look_139 : decode b_R_look 139 = .ok (.getfield 97, 3) := by decide +kernel
theorem d_R_look_142 : decode b_R_look 142 = .ok (.aload_n 0, 1) := by decide +kernel
theorem d_R_look_143 : decode b_R_look 143 = .ok (.getfield 17, 3) := by decide +kernel
theorem d_R_look_146 : decode b_R_look 146 = .ok (.iload_n 2, 1) := by decide +kernel
theorem d_R_look_147 : decode b_R_look 147 = .ok (.baload, 1) := by decide +kernel
theorem d_R_look_148 : decode b_R_look 148 = .ok (.iconst 3, 1) := by decide +kernel
theorem d_R_look_149 : decode b_R_look 149 = .ok (.if_icmp .ne 8, 3) := by decide +kernel
theorem d_R_look_152 : decode b_R_look 152 = .ok (.bipush 9, 2) := by decide +kernel
theorem d_R_look_154 : decode b_R_look 154 = .ok (.goto 5, 3) := by decide +kernel
theorem d_R_look_157 : decode b_R_look 157 = .ok (.bipush 10, 2) := by decide +kernel
theorem d_R_look_159 : decode b_R_look 159 = .ok (.aload_n 0, 1) := by decide +kernel
theorem d_R_look_160 : decode b_R_look 160 = .ok (.getfield 52, 3) := by decide +kernel
theorem d_R_look_163 : decode b_R_look 163 = .ok (.iload_n 2, 1) := by decide +kernel
theorem d_R_look_164 : decode b_R_look 164 = .ok (.iaload, 1) := by decide +kernel
theorem d_R_look_165 : decode b_R_look 165 = .ok (.iadd, 1) := by decide +kernel
theorem d_R_look_166 : decode b_R_look 166 = .ok (.iadd, 1) := by decide +kernel
theorem d_R_look_167 : decode b_R_look 167 = .ok (.putfield 97, 3) := by decide +kernel
theorem d_R_look_170 : decode b_R_look 170 = .ok (.aload_n 0, 1) := by decide +kernel
theorem d_R_look_171 : decode b_R_look 171 = .ok (.aload_n 0, 1) := by decide +kernel
theorem d_R_look_172 : decode b_R_look 172 = .ok (.getfield 33, 3) := by decide +kernel
theorem d_R_look_175 : decode b_R_look 175 = .ok (.iload_n 2, 1) := by decide +kernel
theorem d_R_look_176 : decode b_R_look 176 = .ok (.iaload, 1) := by decide +kernel
theorem d_R_look_177 : decode b_R_look 177 = .ok (.invokevirtual 103, 3) := by decide +kernel
theorem d_R_look_180 : decode b_R_look 180 = .ok (.aload_n 0, 1) := by decide +kernel
theorem d_R_look_181 : decode b_R_look 181 = .ok (.iconst 2, 1) := by decide +kernel
theorem d_R_look_182 : decode b_R_look 182 = .ok (.aload_n 0, 1) := by decide +kernel
theorem d_R_look_183 : decode b_R_look 183 = .ok (.getfield 43, 3) := by decide +kernel
theorem d_R_look_186 : decode b_R_look 186 = .ok (.iload_n 2, 1) := by decide +kernel
theorem d_R_look_187 : decode b_R_look 187 = .ok (.iaload, 1) := by decide +kernel
theorem d_R_look_188 : decode b_R_look 188 = .ok (.imul, 1) := by decide +kernel
theorem d_R_look_189 : decode b_R_look 189 = .ok (.iconst 2, 1) := by decide +kernel
theorem d_R_look_190 : decode b_R_look 190 = .ok (.iadd, 1) := by decide +kernel
theorem d_R_look_191 : decode b_R_look 191 = .ok (.invokevirtual 103, 3) := by decide +kernel
theorem d_R_look_194 : decode b_R_look 194 = .ok (.iconst 0, 1) := by decide +kernel
theorem d_R_look_195 : decode b_R_look 195 = .ok (.istore_n 3, 1) := by decide +kernel
theorem d_R_look_196 : decode b_R_look 196 = .ok (.iload_n 3, 1) := by decide +kernel
theorem d_R_look_197 : decode b_R_look 197 = .ok (.aload_n 0, 1) := by decide +kernel
theorem d_R_look_198 : decode b_R_look 198 = .ok (.getfield 52, 3) := by decide +kernel
theorem d_R_look_201 : decode b_R_look 201 = .ok (.iload_n 2, 1) := by decide +kernel
theorem d_R_look_202 : decode b_R_look 202 = .ok (.iaload, 1) := by decide +kernel
theorem d_R_look_203 : decode b_R_look 203 = .ok (.if_icmp .ge 26, 3) := by decide +kernel
theorem d_R_look_206 : decode b_R_look 206 = .ok (.aload_n 0, 1) := by decide +kernel
theorem d_R_look_207 : decode b_R_look 207 = .ok (.aload_n 0, 1) := by decide +kernel
theorem d_R_look_208 : decode b_R_look 208 = .ok (.getfield 56, 3) := by decide +kernel
theorem d_R_look_211 : decode b_R_look 211 = .ok (.aload_n 0, 1) := by decide +kernel
theorem d_R_look_212 : decode b_R_look 212 = .ok (.getfield 49, 3) := by decide +kernel
theorem d_R_look_215 : decode b_R_look 215 = .ok (.iload_n 2, 1) := by decide +kernel
theorem d_R_look_216 : decode b_R_look 216 = .ok (.iaload, 1) := by decide +kernel
theorem d_R_look_217 : decode b_R_look 217 = .ok (.iload_n 3, 1) := by decide +kernel
theorem d_R_look_218 : decode b_R_look 218 = .ok (.iadd, 1) := by decide +kernel
theorem d_R_look_219 : decode b_R_look 219 = .ok (.iaload, 1) := by decide +kernel
theorem d_R_look_220 : decode b_R_look 220 = .ok (.invokevirtual 103, 3) := by decide +kernel
theorem d_R_look_223 : decode b_R_look 223 = .ok (.iinc 3 1, 3) := by decide +kernel
theorem d_R_look_226 : decode b_R_look 226 = .ok (.goto (-30), 3) := by decide +kernel
theorem d_R_look_229 : decode b_R_look 229 = .ok (.iinc 1 1, 3) := by decide +kernel
theorem d_R_look_232 : decode b_R_look 232 = .ok (.goto (-164), 3) := by decide +kernel
theorem d_R_look_235 : decode b_R_look 235 = .ok (.return_, 1) := by decide +kernel
theorem d_R_words_0 : decode b_R_words 0 = .ok (.aload_n 0, 1) := by decide +kernel
theorem d_R_words_1 : decode b_R_words 1 = .ok (.invokevirtual 107, 3) := by decide +kernel
theorem d_R_words_4 : decode b_R_words 4 = .ok (.aload_n 0, 1) := by decide +kernel
theorem d_R_words_5 : decode b_R_words 5 = .ok (.getfield 68, 3) := by decide +kernel
theorem d_R_words_8 : decode b_R_words 8 = .ok (.bipush 8, 2) := by decide +kernel
theorem d_R_words_10 : decode b_R_words 10 = .ok (.isub, 1) := by decide +kernel
theorem d_R_words_11 : decode b_R_words 11 = .ok (.aload_n 0, 1) := by decide +kernel
theorem d_R_words_12 : decode b_R_words 12 = .ok (.getfield 97, 3) := by decide +kernel
theorem d_R_words_15 : decode b_R_words 15 = .ok (.isub, 1) := by decide +kernel
theorem d_R_words_16 : decode b_R_words 16 = .ok (.ireturn, 1) := by decide +kernel
theorem d_R_entries_0 : decode b_R_entries 0 = .ok (.aload_n 0, 1) := by decide +kernel
theorem d_R_entries_1 : decode b_R_entries 1 = .ok (.invokevirtual 107, 3) := by decide +kernel
theorem d_R_entries_4 : decode b_R_entries 4 = .ok (.aload_n 0, 1) := by decide +kernel
theorem d_R_entries_5 : decode b_R_entries 5 = .ok (.getfield 71, 3) := by decide +kernel
theorem d_R_entries_8 : decode b_R_entries 8 = .ok (.iconst 2, 1) := by decide +kernel
theorem d_R_entries_9 : decode b_R_entries 9 = .ok (.isub, 1) := by decide +kernel
theorem d_R_entries_10 : decode b_R_entries 10 = .ok (.aload_n 0, 1) := by decide +kernel
theorem d_R_entries_11 : decode b_R_entries 11 = .ok (.getfield 94, 3) := by decide +kernel
theorem d_R_entries_14 : decode b_R_entries 14 = .ok (.isub, 1) := by decide +kernel
theorem d_R_entries_15 : decode b_R_entries 15 = .ok (.ireturn, 1) := by decide +kernel
theorem d_R_contexts_0 : decode b_R_contexts 0 = .ok (.aload_n 0, 1) := by decide +kernel
theorem d_R_contexts_1 : decode b_R_contexts 1 = .ok (.invokevirtual 107, 3) := by decide +kernel
theorem d_R_contexts_4 : decode b_R_contexts 4 = .ok (.aload_n 0, 1) := by decide +kernel
theorem d_R_contexts_5 : decode b_R_contexts 5 = .ok (.getfield 100, 3) := by decide +kernel
theorem d_R_contexts_8 : decode b_R_contexts 8 = .ok (.ireturn, 1) := by decide +kernel
theorem d_R_letGo_0 : decode b_R_letGo 0 = .ok (.iconst 0, 1) := by decide +kernel
theorem d_R_letGo_1 : decode b_R_letGo 1 = .ok (.istore_n 1, 1) := by decide +kernel
theorem d_R_letGo_2 : decode b_R_letGo 2 = .ok (.iconst 0, 1) := by decide +kernel
theorem d_R_letGo_3 : decode b_R_letGo 3 = .ok (.istore_n 2, 1) := by decide +kernel
theorem d_R_letGo_4 : decode b_R_letGo 4 = .ok (.iload_n 2, 1) := by decide +kernel
theorem d_R_letGo_5 : decode b_R_letGo 5 = .ok (.sipush 4096, 3) := by decide +kernel
theorem d_R_letGo_8 : decode b_R_letGo 8 = .ok (.if_icmp .ge 93, 3) := by decide +kernel
theorem d_R_letGo_11 : decode b_R_letGo 11 = .ok (.aload_n 0, 1) := by decide +kernel
theorem d_R_letGo_12 : decode b_R_letGo 12 = .ok (.getfield 62, 3) := by decide +kernel
theorem d_R_letGo_15 : decode b_R_letGo 15 = .ok (.iload_n 2, 1) := by decide +kernel
theorem d_R_letGo_16 : decode b_R_letGo 16 = .ok (.baload, 1) := by decide +kernel
theorem d_R_letGo_17 : decode b_R_letGo 17 = .ok (.ifCond .ne 13, 3) := by decide +kernel
theorem d_R_letGo_20 : decode b_R_letGo 20 = .ok (.aload_n 0, 1) := by decide +kernel
theorem d_R_letGo_21 : decode b_R_letGo 21 = .ok (.getfield 17, 3) := by decide +kernel
theorem d_R_letGo_24 : decode b_R_letGo 24 = .ok (.iload_n 2, 1) := by decide +kernel
theorem d_R_letGo_25 : decode b_R_letGo 25 = .ok (.iconst 0, 1) := by decide +kernel
theorem d_R_letGo_26 : decode b_R_letGo 26 = .ok (.bastore, 1) := by decide +kernel
theorem d_R_letGo_27 : decode b_R_letGo 27 = .ok (.goto 68, 3) := by decide +kernel
theorem d_R_letGo_30 : decode b_R_letGo 30 = .ok (.aload_n 0, 1) := by decide +kernel
theorem d_R_letGo_31 : decode b_R_letGo 31 = .ok (.getfield 17, 3) := by decide +kernel
theorem d_R_letGo_34 : decode b_R_letGo 34 = .ok (.iload_n 2, 1) := by decide +kernel
theorem d_R_letGo_35 : decode b_R_letGo 35 = .ok (.baload, 1) := by decide +kernel
theorem d_R_letGo_36 : decode b_R_letGo 36 = .ok (.iconst 2, 1) := by decide +kernel
theorem d_R_letGo_37 : decode b_R_letGo 37 = .ok (.if_icmp .eq 58, 3) := by decide +kernel
theorem d_R_letGo_40 : decode b_R_letGo 40 = .ok (.iconst 0, 1) := by decide +kernel
theorem d_R_letGo_41 : decode b_R_letGo 41 = .ok (.istore_n 3, 1) := by decide +kernel
theorem d_R_letGo_42 : decode b_R_letGo 42 = .ok (.iload_n 3, 1) := by decide +kernel
theorem d_R_letGo_43 : decode b_R_letGo 43 = .ok (.aload_n 0, 1) := by decide +kernel
theorem d_R_letGo_44 : decode b_R_letGo 44 = .ok (.getfield 52, 3) := by decide +kernel
theorem d_R_letGo_47 : decode b_R_letGo 47 = .ok (.iload_n 2, 1) := by decide +kernel
theorem d_R_letGo_48 : decode b_R_letGo 48 = .ok (.iaload, 1) := by decide +kernel
theorem d_R_letGo_49 : decode b_R_letGo 49 = .ok (.if_icmp .ge 30, 3) := by decide +kernel
theorem d_R_letGo_52 : decode b_R_letGo 52 = .ok (.aload_n 0, 1) := by decide +kernel
theorem d_R_letGo_53 : decode b_R_letGo 53 = .ok (.getfield 59, 3) := by decide +kernel
theorem d_R_letGo_56 : decode b_R_letGo 56 = .ok (.iload_n 1, 1) := by decide +kernel
theorem d_R_letGo_57 : decode b_R_letGo 57 = .ok (.iload_n 3, 1) := by decide +kernel
theorem d_R_letGo_58 : decode b_R_letGo 58 = .ok (.iadd, 1) := by decide +kernel
theorem d_R_letGo_59 : decode b_R_letGo 59 = .ok (.aload_n 0, 1) := by decide +kernel
theorem d_R_letGo_60 : decode b_R_letGo 60 = .ok (.getfield 56, 3) := by decide +kernel
theorem d_R_letGo_63 : decode b_R_letGo 63 = .ok (.aload_n 0, 1) := by decide +kernel
theorem d_R_letGo_64 : decode b_R_letGo 64 = .ok (.getfield 49, 3) := by decide +kernel
theorem d_R_letGo_67 : decode b_R_letGo 67 = .ok (.iload_n 2, 1) := by decide +kernel
theorem d_R_letGo_68 : decode b_R_letGo 68 = .ok (.iaload, 1) := by decide +kernel
theorem d_R_letGo_69 : decode b_R_letGo 69 = .ok (.iload_n 3, 1) := by decide +kernel
theorem d_R_letGo_70 : decode b_R_letGo 70 = .ok (.iadd, 1) := by decide +kernel
theorem d_R_letGo_71 : decode b_R_letGo 71 = .ok (.iaload, 1) := by decide +kernel
theorem d_R_letGo_72 : decode b_R_letGo 72 = .ok (.iastore, 1) := by decide +kernel
theorem d_R_letGo_73 : decode b_R_letGo 73 = .ok (.iinc 3 1, 3) := by decide +kernel
theorem d_R_letGo_76 : decode b_R_letGo 76 = .ok (.goto (-34), 3) := by decide +kernel
theorem d_R_letGo_79 : decode b_R_letGo 79 = .ok (.aload_n 0, 1) := by decide +kernel
theorem d_R_letGo_80 : decode b_R_letGo 80 = .ok (.getfield 49, 3) := by decide +kernel
theorem d_R_letGo_83 : decode b_R_letGo 83 = .ok (.iload_n 2, 1) := by decide +kernel
theorem d_R_letGo_84 : decode b_R_letGo 84 = .ok (.iload_n 1, 1) := by decide +kernel
theorem d_R_letGo_85 : decode b_R_letGo 85 = .ok (.iastore, 1) := by decide +kernel
theorem d_R_letGo_86 : decode b_R_letGo 86 = .ok (.iload_n 1, 1) := by decide +kernel
theorem d_R_letGo_87 : decode b_R_letGo 87 = .ok (.aload_n 0, 1) := by decide +kernel
theorem d_R_letGo_88 : decode b_R_letGo 88 = .ok (.getfield 52, 3) := by decide +kernel
theorem d_R_letGo_91 : decode b_R_letGo 91 = .ok (.iload_n 2, 1) := by decide +kernel
theorem d_R_letGo_92 : decode b_R_letGo 92 = .ok (.iaload, 1) := by decide +kernel
theorem d_R_letGo_93 : decode b_R_letGo 93 = .ok (.iadd, 1) := by decide +kernel
theorem d_R_letGo_94 : decode b_R_letGo 94 = .ok (.istore_n 1, 1) := by decide +kernel
theorem d_R_letGo_95 : decode b_R_letGo 95 = .ok (.iinc 2 1, 3) := by decide +kernel
theorem d_R_letGo_98 : decode b_R_letGo 98 = .ok (.goto (-94), 3) := by decide +kernel
theorem d_R_letGo_101 : decode b_R_letGo 101 = .ok (.aload_n 0, 1) := by decide +kernel
theorem d_R_letGo_102 : decode b_R_letGo 102 = .ok (.getfield 56, 3) := by decide +kernel
theorem d_R_letGo_105 : decode b_R_letGo 105 = .ok (.astore_n 2, 1) := by decide +kernel
theorem d_R_letGo_106 : decode b_R_letGo 106 = .ok (.aload_n 0, 1) := by decide +kernel
theorem d_R_letGo_107 : decode b_R_letGo 107 = .ok (.aload_n 0, 1) := by decide +kernel
theorem d_R_letGo_108 : decode b_R_letGo 108 = .ok (.getfield 59, 3) := by decide +kernel
theorem d_R_letGo_111 : decode b_R_letGo 111 = .ok (.putfield 56, 3) := by decide +kernel
theorem d_R_letGo_114 : decode b_R_letGo 114 = .ok (.aload_n 0, 1) := by decide +kernel
theorem d_R_letGo_115 : decode b_R_letGo 115 = .ok (.aload_n 2, 1) := by decide +kernel
theorem d_R_letGo_116 : decode b_R_letGo 116 = .ok (.putfield 59, 3) := by decide +kernel
theorem d_R_letGo_119 : decode b_R_letGo 119 = .ok (.aload_n 0, 1) := by decide +kernel
theorem d_R_letGo_120 : decode b_R_letGo 120 = .ok (.iload_n 1, 1) := by decide +kernel
theorem d_R_letGo_121 : decode b_R_letGo 121 = .ok (.putfield 110, 3) := by decide +kernel
theorem d_R_letGo_124 : decode b_R_letGo 124 = .ok (.return_, 1) := by decide +kernel
theorem d_R_make_0 : decode b_R_make 0 = .ok (.aload_n 0, 1) := by decide +kernel
theorem d_R_make_1 : decode b_R_make 1 = .ok (.invokevirtual 107, 3) := by decide +kernel
theorem d_R_make_4 : decode b_R_make 4 = .ok (.aload_n 0, 1) := by decide +kernel
theorem d_R_make_5 : decode b_R_make 5 = .ok (.getfield 97, 3) := by decide +kernel
theorem d_R_make_8 : decode b_R_make 8 = .ok (.bipush 8, 2) := by decide +kernel
theorem d_R_make_10 : decode b_R_make 10 = .ok (.iadd, 1) := by decide +kernel
theorem d_R_make_11 : decode b_R_make 11 = .ok (.iload_n 2, 1) := by decide +kernel
theorem d_R_make_12 : decode b_R_make 12 = .ok (.iadd, 1) := by decide +kernel
theorem d_R_make_13 : decode b_R_make 13 = .ok (.aload_n 0, 1) := by decide +kernel
theorem d_R_make_14 : decode b_R_make 14 = .ok (.getfield 68, 3) := by decide +kernel
theorem d_R_make_17 : decode b_R_make 17 = .ok (.if_icmp .gt 18, 3) := by decide +kernel
theorem d_R_make_20 : decode b_R_make 20 = .ok (.aload_n 0, 1) := by decide +kernel
theorem d_R_make_21 : decode b_R_make 21 = .ok (.getfield 94, 3) := by decide +kernel
theorem d_R_make_24 : decode b_R_make 24 = .ok (.iconst 2, 1) := by decide +kernel
theorem d_R_make_25 : decode b_R_make 25 = .ok (.iadd, 1) := by decide +kernel
theorem d_R_make_26 : decode b_R_make 26 = .ok (.iload_n 3, 1) := by decide +kernel
theorem d_R_make_27 : decode b_R_make 27 = .ok (.iadd, 1) := by decide +kernel
theorem d_R_make_28 : decode b_R_make 28 = .ok (.aload_n 0, 1) := by decide +kernel
theorem d_R_make_29 : decode b_R_make 29 = .ok (.getfield 71, 3) := by decide +kernel
theorem d_R_make_32 : decode b_R_make 32 = .ok (.if_icmp .le 6, 3) := by decide +kernel
theorem d_R_make_35 : decode b_R_make 35 = .ok (.bipush (-2), 2) := by decide +kernel
theorem d_R_make_37 : decode b_R_make 37 = .ok (.ireturn, 1) := by decide +kernel
theorem d_R_make_38 : decode b_R_make 38 = .ok (.aload_n 0, 1) := by decide +kernel
theorem d_R_make_39 : decode b_R_make 39 = .ok (.invokevirtual 113, 3) := by decide +kernel
theorem d_R_make_42 : decode b_R_make 42 = .ok (.iconst 0, 1) := by decide +kernel
theorem d_R_make_43 : decode b_R_make 43 = .ok (.istore 5, 2) := by decide +kernel
theorem d_R_make_45 : decode b_R_make 45 = .ok (.aload_n 0, 1) := by decide +kernel
theorem d_R_make_46 : decode b_R_make 46 = .ok (.getfield 17, 3) := by decide +kernel
theorem d_R_make_49 : decode b_R_make 49 = .ok (.iload 5, 2) := by decide +kernel
theorem d_R_make_51 : decode b_R_make 51 = .ok (.baload, 1) := by decide +kernel
theorem d_R_make_52 : decode b_R_make 52 = .ok (.ifCond .eq 9, 3) := by decide +kernel
theorem d_R_make_55 : decode b_R_make 55 = .ok (.iinc 5 1, 3) := by decide +kernel
theorem d_R_make_58 : decode b_R_make 58 = .ok (.goto (-13), 3) := by decide +kernel
theorem d_R_make_61 : decode b_R_make 61 = .ok (.aload_n 0, 1) := by decide +kernel
theorem d_R_make_62 : decode b_R_make 62 = .ok (.getfield 17, 3) := by decide +kernel
theorem d_R_make_65 : decode b_R_make 65 = .ok (.iload 5, 2) := by decide +kernel
theorem d_R_make_67 : decode b_R_make 67 = .ok (.iload_n 1, 1) := by decide +kernel
theorem d_R_make_68 : decode b_R_make 68 = .ok (.i2b, 1) := by decide +kernel
theorem d_R_make_69 : decode b_R_make 69 = .ok (.bastore, 1) := by decide +kernel
theorem d_R_make_70 : decode b_R_make 70 = .ok (.aload_n 0, 1) := by decide +kernel
theorem d_R_make_71 : decode b_R_make 71 = .ok (.dup, 1) := by decide +kernel
theorem d_R_make_72 : decode b_R_make 72 = .ok (.getfield 7, 3) := by decide +kernel
theorem d_R_make_75 : decode b_R_make 75 = .ok (.iload_n 3, 1) := by decide +kernel
theorem d_R_make_76 : decode b_R_make 76 = .ok (.iadd, 1) := by decide +kernel
theorem d_R_make_77 : decode b_R_make 77 = .ok (.putfield 7, 3) := by decide +kernel
theorem d_R_make_80 : decode b_R_make 80 = .ok (.aload_n 0, 1) := by decide +kernel
theorem d_R_make_81 : decode b_R_make 81 = .ok (.getfield 21, 3) := by decide +kernel
theorem d_R_make_84 : decode b_R_make 84 = .ok (.iload 5, 2) := by decide +kernel
theorem d_R_make_86 : decode b_R_make 86 = .ok (.aload_n 0, 1) := by decide +kernel
theorem d_R_make_87 : decode b_R_make 87 = .ok (.getfield 7, 3) := by decide +kernel
theorem d_R_make_90 : decode b_R_make 90 = .ok (.iastore, 1) := by decide +kernel
theorem d_R_make_91 : decode b_R_make 91 = .ok (.aload_n 0, 1) := by decide +kernel
theorem d_R_make_92 : decode b_R_make 92 = .ok (.getfield 49, 3) := by decide +kernel
theorem d_R_make_95 : decode b_R_make 95 = .ok (.iload 5, 2) := by decide +kernel
theorem d_R_make_97 : decode b_R_make 97 = .ok (.aload_n 0, 1) := by decide +kernel
theorem d_R_make_98 : decode b_R_make 98 = .ok (.getfield 110, 3) := by decide +kernel
theorem d_R_make_101 : decode b_R_make 101 = .ok (.iastore, 1) := by decide +kernel
theorem d_R_make_102 : decode b_R_make 102 = .ok (.aload_n 0, 1) := by decide +kernel
theorem d_R_make_103 : decode b_R_make 103 = .ok (.getfield 52, 3) := by decide +kernel
theorem d_R_make_106 : decode b_R_make 106 = .ok (.iload 5, 2) := by decide +kernel
theorem d_R_make_108 : decode b_R_make 108 = .ok (.iload 4, 2) := by decide +kernel
theorem d_R_make_110 : decode b_R_make 110 = .ok (.iastore, 1) := by decide +kernel
theorem d_R_make_111 : decode b_R_make 111 = .ok (.iconst 0, 1) := by decide +kernel
theorem d_R_make_112 : decode b_R_make 112 = .ok (.istore 6, 2) := by decide +kernel
theorem d_R_make_114 : decode b_R_make 114 = .ok (.iload 6, 2) := by decide +kernel
theorem d_R_make_116 : decode b_R_make 116 = .ok (.iload 4, 2) := by decide +kernel
theorem d_R_make_118 : decode b_R_make 118 = .ok (.if_icmp .ge 22, 3) := by decide +kernel
theorem d_R_make_121 : decode b_R_make 121 = .ok (.aload_n 0, 1) := by decide +kernel
theorem d_R_make_122 : decode b_R_make 122 = .ok (.getfield 56, 3) := by decide +kernel
theorem d_R_make_125 : decode b_R_make 125 = .ok (.aload_n 0, 1) := by decide +kernel
theorem d_R_make_126 : decode b_R_make 126 = .ok (.getfield 110, 3) := by decide +kernel
theorem d_R_make_129 : decode b_R_make 129 = .ok (.iload 6, 2) := by decide +kernel
theorem d_R_make_131 : decode b_R_make 131 = .ok (.iadd, 1) := by decide +kernel
theorem d_R_make_132 : decode b_R_make 132 = .ok (.iconst 0, 1) := by decide +kernel
theorem d_R_make_133 : decode b_R_make 133 = .ok (.iastore, 1) := by decide +kernel
theorem d_R_make_134 : decode b_R_make 134 = .ok (.iinc 6 1, 3) := by decide +kernel
theorem d_R_make_137 : decode b_R_make 137 = .ok (.goto (-23), 3) := by decide +kernel
theorem d_R_make_140 : decode b_R_make 140 = .ok (.aload_n 0, 1) := by decide +kernel
theorem d_R_make_141 : decode b_R_make 141 = .ok (.dup, 1) := by decide +kernel
theorem d_R_make_142 : decode b_R_make 142 = .ok (.getfield 110, 3) := by decide +kernel
theorem d_R_make_145 : decode b_R_make 145 = .ok (.iload 4, 2) := by decide +kernel
theorem d_R_make_147 : decode b_R_make 147 = .ok (.iadd, 1) := by decide +kernel
theorem d_R_make_148 : decode b_R_make 148 = .ok (.putfield 110, 3) := by decide +kernel
theorem d_R_make_151 : decode b_R_make 151 = .ok (.iload 5, 2) := by decide +kernel
theorem d_R_make_153 : decode b_R_make 153 = .ok (.ireturn, 1) := by decide +kernel
theorem d_R_number_0 : decode b_R_number 0 = .ok (.iload_n 1, 1) := by decide +kernel
theorem d_R_number_1 : decode b_R_number 1 = .ok (.invokestatic 76, 3) := by decide +kernel
theorem d_R_number_4 : decode b_R_number 4 = .ok (.ifCond .eq 10, 3) := by decide +kernel
theorem d_R_number_7 : decode b_R_number 7 = .ok (.iload_n 2, 1) := by decide +kernel
theorem d_R_number_8 : decode b_R_number 8 = .ok (.invokestatic 116, 3) := by decide +kernel
theorem d_R_number_11 : decode b_R_number 11 = .ok (.ifCond .ne 5, 3) := by decide +kernel
theorem d_R_number_14 : decode b_R_number 14 = .ok (.iconst 0, 1) := by decide +kernel
theorem d_R_number_15 : decode b_R_number 15 = .ok (.ireturn, 1) := by decide +kernel
theorem d_R_number_16 : decode b_R_number 16 = .ok (.aload_n 0, 1) := by decide +kernel
theorem d_R_number_17 : decode b_R_number 17 = .ok (.getfield 13, 3) := by decide +kernel
theorem d_R_number_20 : decode b_R_number 20 = .ok (.iload_n 1, 1) := by decide +kernel
theorem d_R_number_21 : decode b_R_number 21 = .ok (.iload_n 2, 1) := by decide +kernel
theorem d_R_number_22 : decode b_R_number 22 = .ok (.invokestatic 119, 3) := by decide +kernel
theorem d_R_number_25 : decode b_R_number 25 = .ok (.iastore, 1) := by decide +kernel
theorem d_R_number_26 : decode b_R_number 26 = .ok (.iconst 1, 1) := by decide +kernel
theorem d_R_number_27 : decode b_R_number 27 = .ok (.ireturn, 1) := by decide +kernel
theorem d_R_move_0 : decode b_R_move 0 = .ok (.iload_n 1, 1) := by decide +kernel
theorem d_R_move_1 : decode b_R_move 1 = .ok (.invokestatic 76, 3) := by decide +kernel
theorem d_R_move_4 : decode b_R_move 4 = .ok (.ifCond .eq 10, 3) := by decide +kernel
theorem d_R_move_7 : decode b_R_move 7 = .ok (.iload_n 2, 1) := by decide +kernel
theorem d_R_move_8 : decode b_R_move 8 = .ok (.invokestatic 76, 3) := by decide +kernel
theorem d_R_move_11 : decode b_R_move 11 = .ok (.ifCond .ne 5, 3) := by decide +kernel
theorem d_R_move_14 : decode b_R_move 14 = .ok (.iconst 0, 1) := by decide +kernel
theorem d_R_move_15 : decode b_R_move 15 = .ok (.ireturn, 1) := by decide +kernel
theorem d_R_move_16 : decode b_R_move 16 = .ok (.aload_n 0, 1) := by decide +kernel
theorem d_R_move_17 : decode b_R_move 17 = .ok (.getfield 13, 3) := by decide +kernel
theorem d_R_move_20 : decode b_R_move 20 = .ok (.iload_n 1, 1) := by decide +kernel
theorem d_R_move_21 : decode b_R_move 21 = .ok (.aload_n 0, 1) := by decide +kernel
theorem d_R_move_22 : decode b_R_move 22 = .ok (.getfield 13, 3) := by decide +kernel
theorem d_R_move_25 : decode b_R_move 25 = .ok (.iload_n 2, 1) := by decide +kernel
theorem d_R_move_26 : decode b_R_move 26 = .ok (.iaload, 1) := by decide +kernel
theorem d_R_move_27 : decode b_R_move 27 = .ok (.iastore, 1) := by decide +kernel
theorem d_R_move_28 : decode b_R_move 28 = .ok (.iconst 1, 1) := by decide +kernel
theorem d_R_move_29 : decode b_R_move 29 = .ok (.ireturn, 1) := by decide +kernel
theorem d_R_clear_0 : decode b_R_clear 0 = .ok (.iload_n 1, 1) := by decide +kernel
theorem d_R_clear_1 : decode b_R_clear 1 = .ok (.invokestatic 76, 3) := by decide +kernel
theorem d_R_clear_4 : decode b_R_clear 4 = .ok (.ifCond .ne 5, 3) := by decide +kernel
theorem d_R_clear_7 : decode b_R_clear 7 = .ok (.iconst 0, 1) := by decide +kernel
theorem d_R_clear_8 : decode b_R_clear 8 = .ok (.ireturn, 1) := by decide +kernel
theorem d_R_clear_9 : decode b_R_clear 9 = .ok (.aload_n 0, 1) := by decide +kernel
theorem d_R_clear_10 : decode b_R_clear 10 = .ok (.getfield 13, 3) := by decide +kernel
theorem d_R_clear_13 : decode b_R_clear 13 = .ok (.iload_n 1, 1) := by decide +kernel
theorem d_R_clear_14 : decode b_R_clear 14 = .ok (.iconst 0, 1) := by decide +kernel
theorem d_R_clear_15 : decode b_R_clear 15 = .ok (.iastore, 1) := by decide +kernel
theorem d_R_clear_16 : decode b_R_clear 16 = .ok (.iconst 1, 1) := by decide +kernel
theorem d_R_clear_17 : decode b_R_clear 17 = .ok (.ireturn, 1) := by decide +kernel
theorem d_R_kind_0 : decode b_R_kind 0 = .ok (.iload_n 1, 1) := by decide +kernel
theorem d_R_kind_1 : decode b_R_kind 1 = .ok (.invokestatic 76, 3) := by decide +kernel
theorem d_R_kind_4 : decode b_R_kind 4 = .ok (.ifCond .ne 5, 3) := by decide +kernel
theorem d_R_kind_7 : decode b_R_kind 7 = .ok (.iconst (-1), 1) := by decide +kernel
theorem d_R_kind_8 : decode b_R_kind 8 = .ok (.ireturn, 1) := by decide +kernel
theorem d_R_kind_9 : decode b_R_kind 9 = .ok (.aload_n 0, 1) := by decide +kernel
theorem d_R_kind_10 : decode b_R_kind 10 = .ok (.getfield 13, 3) := by decide +kernel
theorem d_R_kind_13 : decode b_R_kind 13 = .ok (.iload_n 1, 1) := by decide +kernel
theorem d_R_kind_14 : decode b_R_kind 14 = .ok (.iaload, 1) := by decide +kernel
theorem d_R_kind_15 : decode b_R_kind 15 = .ok (.istore_n 2, 1) := by decide +kernel
theorem d_R_kind_16 : decode b_R_kind 16 = .ok (.iload_n 2, 1) := by decide +kernel
theorem d_R_kind_17 : decode b_R_kind 17 = .ok (.ifCond .ne 7, 3) := by decide +kernel
theorem d_R_kind_20 : decode b_R_kind 20 = .ok (.iconst 0, 1) := by decide +kernel
theorem d_R_kind_21 : decode b_R_kind 21 = .ok (.goto 24, 3) := by decide +kernel
theorem d_R_kind_24 : decode b_R_kind 24 = .ok (.iload_n 2, 1) := by decide +kernel
theorem d_R_kind_25 : decode b_R_kind 25 = .ok (.invokestatic 80, 3) := by decide +kernel
theorem d_R_kind_28 : decode b_R_kind 28 = .ok (.ifCond .ne 7, 3) := by decide +kernel
theorem d_R_kind_31 : decode b_R_kind 31 = .ok (.iconst 1, 1) := by decide +kernel
theorem d_R_kind_32 : decode b_R_kind 32 = .ok (.goto 13, 3) := by decide +kernel
theorem d_R_kind_35 : decode b_R_kind 35 = .ok (.aload_n 0, 1) := by decide +kernel
theorem d_R_kind_36 : decode b_R_kind 36 = .ok (.getfield 17, 3) := by decide +kernel
theorem d_R_kind_39 : decode b_R_kind 39 = .ok (.iload_n 2, 1) := by decide +kernel
theorem d_R_kind_40 : decode b_R_kind 40 = .ok (.iconst 2, 1) := by decide +kernel
theorem d_R_kind_41 : decode b_R_kind 41 = .ok (.idiv, 1) := by decide +kernel
theorem d_R_kind_42 : decode b_R_kind 42 = .ok (.iconst 1, 1) := by decide +kernel
theorem d_R_kind_43 : decode b_R_kind 43 = .ok (.isub, 1) := by decide +kernel
theorem d_R_kind_44 : decode b_R_kind 44 = .ok (.baload, 1) := by decide +kernel
theorem d_R_kind_45 : decode b_R_kind 45 = .ok (.ireturn, 1) := by decide +kernel
theorem d_R_value_0 : decode b_R_value 0 = .ok (.iload_n 1, 1) := by decide +kernel
theorem d_R_value_1 : decode b_R_value 1 = .ok (.invokestatic 76, 3) := by decide +kernel
theorem d_R_value_4 : decode b_R_value 4 = .ok (.ifCond .eq 12, 3) := by decide +kernel
theorem d_R_value_7 : decode b_R_value 7 = .ok (.aload_n 0, 1) := by decide +kernel
theorem d_R_value_8 : decode b_R_value 8 = .ok (.getfield 13, 3) := by decide +kernel
theorem d_R_value_11 : decode b_R_value 11 = .ok (.iload_n 1, 1) := by decide +kernel
theorem d_R_value_12 : decode b_R_value 12 = .ok (.iaload, 1) := by decide +kernel
theorem d_R_value_13 : decode b_R_value 13 = .ok (.ifCond .ne 5, 3) := by decide +kernel
theorem d_R_value_16 : decode b_R_value 16 = .ok (.iconst 0, 1) := by decide +kernel
theorem d_R_value_17 : decode b_R_value 17 = .ok (.ireturn, 1) := by decide +kernel
theorem d_R_value_18 : decode b_R_value 18 = .ok (.aload_n 0, 1) := by decide +kernel
theorem d_R_value_19 : decode b_R_value 19 = .ok (.getfield 13, 3) := by decide +kernel
theorem d_R_value_22 : decode b_R_value 22 = .ok (.iload_n 1, 1) := by decide +kernel
theorem d_R_value_23 : decode b_R_value 23 = .ok (.iaload, 1) := by decide +kernel
theorem d_R_value_24 : decode b_R_value 24 = .ok (.istore_n 2, 1) := by decide +kernel
theorem d_R_value_25 : decode b_R_value 25 = .ok (.iload_n 2, 1) := by decide +kernel
theorem d_R_value_26 : decode b_R_value 26 = .ok (.invokestatic 80, 3) := by decide +kernel
theorem d_R_value_29 : decode b_R_value 29 = .ok (.ifCond .eq 16, 3) := by decide +kernel
theorem d_R_value_32 : decode b_R_value 32 = .ok (.aload_n 0, 1) := by decide +kernel
theorem d_R_value_33 : decode b_R_value 33 = .ok (.getfield 21, 3) := by decide +kernel
theorem d_R_value_36 : decode b_R_value 36 = .ok (.iload_n 2, 1) := by decide +kernel
theorem d_R_value_37 : decode b_R_value 37 = .ok (.iconst 2, 1) := by decide +kernel
theorem d_R_value_38 : decode b_R_value 38 = .ok (.idiv, 1) := by decide +kernel
theorem d_R_value_39 : decode b_R_value 39 = .ok (.iconst 1, 1) := by decide +kernel
theorem d_R_value_40 : decode b_R_value 40 = .ok (.isub, 1) := by decide +kernel
theorem d_R_value_41 : decode b_R_value 41 = .ok (.iaload, 1) := by decide +kernel
theorem d_R_value_42 : decode b_R_value 42 = .ok (.goto 6, 3) := by decide +kernel
theorem d_R_value_45 : decode b_R_value 45 = .ok (.iload_n 2, 1) := by decide +kernel
theorem d_R_value_46 : decode b_R_value 46 = .ok (.iconst 1, 1) := by decide +kernel
theorem d_R_value_47 : decode b_R_value 47 = .ok (.ishr, 1) := by decide +kernel
theorem d_R_value_48 : decode b_R_value 48 = .ok (.ireturn, 1) := by decide +kernel
theorem d_R_isMethod_0 : decode b_R_isMethod 0 = .ok (.iload_n 0, 1) := by decide +kernel
theorem d_R_isMethod_1 : decode b_R_isMethod 1 = .ok (.ifCond .lt 34, 3) := by decide +kernel
theorem d_R_isMethod_4 : decode b_R_isMethod 4 = .ok (.iload_n 0, 1) := by decide +kernel
theorem d_R_isMethod_5 : decode b_R_isMethod 5 = .ok (.bipush 15, 2) := by decide +kernel
theorem d_R_isMethod_7 : decode b_R_isMethod 7 = .ok (.if_icmp .gt 28, 3) := by decide +kernel
theorem d_R_isMethod_10 : decode b_R_isMethod 10 = .ok (.iload_n 1, 1) := by decide +kernel
theorem d_R_isMethod_11 : decode b_R_isMethod 11 = .ok (.iload_n 0, 1) := by decide +kernel
theorem d_R_isMethod_12 : decode b_R_isMethod 12 = .ok (.if_icmp .lt 23, 3) := by decide +kernel
theorem d_R_isMethod_15 : decode b_R_isMethod 15 = .ok (.iload_n 1, 1) := by decide +kernel
theorem d_R_isMethod_16 : decode b_R_isMethod 16 = .ok (.bipush 31, 2) := by decide +kernel
theorem d_R_isMethod_18 : decode b_R_isMethod 18 = .ok (.if_icmp .gt 17, 3) := by decide +kernel
theorem d_R_isMethod_21 : decode b_R_isMethod 21 = .ok (.iload_n 2, 1) := by decide +kernel
theorem d_R_isMethod_22 : decode b_R_isMethod 22 = .ok (.ifCond .lt 13, 3) := by decide +kernel
theorem d_R_isMethod_25 : decode b_R_isMethod 25 = .ok (.iload_n 2, 1) := by decide +kernel
theorem d_R_isMethod_26 : decode b_R_isMethod 26 = .ok (.bipush 63, 2) := by decide +kernel
theorem d_R_isMethod_28 : decode b_R_isMethod 28 = .ok (.if_icmp .gt 7, 3) := by decide +kernel
theorem d_R_isMethod_31 : decode b_R_isMethod 31 = .ok (.iconst 1, 1) := by decide +kernel
theorem d_R_isMethod_32 : decode b_R_isMethod 32 = .ok (.goto 4, 3) := by decide +kernel
theorem d_R_isMethod_35 : decode b_R_isMethod 35 = .ok (.iconst 0, 1) := by decide +kernel
theorem d_R_isMethod_36 : decode b_R_isMethod 36 = .ok (.ireturn, 1) := by decide +kernel
theorem d_R_give_0 : decode b_R_give 0 = .ok (.aload_n 0, 1) := by decide +kernel
theorem d_R_give_1 : decode b_R_give 1 = .ok (.getfield 24, 3) := by decide +kernel
theorem d_R_give_4 : decode b_R_give 4 = .ok (.iload_n 1, 1) := by decide +kernel
theorem d_R_give_5 : decode b_R_give 5 = .ok (.iload_n 2, 1) := by decide +kernel
theorem d_R_give_6 : decode b_R_give 6 = .ok (.iastore, 1) := by decide +kernel
theorem d_R_give_7 : decode b_R_give 7 = .ok (.aload_n 0, 1) := by decide +kernel
theorem d_R_give_8 : decode b_R_give 8 = .ok (.getfield 27, 3) := by decide +kernel
theorem d_R_give_11 : decode b_R_give 11 = .ok (.iload_n 1, 1) := by decide +kernel
theorem d_R_give_12 : decode b_R_give 12 = .ok (.iload_n 3, 1) := by decide +kernel
theorem d_R_give_13 : decode b_R_give 13 = .ok (.iastore, 1) := by decide +kernel
theorem d_R_give_14 : decode b_R_give 14 = .ok (.aload_n 0, 1) := by decide +kernel
theorem d_R_give_15 : decode b_R_give 15 = .ok (.getfield 30, 3) := by decide +kernel
theorem d_R_give_18 : decode b_R_give 18 = .ok (.iload_n 1, 1) := by decide +kernel
theorem d_R_give_19 : decode b_R_give 19 = .ok (.iload 4, 2) := by decide +kernel
theorem d_R_give_21 : decode b_R_give 21 = .ok (.iastore, 1) := by decide +kernel
theorem d_R_give_22 : decode b_R_give 22 = .ok (.return_, 1) := by decide +kernel
theorem d_R_method_0 : decode b_R_method 0 = .ok (.iload_n 1, 1) := by decide +kernel
theorem d_R_method_1 : decode b_R_method 1 = .ok (.invokestatic 76, 3) := by decide +kernel
theorem d_R_method_4 : decode b_R_method 4 = .ok (.ifCond .eq 13, 3) := by decide +kernel
theorem d_R_method_7 : decode b_R_method 7 = .ok (.iload_n 2, 1) := by decide +kernel
theorem d_R_method_8 : decode b_R_method 8 = .ok (.iload_n 3, 1) := by decide +kernel
theorem d_R_method_9 : decode b_R_method 9 = .ok (.iload 4, 2) := by decide +kernel
theorem d_R_method_11 : decode b_R_method 11 = .ok (.invokestatic 122, 3) := by decide +kernel
