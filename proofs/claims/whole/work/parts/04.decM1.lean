theorem dM_init_0 : decode cM_init 0 = .ok (.aload_n 0, 1) := by decide +kernel
theorem dM_init_1 : decode cM_init 1 = .ok (.invokespecial 1, 3) := by decide +kernel
theorem dM_init_4 : decode cM_init 4 = .ok (.aload_n 0, 1) := by decide +kernel
theorem dM_init_5 : decode cM_init 5 = .ok (.bipush 8, 2) := by decide +kernel
theorem dM_init_7 : decode cM_init 7 = .ok (.newarray .int, 2) := by decide +kernel
theorem dM_init_9 : decode cM_init 9 = .ok (.putfield 7, 3) := by decide +kernel
theorem dM_init_12 : decode cM_init 12 = .ok (.aload_n 0, 1) := by decide +kernel
theorem dM_init_13 : decode cM_init 13 = .ok (.bipush 8, 2) := by decide +kernel
theorem dM_init_15 : decode cM_init 15 = .ok (.newarray .int, 2) := by decide +kernel
theorem dM_init_17 : decode cM_init 17 = .ok (.putfield 13, 3) := by decide +kernel
theorem dM_init_20 : decode cM_init 20 = .ok (.aload_n 0, 1) := by decide +kernel
theorem dM_init_21 : decode cM_init 21 = .ok (.bipush 8, 2) := by decide +kernel
theorem dM_init_23 : decode cM_init 23 = .ok (.newarray .int, 2) := by decide +kernel
theorem dM_init_25 : decode cM_init 25 = .ok (.putfield 16, 3) := by decide +kernel
theorem dM_init_28 : decode cM_init 28 = .ok (.aload_n 0, 1) := by decide +kernel
theorem dM_init_29 : decode cM_init 29 = .ok (.sipush 8192, 3) := by decide +kernel
theorem dM_init_32 : decode cM_init 32 = .ok (.newarray .int, 2) := by decide +kernel
theorem dM_init_34 : decode cM_init 34 = .ok (.putfield 19, 3) := by decide +kernel
theorem dM_init_37 : decode cM_init 37 = .ok (.aload_n 0, 1) := by decide +kernel
theorem dM_init_38 : decode cM_init 38 = .ok (.sipush 1024, 3) := by decide +kernel
theorem dM_init_41 : decode cM_init 41 = .ok (.newarray .int, 2) := by decide +kernel
theorem dM_init_43 : decode cM_init 43 = .ok (.putfield 22, 3) := by decide +kernel
theorem dM_init_46 : decode cM_init 46 = .ok (.aload_n 0, 1) := by decide +kernel
theorem dM_init_47 : decode cM_init 47 = .ok (.sipush 1024, 3) := by decide +kernel
theorem dM_init_50 : decode cM_init 50 = .ok (.newarray .int, 2) := by decide +kernel
theorem dM_init_52 : decode cM_init 52 = .ok (.putfield 25, 3) := by decide +kernel
theorem dM_init_55 : decode cM_init 55 = .ok (.return_, 1) := by decide +kernel
theorem dM_thrown_0 : decode cM_thrown 0 = .ok (.aload_n 0, 1) := by decide +kernel
theorem dM_thrown_1 : decode cM_thrown 1 = .ok (.getfield 28, 3) := by decide +kernel
theorem dM_thrown_4 : decode cM_thrown 4 = .ok (.ireturn, 1) := by decide +kernel
theorem dM_isNumber_0 : decode cM_isNumber 0 = .ok (.iload_n 0, 1) := by decide +kernel
theorem dM_isNumber_1 : decode cM_isNumber 1 = .ok (.ifCond .lt 14, 3) := by decide +kernel
theorem dM_isNumber_4 : decode cM_isNumber 4 = .ok (.iload_n 0, 1) := by decide +kernel
theorem dM_isNumber_5 : decode cM_isNumber 5 = .ok (.sipush 256, 3) := by decide +kernel
theorem dM_isNumber_8 : decode cM_isNumber 8 = .ok (.if_icmp .ge 7, 3) := by decide +kernel
theorem dM_isNumber_11 : decode cM_isNumber 11 = .ok (.iconst 1, 1) := by decide +kernel
theorem dM_isNumber_12 : decode cM_isNumber 12 = .ok (.goto 4, 3) := by decide +kernel
theorem dM_isNumber_15 : decode cM_isNumber 15 = .ok (.iconst 0, 1) := by decide +kernel
theorem dM_isNumber_16 : decode cM_isNumber 16 = .ok (.ireturn, 1) := by decide +kernel
theorem dM_put_0 : decode cM_put 0 = .ok (.aload_n 0, 1) := by decide +kernel
theorem dM_put_1 : decode cM_put 1 = .ok (.iconst 0, 1) := by decide +kernel
theorem dM_put_2 : decode cM_put 2 = .ok (.putfield 28, 3) := by decide +kernel
theorem dM_put_5 : decode cM_put 5 = .ok (.iload_n 1, 1) := by decide +kernel
theorem dM_put_6 : decode cM_put 6 = .ok (.invokestatic 32, 3) := by decide +kernel
theorem dM_put_9 : decode cM_put 9 = .ok (.ifCond .eq 27, 3) := by decide +kernel
theorem dM_put_12 : decode cM_put 12 = .ok (.iload_n 2, 1) := by decide +kernel
theorem dM_put_13 : decode cM_put 13 = .ok (.invokestatic 32, 3) := by decide +kernel
theorem dM_put_16 : decode cM_put 16 = .ok (.ifCond .eq 20, 3) := by decide +kernel
theorem dM_put_19 : decode cM_put 19 = .ok (.iload_n 3, 1) := by decide +kernel
theorem dM_put_20 : decode cM_put 20 = .ok (.invokestatic 32, 3) := by decide +kernel
theorem dM_put_23 : decode cM_put 23 = .ok (.ifCond .eq 13, 3) := by decide +kernel
theorem dM_put_26 : decode cM_put 26 = .ok (.aload_n 0, 1) := by decide +kernel
theorem dM_put_27 : decode cM_put 27 = .ok (.getfield 36, 3) := by decide +kernel
theorem dM_put_30 : decode cM_put 30 = .ok (.sipush 1024, 3) := by decide +kernel
theorem dM_put_33 : decode cM_put 33 = .ok (.if_icmp .ne 5, 3) := by decide +kernel
theorem dM_put_36 : decode cM_put 36 = .ok (.iconst (-1), 1) := by decide +kernel
theorem dM_put_37 : decode cM_put 37 = .ok (.ireturn, 1) := by decide +kernel
theorem dM_put_38 : decode cM_put 38 = .ok (.aload_n 0, 1) := by decide +kernel
theorem dM_put_39 : decode cM_put 39 = .ok (.getfield 22, 3) := by decide +kernel
theorem dM_put_42 : decode cM_put 42 = .ok (.aload_n 0, 1) := by decide +kernel
theorem dM_put_43 : decode cM_put 43 = .ok (.getfield 36, 3) := by decide +kernel
theorem dM_put_46 : decode cM_put 46 = .ok (.iload_n 1, 1) := by decide +kernel
theorem dM_put_47 : decode cM_put 47 = .ok (.ldc 39, 2) := by decide +kernel
theorem dM_put_49 : decode cM_put 49 = .ok (.imul, 1) := by decide +kernel
theorem dM_put_50 : decode cM_put 50 = .ok (.iload_n 2, 1) := by decide +kernel
theorem dM_put_51 : decode cM_put 51 = .ok (.sipush 256, 3) := by decide +kernel
theorem dM_put_54 : decode cM_put 54 = .ok (.imul, 1) := by decide +kernel
theorem dM_put_55 : decode cM_put 55 = .ok (.iadd, 1) := by decide +kernel
theorem dM_put_56 : decode cM_put 56 = .ok (.iload_n 3, 1) := by decide +kernel
theorem dM_put_57 : decode cM_put 57 = .ok (.iadd, 1) := by decide +kernel
theorem dM_put_58 : decode cM_put 58 = .ok (.iastore, 1) := by decide +kernel
theorem dM_put_59 : decode cM_put 59 = .ok (.aload_n 0, 1) := by decide +kernel
theorem dM_put_60 : decode cM_put 60 = .ok (.dup, 1) := by decide +kernel
theorem dM_put_61 : decode cM_put 61 = .ok (.getfield 36, 3) := by decide +kernel
theorem dM_put_64 : decode cM_put 64 = .ok (.iconst 1, 1) := by decide +kernel
theorem dM_put_65 : decode cM_put 65 = .ok (.iadd, 1) := by decide +kernel
theorem dM_put_66 : decode cM_put 66 = .ok (.putfield 36, 3) := by decide +kernel
theorem dM_put_69 : decode cM_put 69 = .ok (.aload_n 0, 1) := by decide +kernel
theorem dM_put_70 : decode cM_put 70 = .ok (.getfield 36, 3) := by decide +kernel
theorem dM_put_73 : decode cM_put 73 = .ok (.ireturn, 1) := by decide +kernel
theorem dM_add_0 : decode cM_add 0 = .ok (.aload_n 0, 1) := by decide +kernel
theorem dM_add_1 : decode cM_add 1 = .ok (.iconst 0, 1) := by decide +kernel
theorem dM_add_2 : decode cM_add 2 = .ok (.putfield 28, 3) := by decide +kernel
theorem dM_add_5 : decode cM_add 5 = .ok (.aload_n 0, 1) := by decide +kernel
theorem dM_add_6 : decode cM_add 6 = .ok (.getfield 36, 3) := by decide +kernel
theorem dM_add_9 : decode cM_add 9 = .ok (.istore 4, 2) := by decide +kernel
theorem dM_add_11 : decode cM_add 11 = .ok (.aload_n 0, 1) := by decide +kernel
theorem dM_add_12 : decode cM_add 12 = .ok (.iconst 0, 1) := by decide +kernel
theorem dM_add_13 : decode cM_add 13 = .ok (.putfield 36, 3) := by decide +kernel
theorem dM_add_16 : decode cM_add 16 = .ok (.iload_n 1, 1) := by decide +kernel
theorem dM_add_17 : decode cM_add 17 = .ok (.iconst 1, 1) := by decide +kernel
theorem dM_add_18 : decode cM_add 18 = .ok (.if_icmp .eq 31, 3) := by decide +kernel
theorem dM_add_21 : decode cM_add 21 = .ok (.iload_n 1, 1) := by decide +kernel
theorem dM_add_22 : decode cM_add 22 = .ok (.iconst 2, 1) := by decide +kernel
theorem dM_add_23 : decode cM_add 23 = .ok (.if_icmp .eq 26, 3) := by decide +kernel
theorem dM_add_26 : decode cM_add 26 = .ok (.iload_n 1, 1) := by decide +kernel
theorem dM_add_27 : decode cM_add 27 = .ok (.iconst 4, 1) := by decide +kernel
theorem dM_add_28 : decode cM_add 28 = .ok (.if_icmp .eq 21, 3) := by decide +kernel
theorem dM_add_31 : decode cM_add 31 = .ok (.iload_n 1, 1) := by decide +kernel
theorem dM_add_32 : decode cM_add 32 = .ok (.bipush 8, 2) := by decide +kernel
theorem dM_add_34 : decode cM_add 34 = .ok (.if_icmp .eq 15, 3) := by decide +kernel
theorem dM_add_37 : decode cM_add 37 = .ok (.iload_n 1, 1) := by decide +kernel
theorem dM_add_38 : decode cM_add 38 = .ok (.bipush 16, 2) := by decide +kernel
theorem dM_add_40 : decode cM_add 40 = .ok (.if_icmp .eq 9, 3) := by decide +kernel
theorem dM_add_43 : decode cM_add 43 = .ok (.iload_n 1, 1) := by decide +kernel
theorem dM_add_44 : decode cM_add 44 = .ok (.bipush 32, 2) := by decide +kernel
theorem dM_add_46 : decode cM_add 46 = .ok (.if_icmp .ne 7, 3) := by decide +kernel
theorem dM_add_49 : decode cM_add 49 = .ok (.iconst 1, 1) := by decide +kernel
theorem dM_add_50 : decode cM_add 50 = .ok (.goto 4, 3) := by decide +kernel
theorem dM_add_53 : decode cM_add 53 = .ok (.iconst 0, 1) := by decide +kernel
theorem dM_add_54 : decode cM_add 54 = .ok (.istore 5, 2) := by decide +kernel
theorem dM_add_56 : decode cM_add 56 = .ok (.aload_n 0, 1) := by decide +kernel
theorem dM_add_57 : decode cM_add 57 = .ok (.getfield 40, 3) := by decide +kernel
theorem dM_add_60 : decode cM_add 60 = .ok (.bipush 8, 2) := by decide +kernel
theorem dM_add_62 : decode cM_add 62 = .ok (.if_icmp .eq 34, 3) := by decide +kernel
theorem dM_add_65 : decode cM_add 65 = .ok (.iload 5, 2) := by decide +kernel
theorem dM_add_67 : decode cM_add 67 = .ok (.ifCond .eq 29, 3) := by decide +kernel
theorem dM_add_70 : decode cM_add 70 = .ok (.iload_n 2, 1) := by decide +kernel
theorem dM_add_71 : decode cM_add 71 = .ok (.ifCond .lt 25, 3) := by decide +kernel
theorem dM_add_74 : decode cM_add 74 = .ok (.iload_n 2, 1) := by decide +kernel
theorem dM_add_75 : decode cM_add 75 = .ok (.iconst 2, 1) := by decide +kernel
theorem dM_add_76 : decode cM_add 76 = .ok (.if_icmp .gt 20, 3) := by decide +kernel
theorem dM_add_79 : decode cM_add 79 = .ok (.iload_n 3, 1) := by decide +kernel
theorem dM_add_80 : decode cM_add 80 = .ok (.ifCond .lt 16, 3) := by decide +kernel
theorem dM_add_83 : decode cM_add 83 = .ok (.iload_n 3, 1) := by decide +kernel
theorem dM_add_84 : decode cM_add 84 = .ok (.iconst 1, 1) := by decide +kernel
theorem dM_add_85 : decode cM_add 85 = .ok (.if_icmp .gt 11, 3) := by decide +kernel
theorem dM_add_88 : decode cM_add 88 = .ok (.iload 4, 2) := by decide +kernel
theorem dM_add_90 : decode cM_add 90 = .ok (.iload_n 1, 1) := by decide +kernel
theorem dM_add_91 : decode cM_add 91 = .ok (.iload_n 1, 1) := by decide +kernel
theorem dM_add_92 : decode cM_add 92 = .ok (.imul, 1) := by decide +kernel
theorem dM_add_93 : decode cM_add 93 = .ok (.if_icmp .eq 5, 3) := by decide +kernel
theorem dM_add_96 : decode cM_add 96 = .ok (.iconst (-1), 1) := by decide +kernel
theorem dM_add_97 : decode cM_add 97 = .ok (.ireturn, 1) := by decide +kernel
theorem dM_add_98 : decode cM_add 98 = .ok (.aload_n 0, 1) := by decide +kernel
theorem dM_add_99 : decode cM_add 99 = .ok (.getfield 7, 3) := by decide +kernel
theorem dM_add_102 : decode cM_add 102 = .ok (.aload_n 0, 1) := by decide +kernel
theorem dM_add_103 : decode cM_add 103 = .ok (.getfield 40, 3) := by decide +kernel
theorem dM_add_106 : decode cM_add 106 = .ok (.iload_n 1, 1) := by decide +kernel
theorem dM_add_107 : decode cM_add 107 = .ok (.iastore, 1) := by decide +kernel
theorem dM_add_108 : decode cM_add 108 = .ok (.aload_n 0, 1) := by decide +kernel
theorem dM_add_109 : decode cM_add 109 = .ok (.getfield 13, 3) := by decide +kernel
theorem dM_add_112 : decode cM_add 112 = .ok (.aload_n 0, 1) := by decide +kernel
theorem dM_add_113 : decode cM_add 113 = .ok (.getfield 40, 3) := by decide +kernel
theorem dM_add_116 : decode cM_add 116 = .ok (.iload_n 2, 1) := by decide +kernel
theorem dM_add_117 : decode cM_add 117 = .ok (.iastore, 1) := by decide +kernel
theorem dM_add_118 : decode cM_add 118 = .ok (.aload_n 0, 1) := by decide +kernel
theorem dM_add_119 : decode cM_add 119 = .ok (.getfield 16, 3) := by decide +kernel
theorem dM_add_122 : decode cM_add 122 = .ok (.aload_n 0, 1) := by decide +kernel
theorem dM_add_123 : decode cM_add 123 = .ok (.getfield 40, 3) := by decide +kernel
theorem dM_add_126 : decode cM_add 126 = .ok (.iload_n 3, 1) := by decide +kernel
theorem dM_add_127 : decode cM_add 127 = .ok (.iastore, 1) := by decide +kernel
theorem dM_add_128 : decode cM_add 128 = .ok (.iconst 0, 1) := by decide +kernel
theorem dM_add_129 : decode cM_add 129 = .ok (.istore 6, 2) := by decide +kernel
theorem dM_add_131 : decode cM_add 131 = .ok (.iload 6, 2) := by decide +kernel
theorem dM_add_133 : decode cM_add 133 = .ok (.iload 4, 2) := by decide +kernel
theorem dM_add_135 : decode cM_add 135 = .ok (.if_icmp .ge 32, 3) := by decide +kernel
theorem dM_add_138 : decode cM_add 138 = .ok (.aload_n 0, 1) := by decide +kernel
theorem dM_add_139 : decode cM_add 139 = .ok (.getfield 19, 3) := by decide +kernel
theorem dM_add_142 : decode cM_add 142 = .ok (.sipush 1024, 3) := by decide +kernel
theorem dM_add_145 : decode cM_add 145 = .ok (.aload_n 0, 1) := by decide +kernel
theorem dM_add_146 : decode cM_add 146 = .ok (.getfield 40, 3) := by decide +kernel
theorem dM_add_149 : decode cM_add 149 = .ok (.imul, 1) := by decide +kernel
theorem dM_add_150 : decode cM_add 150 = .ok (.iload 6, 2) := by decide +kernel
theorem dM_add_152 : decode cM_add 152 = .ok (.iadd, 1) := by decide +kernel
theorem dM_add_153 : decode cM_add 153 = .ok (.aload_n 0, 1) := by decide +kernel
theorem dM_add_154 : decode cM_add 154 = .ok (.getfield 22, 3) := by decide +kernel
theorem dM_add_157 : decode cM_add 157 = .ok (.iload 6, 2) := by decide +kernel
theorem dM_add_159 : decode cM_add 159 = .ok (.iaload, 1) := by decide +kernel
theorem dM_add_160 : decode cM_add 160 = .ok (.iastore, 1) := by decide +kernel
theorem dM_add_161 : decode cM_add 161 = .ok (.iinc 6 1, 3) := by decide +kernel
theorem dM_add_164 : decode cM_add 164 = .ok (.goto (-33), 3) := by decide +kernel
theorem dM_add_167 : decode cM_add 167 = .ok (.aload_n 0, 1) := by decide +kernel
theorem dM_add_168 : decode cM_add 168 = .ok (.dup, 1) := by decide +kernel
theorem dM_add_169 : decode cM_add 169 = .ok (.getfield 40, 3) := by decide +kernel
theorem dM_add_172 : decode cM_add 172 = .ok (.iconst 1, 1) := by decide +kernel
theorem dM_add_173 : decode cM_add 173 = .ok (.iadd, 1) := by decide +kernel
theorem dM_add_174 : decode cM_add 174 = .ok (.putfield 40, 3) := by decide +kernel
theorem dM_add_177 : decode cM_add 177 = .ok (.aload_n 0, 1) := by decide +kernel
theorem dM_add_178 : decode cM_add 178 = .ok (.getfield 40, 3) := by decide +kernel
theorem dM_add_181 : decode cM_add 181 = .ok (.iconst 1, 1) := by decide +kernel
theorem dM_add_182 : decode cM_add 182 = .ok (.isub, 1) := by decide +kernel
theorem dM_add_183 : decode cM_add 183 = .ok (.ireturn, 1) := by decide +kernel
theorem dM_clear_0 : decode cM_clear 0 = .ok (.aload_n 0, 1) := by decide +kernel
theorem dM_clear_1 : decode cM_clear 1 = .ok (.iconst 0, 1) := by decide +kernel
theorem dM_clear_2 : decode cM_clear 2 = .ok (.putfield 28, 3) := by decide +kernel
theorem dM_clear_5 : decode cM_clear 5 = .ok (.aload_n 0, 1) := by decide +kernel
theorem dM_clear_6 : decode cM_clear 6 = .ok (.iconst 0, 1) := by decide +kernel
theorem dM_clear_7 : decode cM_clear 7 = .ok (.putfield 40, 3) := by decide +kernel
theorem dM_clear_10 : decode cM_clear 10 = .ok (.return_, 1) := by decide +kernel
theorem dM_isThere_0 : decode cM_isThere 0 = .ok (.iload_n 1, 1) := by decide +kernel
theorem dM_isThere_1 : decode cM_isThere 1 = .ok (.ifCond .lt 15, 3) := by decide +kernel
theorem dM_isThere_4 : decode cM_isThere 4 = .ok (.iload_n 1, 1) := by decide +kernel
theorem dM_isThere_5 : decode cM_isThere 5 = .ok (.aload_n 0, 1) := by decide +kernel
theorem dM_isThere_6 : decode cM_isThere 6 = .ok (.getfield 40, 3) := by decide +kernel
theorem dM_isThere_9 : decode cM_isThere 9 = .ok (.if_icmp .ge 7, 3) := by decide +kernel
theorem dM_isThere_12 : decode cM_isThere 12 = .ok (.iconst 1, 1) := by decide +kernel
theorem dM_isThere_13 : decode cM_isThere 13 = .ok (.goto 4, 3) := by decide +kernel
theorem dM_isThere_16 : decode cM_isThere 16 = .ok (.iconst 0, 1) := by decide +kernel
theorem dM_isThere_17 : decode cM_isThere 17 = .ok (.ireturn, 1) := by decide +kernel
theorem dM_last_0 : decode cM_last 0 = .ok (.iconst 0, 1) := by decide +kernel
theorem dM_last_1 : decode cM_last 1 = .ok (.istore_n 2, 1) := by decide +kernel
theorem dM_last_2 : decode cM_last 2 = .ok (.aload_n 0, 1) := by decide +kernel
theorem dM_last_3 : decode cM_last 3 = .ok (.getfield 7, 3) := by decide +kernel
theorem dM_last_6 : decode cM_last 6 = .ok (.iload_n 1, 1) := by decide +kernel
theorem dM_last_7 : decode cM_last 7 = .ok (.iaload, 1) := by decide +kernel
theorem dM_last_8 : decode cM_last 8 = .ok (.istore_n 3, 1) := by decide +kernel
theorem dM_last_9 : decode cM_last 9 = .ok (.iload_n 3, 1) := by decide +kernel
theorem dM_last_10 : decode cM_last 10 = .ok (.iconst 1, 1) := by decide +kernel
theorem dM_last_11 : decode cM_last 11 = .ok (.if_icmp .le 13, 3) := by decide +kernel
theorem dM_last_14 : decode cM_last 14 = .ok (.iinc 2 1, 3) := by decide +kernel
theorem dM_last_17 : decode cM_last 17 = .ok (.iload_n 3, 1) := by decide +kernel
theorem dM_last_18 : decode cM_last 18 = .ok (.iconst 2, 1) := by decide +kernel
theorem dM_last_19 : decode cM_last 19 = .ok (.idiv, 1) := by decide +kernel
theorem dM_last_20 : decode cM_last 20 = .ok (.istore_n 3, 1) := by decide +kernel
theorem dM_last_21 : decode cM_last 21 = .ok (.goto (-12), 3) := by decide +kernel
theorem dM_last_24 : decode cM_last 24 = .ok (.iload_n 2, 1) := by decide +kernel
theorem dM_last_25 : decode cM_last 25 = .ok (.ireturn, 1) := by decide +kernel
theorem dM_part_0 : decode cM_part 0 = .ok (.iload_n 1, 1) := by decide +kernel
theorem dM_part_1 : decode cM_part 1 = .ok (.ifCond .ne 10, 3) := by decide +kernel
theorem dM_part_4 : decode cM_part 4 = .ok (.iload_n 0, 1) := by decide +kernel
theorem dM_part_5 : decode cM_part 5 = .ok (.ldc 39, 2) := by decide +kernel
theorem dM_part_7 : decode cM_part 7 = .ok (.idiv, 1) := by decide +kernel
theorem dM_part_8 : decode cM_part 8 = .ok (.goto 25, 3) := by decide +kernel
theorem dM_part_11 : decode cM_part 11 = .ok (.iload_n 1, 1) := by decide +kernel
theorem dM_part_12 : decode cM_part 12 = .ok (.iconst 1, 1) := by decide +kernel
theorem dM_part_13 : decode cM_part 13 = .ok (.if_icmp .ne 15, 3) := by decide +kernel
theorem dM_part_16 : decode cM_part 16 = .ok (.iload_n 0, 1) := by decide +kernel
theorem dM_part_17 : decode cM_part 17 = .ok (.sipush 256, 3) := by decide +kernel
theorem dM_part_20 : decode cM_part 20 = .ok (.idiv, 1) := by decide +kernel
theorem dM_part_21 : decode cM_part 21 = .ok (.sipush 256, 3) := by decide +kernel
theorem dM_part_24 : decode cM_part 24 = .ok (.irem, 1) := by decide +kernel
theorem dM_part_25 : decode cM_part 25 = .ok (.goto 8, 3) := by decide +kernel
theorem dM_part_28 : decode cM_part 28 = .ok (.iload_n 0, 1) := by decide +kernel
theorem dM_part_29 : decode cM_part 29 = .ok (.sipush 256, 3) := by decide +kernel
theorem dM_part_32 : decode cM_part 32 = .ok (.irem, 1) := by decide +kernel
theorem dM_part_33 : decode cM_part 33 = .ok (.ireturn, 1) := by decide +kernel
theorem dM_halve_0 : decode cM_halve 0 = .ok (.aload_n 0, 1) := by decide +kernel
theorem dM_halve_1 : decode cM_halve 1 = .ok (.getfield 43, 3) := by decide +kernel
theorem dM_halve_4 : decode cM_halve 4 = .ok (.iconst 2, 1) := by decide +kernel
theorem dM_halve_5 : decode cM_halve 5 = .ok (.idiv, 1) := by decide +kernel
theorem dM_halve_6 : decode cM_halve 6 = .ok (.istore_n 1, 1) := by decide +kernel
theorem dM_halve_7 : decode cM_halve 7 = .ok (.iconst 0, 1) := by decide +kernel
theorem dM_halve_8 : decode cM_halve 8 = .ok (.istore_n 2, 1) := by decide +kernel
theorem dM_halve_9 : decode cM_halve 9 = .ok (.iload_n 2, 1) := by decide +kernel
theorem dM_halve_10 : decode cM_halve 10 = .ok (.iload_n 1, 1) := by decide +kernel
theorem dM_halve_11 : decode cM_halve 11 = .ok (.if_icmp .ge 120, 3) := by decide +kernel
theorem dM_halve_14 : decode cM_halve 14 = .ok (.iconst 0, 1) := by decide +kernel
theorem dM_halve_15 : decode cM_halve 15 = .ok (.istore_n 3, 1) := by decide +kernel
theorem dM_halve_16 : decode cM_halve 16 = .ok (.iload_n 3, 1) := by decide +kernel
theorem dM_halve_17 : decode cM_halve 17 = .ok (.iload_n 1, 1) := by decide +kernel
theorem dM_halve_18 : decode cM_halve 18 = .ok (.if_icmp .ge 107, 3) := by decide +kernel
theorem dM_halve_21 : decode cM_halve 21 = .ok (.iconst 0, 1) := by decide +kernel
theorem dM_halve_22 : decode cM_halve 22 = .ok (.istore 4, 2) := by decide +kernel
theorem dM_halve_24 : decode cM_halve 24 = .ok (.iconst 0, 1) := by decide +kernel
theorem dM_halve_25 : decode cM_halve 25 = .ok (.istore 5, 2) := by decide +kernel
theorem dM_halve_27 : decode cM_halve 27 = .ok (.iload 5, 2) := by decide +kernel
theorem dM_halve_29 : decode cM_halve 29 = .ok (.iconst 3, 1) := by decide +kernel
theorem dM_halve_30 : decode cM_halve 30 = .ok (.if_icmp .ge 77, 3) := by decide +kernel
theorem dM_halve_33 : decode cM_halve 33 = .ok (.iconst 0, 1) := by decide +kernel
theorem dM_halve_34 : decode cM_halve 34 = .ok (.istore 6, 2) := by decide +kernel
theorem dM_halve_36 : decode cM_halve 36 = .ok (.iconst 0, 1) := by decide +kernel
theorem dM_halve_37 : decode cM_halve 37 = .ok (.istore 7, 2) := by decide +kernel
theorem dM_halve_39 : decode cM_halve 39 = .ok (.iload 7, 2) := by decide +kernel
theorem dM_halve_41 : decode cM_halve 41 = .ok (.iconst 4, 1) := by decide +kernel
theorem dM_halve_42 : decode cM_halve 42 = .ok (.if_icmp .ge 46, 3) := by decide +kernel
theorem dM_halve_45 : decode cM_halve 45 = .ok (.iload 6, 2) := by decide +kernel
theorem dM_halve_47 : decode cM_halve 47 = .ok (.aload_n 0, 1) := by decide +kernel
theorem dM_halve_48 : decode cM_halve 48 = .ok (.getfield 25, 3) := by decide +kernel
theorem dM_halve_51 : decode cM_halve 51 = .ok (.iconst 2, 1) := by decide +kernel
theorem dM_halve_52 : decode cM_halve 52 = .ok (.iload_n 2, 1) := by decide +kernel
theorem dM_halve_53 : decode cM_halve 53 = .ok (.imul, 1) := by decide +kernel
theorem dM_halve_54 : decode cM_halve 54 = .ok (.iload 7, 2) := by decide +kernel
theorem dM_halve_56 : decode cM_halve 56 = .ok (.iconst 2, 1) := by decide +kernel
theorem dM_halve_57 : decode cM_halve 57 = .ok (.idiv, 1) := by decide +kernel
theorem dM_halve_58 : decode cM_halve 58 = .ok (.iadd, 1) := by decide +kernel
theorem dM_halve_59 : decode cM_halve 59 = .ok (.aload_n 0, 1) := by decide +kernel
theorem dM_halve_60 : decode cM_halve 60 = .ok (.getfield 43, 3) := by decide +kernel
theorem dM_halve_63 : decode cM_halve 63 = .ok (.imul, 1) := by decide +kernel
theorem dM_halve_64 : decode cM_halve 64 = .ok (.iconst 2, 1) := by decide +kernel
theorem dM_halve_65 : decode cM_halve 65 = .ok (.iload_n 3, 1) := by decide +kernel
theorem dM_halve_66 : decode cM_halve 66 = .ok (.imul, 1) := by decide +kernel
theorem dM_halve_67 : decode cM_halve 67 = .ok (.iadd, 1) := by decide +kernel
theorem dM_halve_68 : decode cM_halve 68 = .ok (.iload 7, 2) := by decide +kernel
theorem dM_halve_70 : decode cM_halve 70 = .ok (.iconst 2, 1) := by decide +kernel
theorem dM_halve_71 : decode cM_halve 71 = .ok (.irem, 1) := by decide +kernel
theorem dM_halve_72 : decode cM_halve 72 = .ok (.iadd, 1) := by decide +kernel
theorem dM_halve_73 : decode cM_halve 73 = .ok (.iaload, 1) := by decide +kernel
theorem dM_halve_74 : decode cM_halve 74 = .ok (.iload 5, 2) := by decide +kernel
theorem dM_halve_76 : decode cM_halve 76 = .ok (.invokestatic 46, 3) := by decide +kernel
theorem dM_halve_79 : decode cM_halve 79 = .ok (.iadd, 1) := by decide +kernel
theorem dM_halve_80 : decode cM_halve 80 = .ok (.istore 6, 2) := by decide +kernel
theorem dM_halve_82 : decode cM_halve 82 = .ok (.iinc 7 1, 3) := by decide +kernel
theorem dM_halve_85 : decode cM_halve 85 = .ok (.goto (-46), 3) := by decide +kernel
theorem dM_halve_88 : decode cM_halve 88 = .ok (.iload 4, 2) := by decide +kernel
theorem dM_halve_90 : decode cM_halve 90 = .ok (.sipush 256, 3) := by decide +kernel
theorem dM_halve_93 : decode cM_halve 93 = .ok (.imul, 1) := by decide +kernel
theorem dM_halve_94 : decode cM_halve 94 = .ok (.iload 6, 2) := by decide +kernel
theorem dM_halve_96 : decode cM_halve 96 = .ok (.iconst 4, 1) := by decide +kernel
theorem dM_halve_97 : decode cM_halve 97 = .ok (.idiv, 1) := by decide +kernel
theorem dM_halve_98 : decode cM_halve 98 = .ok (.iadd, 1) := by decide +kernel
theorem dM_halve_99 : decode cM_halve 99 = .ok (.istore 4, 2) := by decide +kernel
theorem dM_halve_101 : decode cM_halve 101 = .ok (.iinc 5 1, 3) := by decide +kernel
theorem dM_halve_104 : decode cM_halve 104 = .ok (.goto (-77), 3) := by decide +kernel
theorem dM_halve_107 : decode cM_halve 107 = .ok (.aload_n 0, 1) := by decide +kernel
theorem dM_halve_108 : decode cM_halve 108 = .ok (.getfield 25, 3) := by decide +kernel
theorem dM_halve_111 : decode cM_halve 111 = .ok (.iload_n 2, 1) := by decide +kernel
theorem dM_halve_112 : decode cM_halve 112 = .ok (.iload_n 1, 1) := by decide +kernel
theorem dM_halve_113 : decode cM_halve 113 = .ok (.imul, 1) := by decide +kernel
theorem dM_halve_114 : decode cM_halve 114 = .ok (.iload_n 3, 1) := by decide +kernel
theorem dM_halve_115 : decode cM_halve 115 = .ok (.iadd, 1) := by decide +kernel
theorem dM_halve_116 : decode cM_halve 116 = .ok (.iload 4, 2) := by decide +kernel
theorem dM_halve_118 : decode cM_halve 118 = .ok (.iastore, 1) := by decide +kernel
theorem dM_halve_119 : decode cM_halve 119 = .ok (.iinc 3 1, 3) := by decide +kernel
theorem dM_halve_122 : decode cM_halve 122 = .ok (.goto (-106), 3) := by decide +kernel
theorem dM_halve_125 : decode cM_halve 125 = .ok (.iinc 2 1, 3) := by decide +kernel
theorem dM_halve_128 : decode cM_halve 128 = .ok (.goto (-119), 3) := by decide +kernel
theorem dM_halve_131 : decode cM_halve 131 = .ok (.aload_n 0, 1) := by decide +kernel
theorem dM_halve_132 : decode cM_halve 132 = .ok (.iload_n 1, 1) := by decide +kernel
theorem dM_halve_133 : decode cM_halve 133 = .ok (.putfield 43, 3) := by decide +kernel
theorem dM_halve_136 : decode cM_halve 136 = .ok (.return_, 1) := by decide +kernel
theorem dM_makes_0 : decode cM_makes 0 = .ok (.aload_n 0, 1) := by decide +kernel
theorem dM_makes_1 : decode cM_makes 1 = .ok (.aload_n 0, 1) := by decide +kernel
theorem dM_makes_2 : decode cM_makes 2 = .ok (.getfield 7, 3) := by decide +kernel
theorem dM_makes_5 : decode cM_makes 5 = .ok (.iload_n 1, 1) := by decide +kernel
theorem dM_makes_6 : decode cM_makes 6 = .ok (.iaload, 1) := by decide +kernel
theorem dM_makes_7 : decode cM_makes 7 = .ok (.putfield 43, 3) := by decide +kernel
theorem dM_makes_10 : decode cM_makes 10 = .ok (.iconst 0, 1) := by decide +kernel
theorem dM_makes_11 : decode cM_makes 11 = .ok (.istore_n 3, 1) := by decide +kernel
theorem dM_makes_12 : decode cM_makes 12 = .ok (.iload_n 3, 1) := by decide +kernel
theorem dM_makes_13 : decode cM_makes 13 = .ok (.aload_n 0, 1) := by decide +kernel
theorem dM_makes_14 : decode cM_makes 14 = .ok (.getfield 43, 3) := by decide +kernel
theorem dM_makes_17 : decode cM_makes 17 = .ok (.aload_n 0, 1) := by decide +kernel
theorem dM_makes_18 : decode cM_makes 18 = .ok (.getfield 43, 3) := by decide +kernel
theorem dM_makes_21 : decode cM_makes 21 = .ok (.imul, 1) := by decide +kernel
theorem dM_makes_22 : decode cM_makes 22 = .ok (.if_icmp .ge 27, 3) := by decide +kernel
theorem dM_makes_25 : decode cM_makes 25 = .ok (.aload_n 0, 1) := by decide +kernel
theorem dM_makes_26 : decode cM_makes 26 = .ok (.getfield 25, 3) := by decide +kernel
theorem dM_makes_29 : decode cM_makes 29 = .ok (.iload_n 3, 1) := by decide +kernel
theorem dM_makes_30 : decode cM_makes 30 = .ok (.aload_n 0, 1) := by decide +kernel
theorem dM_makes_31 : decode cM_makes 31 = .ok (.getfield 19, 3) := by decide +kernel
theorem dM_makes_34 : decode cM_makes 34 = .ok (.sipush 1024, 3) := by decide +kernel
theorem dM_makes_37 : decode cM_makes 37 = .ok (.iload_n 1, 1) := by decide +kernel
theorem dM_makes_38 : decode cM_makes 38 = .ok (.imul, 1) := by decide +kernel
theorem dM_makes_39 : decode cM_makes 39 = .ok (.iload_n 3, 1) := by decide +kernel
theorem dM_makes_40 : decode cM_makes 40 = .ok (.iadd, 1) := by decide +kernel
theorem dM_makes_41 : decode cM_makes 41 = .ok (.iaload, 1) := by decide +kernel
theorem dM_makes_42 : decode cM_makes 42 = .ok (.iastore, 1) := by decide +kernel
theorem dM_makes_43 : decode cM_makes 43 = .ok (.iinc 3 1, 3) := by decide +kernel
theorem dM_makes_46 : decode cM_makes 46 = .ok (.goto (-34), 3) := by decide +kernel
theorem dM_makes_49 : decode cM_makes 49 = .ok (.iconst 0, 1) := by decide +kernel
theorem dM_makes_50 : decode cM_makes 50 = .ok (.istore_n 3, 1) := by decide +kernel
theorem dM_makes_51 : decode cM_makes 51 = .ok (.iload_n 3, 1) := by decide +kernel
theorem dM_makes_52 : decode cM_makes 52 = .ok (.iload_n 2, 1) := by decide +kernel
theorem dM_makes_53 : decode cM_makes 53 = .ok (.if_icmp .ge 13, 3) := by decide +kernel
theorem dM_makes_56 : decode cM_makes 56 = .ok (.aload_n 0, 1) := by decide +kernel
theorem dM_makes_57 : decode cM_makes 57 = .ok (.invokevirtual 50, 3) := by decide +kernel
theorem dM_makes_60 : decode cM_makes 60 = .ok (.iinc 3 1, 3) := by decide +kernel
theorem dM_makes_63 : decode cM_makes 63 = .ok (.goto (-12), 3) := by decide +kernel
theorem dM_makes_66 : decode cM_makes 66 = .ok (.return_, 1) := by decide +kernel
