theorem dM_level_0 : decode cM_level 0 = .ok (.aload_n 0, 1) := by decide +kernel
theorem dM_level_1 : decode cM_level 1 = .ok (.aload_n 0, 1) := by decide +kernel
theorem dM_level_2 : decode cM_level 2 = .ok (.iload_n 1, 1) := by decide +kernel
theorem dM_level_3 : decode cM_level 3 = .ok (.invokevirtual 53, 3) := by decide +kernel
theorem dM_level_6 : decode cM_level 6 = .ok (.ifCond .ne 7, 3) := by decide +kernel
theorem dM_level_9 : decode cM_level 9 = .ok (.iconst 1, 1) := by decide +kernel
theorem dM_level_10 : decode cM_level 10 = .ok (.goto 35, 3) := by decide +kernel
theorem dM_level_13 : decode cM_level 13 = .ok (.lload_n 2, 1) := by decide +kernel
theorem dM_level_14 : decode cM_level 14 = .ok (.lconst 0, 1) := by decide +kernel
theorem dM_level_15 : decode cM_level 15 = .ok (.lcmp, 1) := by decide +kernel
theorem dM_level_16 : decode cM_level 16 = .ok (.ifCond .lt 24, 3) := by decide +kernel
theorem dM_level_19 : decode cM_level 19 = .ok (.lload_n 2, 1) := by decide +kernel
theorem dM_level_20 : decode cM_level 20 = .ok (.ldc2_w 56, 3) := by decide +kernel
theorem dM_level_23 : decode cM_level 23 = .ok (.lcmp, 1) := by decide +kernel
theorem dM_level_24 : decode cM_level 24 = .ok (.ifCond .gt 16, 3) := by decide +kernel
theorem dM_level_27 : decode cM_level 27 = .ok (.iload 4, 2) := by decide +kernel
theorem dM_level_29 : decode cM_level 29 = .ok (.iconst 1, 1) := by decide +kernel
theorem dM_level_30 : decode cM_level 30 = .ok (.if_icmp .lt 10, 3) := by decide +kernel
theorem dM_level_33 : decode cM_level 33 = .ok (.iload 4, 2) := by decide +kernel
theorem dM_level_35 : decode cM_level 35 = .ok (.ldc 58, 2) := by decide +kernel
theorem dM_level_37 : decode cM_level 37 = .ok (.if_icmp .le 7, 3) := by decide +kernel
theorem dM_level_40 : decode cM_level 40 = .ok (.iconst 2, 1) := by decide +kernel
theorem dM_level_41 : decode cM_level 41 = .ok (.goto 4, 3) := by decide +kernel
theorem dM_level_44 : decode cM_level 44 = .ok (.iconst 0, 1) := by decide +kernel
theorem dM_level_45 : decode cM_level 45 = .ok (.putfield 28, 3) := by decide +kernel
theorem dM_level_48 : decode cM_level 48 = .ok (.aload_n 0, 1) := by decide +kernel
theorem dM_level_49 : decode cM_level 49 = .ok (.getfield 28, 3) := by decide +kernel
theorem dM_level_52 : decode cM_level 52 = .ok (.ifCond .eq 5, 3) := by decide +kernel
theorem dM_level_55 : decode cM_level 55 = .ok (.iconst 0, 1) := by decide +kernel
theorem dM_level_56 : decode cM_level 56 = .ok (.ireturn, 1) := by decide +kernel
theorem dM_level_57 : decode cM_level 57 = .ok (.lload_n 2, 1) := by decide +kernel
theorem dM_level_58 : decode cM_level 58 = .ok (.aload_n 0, 1) := by decide +kernel
theorem dM_level_59 : decode cM_level 59 = .ok (.getfield 7, 3) := by decide +kernel
theorem dM_level_62 : decode cM_level 62 = .ok (.iload_n 1, 1) := by decide +kernel
theorem dM_level_63 : decode cM_level 63 = .ok (.iaload, 1) := by decide +kernel
theorem dM_level_64 : decode cM_level 64 = .ok (.i2l, 1) := by decide +kernel
theorem dM_level_65 : decode cM_level 65 = .ok (.lmul, 1) := by decide +kernel
theorem dM_level_66 : decode cM_level 66 = .ok (.aload_n 0, 1) := by decide +kernel
theorem dM_level_67 : decode cM_level 67 = .ok (.getfield 7, 3) := by decide +kernel
theorem dM_level_70 : decode cM_level 70 = .ok (.iload_n 1, 1) := by decide +kernel
theorem dM_level_71 : decode cM_level 71 = .ok (.iaload, 1) := by decide +kernel
theorem dM_level_72 : decode cM_level 72 = .ok (.i2l, 1) := by decide +kernel
theorem dM_level_73 : decode cM_level 73 = .ok (.lmul, 1) := by decide +kernel
theorem dM_level_74 : decode cM_level 74 = .ok (.lstore 5, 2) := by decide +kernel
theorem dM_level_76 : decode cM_level 76 = .ok (.iload 4, 2) := by decide +kernel
theorem dM_level_78 : decode cM_level 78 = .ok (.i2l, 1) := by decide +kernel
theorem dM_level_79 : decode cM_level 79 = .ok (.ldc2_w 59, 3) := by decide +kernel
theorem dM_level_82 : decode cM_level 82 = .ok (.lmul, 1) := by decide +kernel
theorem dM_level_83 : decode cM_level 83 = .ok (.lstore 7, 2) := by decide +kernel
theorem dM_level_85 : decode cM_level 85 = .ok (.iconst 0, 1) := by decide +kernel
theorem dM_level_86 : decode cM_level 86 = .ok (.istore 9, 2) := by decide +kernel
theorem dM_level_88 : decode cM_level 88 = .ok (.iload 9, 2) := by decide +kernel
theorem dM_level_90 : decode cM_level 90 = .ok (.aload_n 0, 1) := by decide +kernel
theorem dM_level_91 : decode cM_level 91 = .ok (.iload_n 1, 1) := by decide +kernel
theorem dM_level_92 : decode cM_level 92 = .ok (.invokevirtual 61, 3) := by decide +kernel
theorem dM_level_95 : decode cM_level 95 = .ok (.if_icmp .ge 25, 3) := by decide +kernel
theorem dM_level_98 : decode cM_level 98 = .ok (.lload 5, 2) := by decide +kernel
theorem dM_level_100 : decode cM_level 100 = .ok (.lload 7, 2) := by decide +kernel
theorem dM_level_102 : decode cM_level 102 = .ok (.lcmp, 1) := by decide +kernel
theorem dM_level_103 : decode cM_level 103 = .ok (.ifCond .le 17, 3) := by decide +kernel
theorem dM_level_106 : decode cM_level 106 = .ok (.lload 7, 2) := by decide +kernel
theorem dM_level_108 : decode cM_level 108 = .ok (.ldc2_w 65, 3) := by decide +kernel
theorem dM_level_111 : decode cM_level 111 = .ok (.lmul, 1) := by decide +kernel
theorem dM_level_112 : decode cM_level 112 = .ok (.lstore 7, 2) := by decide +kernel
theorem dM_level_114 : decode cM_level 114 = .ok (.iinc 9 1, 3) := by decide +kernel
theorem dM_level_117 : decode cM_level 117 = .ok (.goto (-29), 3) := by decide +kernel
theorem dM_level_120 : decode cM_level 120 = .ok (.iload 9, 2) := by decide +kernel
theorem dM_level_122 : decode cM_level 122 = .ok (.ireturn, 1) := by decide +kernel
theorem dM_div_0 : decode cM_div 0 = .ok (.lload_n 0, 1) := by decide +kernel
theorem dM_div_1 : decode cM_div 1 = .ok (.lload_n 2, 1) := by decide +kernel
theorem dM_div_2 : decode cM_div 2 = .ok (.ldiv, 1) := by decide +kernel
theorem dM_div_3 : decode cM_div 3 = .ok (.lstore 4, 2) := by decide +kernel
theorem dM_div_5 : decode cM_div 5 = .ok (.lload 4, 2) := by decide +kernel
theorem dM_div_7 : decode cM_div 7 = .ok (.lload_n 2, 1) := by decide +kernel
theorem dM_div_8 : decode cM_div 8 = .ok (.lmul, 1) := by decide +kernel
theorem dM_div_9 : decode cM_div 9 = .ok (.lload_n 0, 1) := by decide +kernel
theorem dM_div_10 : decode cM_div 10 = .ok (.lcmp, 1) := by decide +kernel
theorem dM_div_11 : decode cM_div 11 = .ok (.ifCond .le 10, 3) := by decide +kernel
theorem dM_div_14 : decode cM_div 14 = .ok (.lload 4, 2) := by decide +kernel
theorem dM_div_16 : decode cM_div 16 = .ok (.lconst 1, 1) := by decide +kernel
theorem dM_div_17 : decode cM_div 17 = .ok (.lsub, 1) := by decide +kernel
theorem dM_div_18 : decode cM_div 18 = .ok (.goto 5, 3) := by decide +kernel
theorem dM_div_21 : decode cM_div 21 = .ok (.lload 4, 2) := by decide +kernel
theorem dM_div_23 : decode cM_div 23 = .ok (.lreturn, 1) := by decide +kernel
theorem dM_into_0 : decode cM_into 0 = .ok (.aload_n 0, 1) := by decide +kernel
theorem dM_into_1 : decode cM_into 1 = .ok (.getfield 43, 3) := by decide +kernel
theorem dM_into_4 : decode cM_into 4 = .ok (.i2l, 1) := by decide +kernel
theorem dM_into_5 : decode cM_into 5 = .ok (.lstore 4, 2) := by decide +kernel
theorem dM_into_7 : decode cM_into 7 = .ok (.iload_n 1, 1) := by decide +kernel
theorem dM_into_8 : decode cM_into 8 = .ok (.ifCond .ne 16, 3) := by decide +kernel
theorem dM_into_11 : decode cM_into 11 = .ok (.lload_n 2, 1) := by decide +kernel
theorem dM_into_12 : decode cM_into 12 = .ok (.lload 4, 2) := by decide +kernel
theorem dM_into_14 : decode cM_into 14 = .ok (.lload_n 2, 1) := by decide +kernel
theorem dM_into_15 : decode cM_into 15 = .ok (.lload 4, 2) := by decide +kernel
theorem dM_into_17 : decode cM_into 17 = .ok (.invokestatic 67, 3) := by decide +kernel
theorem dM_into_20 : decode cM_into 20 = .ok (.lmul, 1) := by decide +kernel
theorem dM_into_21 : decode cM_into 21 = .ok (.lsub, 1) := by decide +kernel
theorem dM_into_22 : decode cM_into 22 = .ok (.l2i, 1) := by decide +kernel
theorem dM_into_23 : decode cM_into 23 = .ok (.ireturn, 1) := by decide +kernel
theorem dM_into_24 : decode cM_into 24 = .ok (.iload_n 1, 1) := by decide +kernel
theorem dM_into_25 : decode cM_into 25 = .ok (.iconst 1, 1) := by decide +kernel
theorem dM_into_26 : decode cM_into 26 = .ok (.if_icmp .ne 30, 3) := by decide +kernel
theorem dM_into_29 : decode cM_into 29 = .ok (.lload_n 2, 1) := by decide +kernel
theorem dM_into_30 : decode cM_into 30 = .ok (.lconst 0, 1) := by decide +kernel
theorem dM_into_31 : decode cM_into 31 = .ok (.lcmp, 1) := by decide +kernel
theorem dM_into_32 : decode cM_into 32 = .ok (.ifCond .ge 7, 3) := by decide +kernel
theorem dM_into_35 : decode cM_into 35 = .ok (.lconst 0, 1) := by decide +kernel
theorem dM_into_36 : decode cM_into 36 = .ok (.goto 18, 3) := by decide +kernel
theorem dM_into_39 : decode cM_into 39 = .ok (.lload_n 2, 1) := by decide +kernel
theorem dM_into_40 : decode cM_into 40 = .ok (.lload 4, 2) := by decide +kernel
theorem dM_into_42 : decode cM_into 42 = .ok (.lcmp, 1) := by decide +kernel
theorem dM_into_43 : decode cM_into 43 = .ok (.ifCond .lt 10, 3) := by decide +kernel
theorem dM_into_46 : decode cM_into 46 = .ok (.lload 4, 2) := by decide +kernel
theorem dM_into_48 : decode cM_into 48 = .ok (.lconst 1, 1) := by decide +kernel
theorem dM_into_49 : decode cM_into 49 = .ok (.lsub, 1) := by decide +kernel
theorem dM_into_50 : decode cM_into 50 = .ok (.goto 4, 3) := by decide +kernel
theorem dM_into_53 : decode cM_into 53 = .ok (.lload_n 2, 1) := by decide +kernel
theorem dM_into_54 : decode cM_into 54 = .ok (.l2i, 1) := by decide +kernel
theorem dM_into_55 : decode cM_into 55 = .ok (.ireturn, 1) := by decide +kernel
theorem dM_into_56 : decode cM_into 56 = .ok (.lload_n 2, 1) := by decide +kernel
theorem dM_into_57 : decode cM_into 57 = .ok (.ldc2_w 71, 3) := by decide +kernel
theorem dM_into_60 : decode cM_into 60 = .ok (.lload 4, 2) := by decide +kernel
theorem dM_into_62 : decode cM_into 62 = .ok (.lmul, 1) := by decide +kernel
theorem dM_into_63 : decode cM_into 63 = .ok (.lload_n 2, 1) := by decide +kernel
theorem dM_into_64 : decode cM_into 64 = .ok (.ldc2_w 71, 3) := by decide +kernel
theorem dM_into_67 : decode cM_into 67 = .ok (.lload 4, 2) := by decide +kernel
theorem dM_into_69 : decode cM_into 69 = .ok (.lmul, 1) := by decide +kernel
theorem dM_into_70 : decode cM_into 70 = .ok (.invokestatic 67, 3) := by decide +kernel
theorem dM_into_73 : decode cM_into 73 = .ok (.lmul, 1) := by decide +kernel
theorem dM_into_74 : decode cM_into 74 = .ok (.lsub, 1) := by decide +kernel
theorem dM_into_75 : decode cM_into 75 = .ok (.lstore 6, 2) := by decide +kernel
theorem dM_into_77 : decode cM_into 77 = .ok (.lload 6, 2) := by decide +kernel
theorem dM_into_79 : decode cM_into 79 = .ok (.lload 4, 2) := by decide +kernel
theorem dM_into_81 : decode cM_into 81 = .ok (.lcmp, 1) := by decide +kernel
theorem dM_into_82 : decode cM_into 82 = .ok (.ifCond .lt 17, 3) := by decide +kernel
theorem dM_into_85 : decode cM_into 85 = .ok (.ldc2_w 71, 3) := by decide +kernel
theorem dM_into_88 : decode cM_into 88 = .ok (.lload 4, 2) := by decide +kernel
theorem dM_into_90 : decode cM_into 90 = .ok (.lmul, 1) := by decide +kernel
theorem dM_into_91 : decode cM_into 91 = .ok (.lconst 1, 1) := by decide +kernel
theorem dM_into_92 : decode cM_into 92 = .ok (.lsub, 1) := by decide +kernel
theorem dM_into_93 : decode cM_into 93 = .ok (.lload 6, 2) := by decide +kernel
theorem dM_into_95 : decode cM_into 95 = .ok (.lsub, 1) := by decide +kernel
theorem dM_into_96 : decode cM_into 96 = .ok (.goto 5, 3) := by decide +kernel
theorem dM_into_99 : decode cM_into 99 = .ok (.lload 6, 2) := by decide +kernel
theorem dM_into_101 : decode cM_into 101 = .ok (.l2i, 1) := by decide +kernel
theorem dM_into_102 : decode cM_into 102 = .ok (.ireturn, 1) := by decide +kernel
theorem dM_soft_0 : decode cM_soft 0 = .ok (.lload_n 2, 1) := by decide +kernel
theorem dM_soft_1 : decode cM_soft 1 = .ok (.ldc2_w 73, 3) := by decide +kernel
theorem dM_soft_4 : decode cM_soft 4 = .ok (.invokestatic 67, 3) := by decide +kernel
theorem dM_soft_7 : decode cM_soft 7 = .ok (.lstore 6, 2) := by decide +kernel
theorem dM_soft_9 : decode cM_soft 9 = .ok (.lload 4, 2) := by decide +kernel
theorem dM_soft_11 : decode cM_soft 11 = .ok (.ldc2_w 73, 3) := by decide +kernel
theorem dM_soft_14 : decode cM_soft 14 = .ok (.invokestatic 67, 3) := by decide +kernel
theorem dM_soft_17 : decode cM_soft 17 = .ok (.lstore 8, 2) := by decide +kernel
theorem dM_soft_19 : decode cM_soft 19 = .ok (.lload_n 2, 1) := by decide +kernel
theorem dM_soft_20 : decode cM_soft 20 = .ok (.ldc2_w 73, 3) := by decide +kernel
theorem dM_soft_23 : decode cM_soft 23 = .ok (.lload 6, 2) := by decide +kernel
theorem dM_soft_25 : decode cM_soft 25 = .ok (.lmul, 1) := by decide +kernel
theorem dM_soft_26 : decode cM_soft 26 = .ok (.lsub, 1) := by decide +kernel
theorem dM_soft_27 : decode cM_soft 27 = .ok (.ldc2_w 75, 3) := by decide +kernel
theorem dM_soft_30 : decode cM_soft 30 = .ok (.invokestatic 67, 3) := by decide +kernel
theorem dM_soft_33 : decode cM_soft 33 = .ok (.lstore 10, 2) := by decide +kernel
theorem dM_soft_35 : decode cM_soft 35 = .ok (.lload 4, 2) := by decide +kernel
theorem dM_soft_37 : decode cM_soft 37 = .ok (.ldc2_w 73, 3) := by decide +kernel
theorem dM_soft_40 : decode cM_soft 40 = .ok (.lload 8, 2) := by decide +kernel
theorem dM_soft_42 : decode cM_soft 42 = .ok (.lmul, 1) := by decide +kernel
theorem dM_soft_43 : decode cM_soft 43 = .ok (.lsub, 1) := by decide +kernel
theorem dM_soft_44 : decode cM_soft 44 = .ok (.ldc2_w 75, 3) := by decide +kernel
theorem dM_soft_47 : decode cM_soft 47 = .ok (.invokestatic 67, 3) := by decide +kernel
theorem dM_soft_50 : decode cM_soft 50 = .ok (.lstore 12, 2) := by decide +kernel
theorem dM_soft_52 : decode cM_soft 52 = .ok (.iconst 0, 1) := by decide +kernel
theorem dM_soft_53 : decode cM_soft 53 = .ok (.istore 14, 2) := by decide +kernel
theorem dM_soft_55 : decode cM_soft 55 = .ok (.iconst 0, 1) := by decide +kernel
theorem dM_soft_56 : decode cM_soft 56 = .ok (.istore 15, 2) := by decide +kernel
theorem dM_soft_58 : decode cM_soft 58 = .ok (.iload 15, 2) := by decide +kernel
theorem dM_soft_60 : decode cM_soft 60 = .ok (.iconst 3, 1) := by decide +kernel
theorem dM_soft_61 : decode cM_soft 61 = .ok (.if_icmp .ge 137, 3) := by decide +kernel
theorem dM_soft_64 : decode cM_soft 64 = .ok (.lconst 0, 1) := by decide +kernel
theorem dM_soft_65 : decode cM_soft 65 = .ok (.lstore 16, 2) := by decide +kernel
theorem dM_soft_67 : decode cM_soft 67 = .ok (.iconst 0, 1) := by decide +kernel
theorem dM_soft_68 : decode cM_soft 68 = .ok (.istore 18, 2) := by decide +kernel
theorem dM_soft_70 : decode cM_soft 70 = .ok (.iload 18, 2) := by decide +kernel
theorem dM_soft_72 : decode cM_soft 72 = .ok (.iconst 4, 1) := by decide +kernel
theorem dM_soft_73 : decode cM_soft 73 = .ok (.if_icmp .ge 103, 3) := by decide +kernel
theorem dM_soft_76 : decode cM_soft 76 = .ok (.aload_n 0, 1) := by decide +kernel
theorem dM_soft_77 : decode cM_soft 77 = .ok (.iload_n 1, 1) := by decide +kernel
theorem dM_soft_78 : decode cM_soft 78 = .ok (.lload 6, 2) := by decide +kernel
theorem dM_soft_80 : decode cM_soft 80 = .ok (.iload 18, 2) := by decide +kernel
theorem dM_soft_82 : decode cM_soft 82 = .ok (.iconst 2, 1) := by decide +kernel
theorem dM_soft_83 : decode cM_soft 83 = .ok (.irem, 1) := by decide +kernel
theorem dM_soft_84 : decode cM_soft 84 = .ok (.i2l, 1) := by decide +kernel
theorem dM_soft_85 : decode cM_soft 85 = .ok (.ladd, 1) := by decide +kernel
theorem dM_soft_86 : decode cM_soft 86 = .ok (.invokevirtual 77, 3) := by decide +kernel
theorem dM_soft_89 : decode cM_soft 89 = .ok (.istore 19, 2) := by decide +kernel
theorem dM_soft_91 : decode cM_soft 91 = .ok (.aload_n 0, 1) := by decide +kernel
theorem dM_soft_92 : decode cM_soft 92 = .ok (.iload_n 1, 1) := by decide +kernel
theorem dM_soft_93 : decode cM_soft 93 = .ok (.lload 8, 2) := by decide +kernel
theorem dM_soft_95 : decode cM_soft 95 = .ok (.iload 18, 2) := by decide +kernel
theorem dM_soft_97 : decode cM_soft 97 = .ok (.iconst 2, 1) := by decide +kernel
theorem dM_soft_98 : decode cM_soft 98 = .ok (.idiv, 1) := by decide +kernel
theorem dM_soft_99 : decode cM_soft 99 = .ok (.i2l, 1) := by decide +kernel
theorem dM_soft_100 : decode cM_soft 100 = .ok (.ladd, 1) := by decide +kernel
theorem dM_soft_101 : decode cM_soft 101 = .ok (.invokevirtual 77, 3) := by decide +kernel
theorem dM_soft_104 : decode cM_soft 104 = .ok (.istore 20, 2) := by decide +kernel
theorem dM_soft_106 : decode cM_soft 106 = .ok (.lload 16, 2) := by decide +kernel
theorem dM_soft_108 : decode cM_soft 108 = .ok (.aload_n 0, 1) := by decide +kernel
theorem dM_soft_109 : decode cM_soft 109 = .ok (.getfield 25, 3) := by decide +kernel
theorem dM_soft_112 : decode cM_soft 112 = .ok (.iload 20, 2) := by decide +kernel
theorem dM_soft_114 : decode cM_soft 114 = .ok (.aload_n 0, 1) := by decide +kernel
theorem dM_soft_115 : decode cM_soft 115 = .ok (.getfield 43, 3) := by decide +kernel
theorem dM_soft_118 : decode cM_soft 118 = .ok (.imul, 1) := by decide +kernel
theorem dM_soft_119 : decode cM_soft 119 = .ok (.iload 19, 2) := by decide +kernel
theorem dM_soft_121 : decode cM_soft 121 = .ok (.iadd, 1) := by decide +kernel
theorem dM_soft_122 : decode cM_soft 122 = .ok (.iaload, 1) := by decide +kernel
theorem dM_soft_123 : decode cM_soft 123 = .ok (.iload 15, 2) := by decide +kernel
theorem dM_soft_125 : decode cM_soft 125 = .ok (.invokestatic 46, 3) := by decide +kernel
theorem dM_soft_128 : decode cM_soft 128 = .ok (.i2l, 1) := by decide +kernel
theorem dM_soft_129 : decode cM_soft 129 = .ok (.iload 18, 2) := by decide +kernel
theorem dM_soft_131 : decode cM_soft 131 = .ok (.iconst 2, 1) := by decide +kernel
theorem dM_soft_132 : decode cM_soft 132 = .ok (.irem, 1) := by decide +kernel
theorem dM_soft_133 : decode cM_soft 133 = .ok (.ifCond .ne 12, 3) := by decide +kernel
theorem dM_soft_136 : decode cM_soft 136 = .ok (.ldc2_w 75, 3) := by decide +kernel
theorem dM_soft_139 : decode cM_soft 139 = .ok (.lload 10, 2) := by decide +kernel
theorem dM_soft_141 : decode cM_soft 141 = .ok (.lsub, 1) := by decide +kernel
theorem dM_soft_142 : decode cM_soft 142 = .ok (.goto 5, 3) := by decide +kernel
theorem dM_soft_145 : decode cM_soft 145 = .ok (.lload 10, 2) := by decide +kernel
theorem dM_soft_147 : decode cM_soft 147 = .ok (.lmul, 1) := by decide +kernel
theorem dM_soft_148 : decode cM_soft 148 = .ok (.iload 18, 2) := by decide +kernel
theorem dM_soft_150 : decode cM_soft 150 = .ok (.iconst 2, 1) := by decide +kernel
theorem dM_soft_151 : decode cM_soft 151 = .ok (.idiv, 1) := by decide +kernel
theorem dM_soft_152 : decode cM_soft 152 = .ok (.ifCond .ne 12, 3) := by decide +kernel
theorem dM_soft_155 : decode cM_soft 155 = .ok (.ldc2_w 75, 3) := by decide +kernel
theorem dM_soft_158 : decode cM_soft 158 = .ok (.lload 12, 2) := by decide +kernel
theorem dM_soft_160 : decode cM_soft 160 = .ok (.lsub, 1) := by decide +kernel
theorem dM_soft_161 : decode cM_soft 161 = .ok (.goto 5, 3) := by decide +kernel
theorem dM_soft_164 : decode cM_soft 164 = .ok (.lload 12, 2) := by decide +kernel
theorem dM_soft_166 : decode cM_soft 166 = .ok (.lmul, 1) := by decide +kernel
theorem dM_soft_167 : decode cM_soft 167 = .ok (.ladd, 1) := by decide +kernel
theorem dM_soft_168 : decode cM_soft 168 = .ok (.lstore 16, 2) := by decide +kernel
theorem dM_soft_170 : decode cM_soft 170 = .ok (.iinc 18 1, 3) := by decide +kernel
theorem dM_soft_173 : decode cM_soft 173 = .ok (.goto (-103), 3) := by decide +kernel
theorem dM_soft_176 : decode cM_soft 176 = .ok (.iload 14, 2) := by decide +kernel
theorem dM_soft_178 : decode cM_soft 178 = .ok (.sipush 256, 3) := by decide +kernel
theorem dM_soft_181 : decode cM_soft 181 = .ok (.imul, 1) := by decide +kernel
theorem dM_soft_182 : decode cM_soft 182 = .ok (.lload 16, 2) := by decide +kernel
theorem dM_soft_184 : decode cM_soft 184 = .ok (.ldc2_w 73, 3) := by decide +kernel
theorem dM_soft_187 : decode cM_soft 187 = .ok (.ldiv, 1) := by decide +kernel
theorem dM_soft_188 : decode cM_soft 188 = .ok (.l2i, 1) := by decide +kernel
theorem dM_soft_189 : decode cM_soft 189 = .ok (.iadd, 1) := by decide +kernel
theorem dM_soft_190 : decode cM_soft 190 = .ok (.istore 14, 2) := by decide +kernel
theorem dM_soft_192 : decode cM_soft 192 = .ok (.iinc 15 1, 3) := by decide +kernel
theorem dM_soft_195 : decode cM_soft 195 = .ok (.goto (-137), 3) := by decide +kernel
theorem dM_soft_198 : decode cM_soft 198 = .ok (.iload 14, 2) := by decide +kernel
theorem dM_soft_200 : decode cM_soft 200 = .ok (.ireturn, 1) := by decide +kernel
theorem dM_isPlace_0 : decode cM_isPlace 0 = .ok (.iload_n 0, 1) := by decide +kernel
theorem dM_isPlace_1 : decode cM_isPlace 1 = .ok (.ldc 81, 2) := by decide +kernel
theorem dM_isPlace_3 : decode cM_isPlace 3 = .ok (.if_icmp .lt 13, 3) := by decide +kernel
theorem dM_isPlace_6 : decode cM_isPlace 6 = .ok (.iload_n 0, 1) := by decide +kernel
theorem dM_isPlace_7 : decode cM_isPlace 7 = .ok (.ldc 58, 2) := by decide +kernel
theorem dM_isPlace_9 : decode cM_isPlace 9 = .ok (.if_icmp .gt 7, 3) := by decide +kernel
theorem dM_isPlace_12 : decode cM_isPlace 12 = .ok (.iconst 1, 1) := by decide +kernel
theorem dM_isPlace_13 : decode cM_isPlace 13 = .ok (.goto 4, 3) := by decide +kernel
theorem dM_isPlace_16 : decode cM_isPlace 16 = .ok (.iconst 0, 1) := by decide +kernel
theorem dM_isPlace_17 : decode cM_isPlace 17 = .ok (.ireturn, 1) := by decide +kernel
theorem dM_lookUp_0 : decode cM_lookUp 0 = .ok (.aload_n 0, 1) := by decide +kernel
theorem dM_lookUp_1 : decode cM_lookUp 1 = .ok (.aload_n 0, 1) := by decide +kernel
theorem dM_lookUp_2 : decode cM_lookUp 2 = .ok (.iload_n 1, 1) := by decide +kernel
theorem dM_lookUp_3 : decode cM_lookUp 3 = .ok (.invokevirtual 53, 3) := by decide +kernel
theorem dM_lookUp_6 : decode cM_lookUp 6 = .ok (.ifCond .eq 16, 3) := by decide +kernel
theorem dM_lookUp_9 : decode cM_lookUp 9 = .ok (.iload_n 2, 1) := by decide +kernel
theorem dM_lookUp_10 : decode cM_lookUp 10 = .ok (.ifCond .lt 12, 3) := by decide +kernel
theorem dM_lookUp_13 : decode cM_lookUp 13 = .ok (.iload_n 2, 1) := by decide +kernel
theorem dM_lookUp_14 : decode cM_lookUp 14 = .ok (.aload_n 0, 1) := by decide +kernel
theorem dM_lookUp_15 : decode cM_lookUp 15 = .ok (.iload_n 1, 1) := by decide +kernel
theorem dM_lookUp_16 : decode cM_lookUp 16 = .ok (.invokevirtual 61, 3) := by decide +kernel
theorem dM_lookUp_19 : decode cM_lookUp 19 = .ok (.if_icmp .le 7, 3) := by decide +kernel
theorem dM_lookUp_22 : decode cM_lookUp 22 = .ok (.iconst 1, 1) := by decide +kernel
theorem dM_lookUp_23 : decode cM_lookUp 23 = .ok (.goto 23, 3) := by decide +kernel
theorem dM_lookUp_26 : decode cM_lookUp 26 = .ok (.iload_n 3, 1) := by decide +kernel
theorem dM_lookUp_27 : decode cM_lookUp 27 = .ok (.invokestatic 82, 3) := by decide +kernel
theorem dM_lookUp_30 : decode cM_lookUp 30 = .ok (.ifCond .eq 11, 3) := by decide +kernel
theorem dM_lookUp_33 : decode cM_lookUp 33 = .ok (.iload 4, 2) := by decide +kernel
theorem dM_lookUp_35 : decode cM_lookUp 35 = .ok (.invokestatic 82, 3) := by decide +kernel
theorem dM_lookUp_38 : decode cM_lookUp 38 = .ok (.ifCond .ne 7, 3) := by decide +kernel
theorem dM_lookUp_41 : decode cM_lookUp 41 = .ok (.iconst 2, 1) := by decide +kernel
theorem dM_lookUp_42 : decode cM_lookUp 42 = .ok (.goto 4, 3) := by decide +kernel
theorem dM_lookUp_45 : decode cM_lookUp 45 = .ok (.iconst 0, 1) := by decide +kernel
theorem dM_lookUp_46 : decode cM_lookUp 46 = .ok (.putfield 28, 3) := by decide +kernel
theorem dM_lookUp_49 : decode cM_lookUp 49 = .ok (.aload_n 0, 1) := by decide +kernel
theorem dM_lookUp_50 : decode cM_lookUp 50 = .ok (.getfield 28, 3) := by decide +kernel
theorem dM_lookUp_53 : decode cM_lookUp 53 = .ok (.ifCond .eq 5, 3) := by decide +kernel
theorem dM_lookUp_56 : decode cM_lookUp 56 = .ok (.iconst 0, 1) := by decide +kernel
theorem dM_lookUp_57 : decode cM_lookUp 57 = .ok (.ireturn, 1) := by decide +kernel
theorem dM_lookUp_58 : decode cM_lookUp 58 = .ok (.aload_n 0, 1) := by decide +kernel
theorem dM_lookUp_59 : decode cM_lookUp 59 = .ok (.iload_n 1, 1) := by decide +kernel
theorem dM_lookUp_60 : decode cM_lookUp 60 = .ok (.iload_n 2, 1) := by decide +kernel
theorem dM_lookUp_61 : decode cM_lookUp 61 = .ok (.invokevirtual 85, 3) := by decide +kernel
theorem dM_lookUp_64 : decode cM_lookUp 64 = .ok (.iload_n 3, 1) := by decide +kernel
theorem dM_lookUp_65 : decode cM_lookUp 65 = .ok (.i2l, 1) := by decide +kernel
theorem dM_lookUp_66 : decode cM_lookUp 66 = .ok (.aload_n 0, 1) := by decide +kernel
theorem dM_lookUp_67 : decode cM_lookUp 67 = .ok (.getfield 43, 3) := by decide +kernel
theorem dM_lookUp_70 : decode cM_lookUp 70 = .ok (.i2l, 1) := by decide +kernel
theorem dM_lookUp_71 : decode cM_lookUp 71 = .ok (.lmul, 1) := by decide +kernel
theorem dM_lookUp_72 : decode cM_lookUp 72 = .ok (.lstore 5, 2) := by decide +kernel
theorem dM_lookUp_74 : decode cM_lookUp 74 = .ok (.iload 4, 2) := by decide +kernel
theorem dM_lookUp_76 : decode cM_lookUp 76 = .ok (.i2l, 1) := by decide +kernel
theorem dM_lookUp_77 : decode cM_lookUp 77 = .ok (.aload_n 0, 1) := by decide +kernel
theorem dM_lookUp_78 : decode cM_lookUp 78 = .ok (.getfield 43, 3) := by decide +kernel
theorem dM_lookUp_81 : decode cM_lookUp 81 = .ok (.i2l, 1) := by decide +kernel
theorem dM_lookUp_82 : decode cM_lookUp 82 = .ok (.lmul, 1) := by decide +kernel
theorem dM_lookUp_83 : decode cM_lookUp 83 = .ok (.lstore 7, 2) := by decide +kernel
theorem dM_lookUp_85 : decode cM_lookUp 85 = .ok (.aload_n 0, 1) := by decide +kernel
theorem dM_lookUp_86 : decode cM_lookUp 86 = .ok (.getfield 13, 3) := by decide +kernel
theorem dM_lookUp_89 : decode cM_lookUp 89 = .ok (.iload_n 1, 1) := by decide +kernel
theorem dM_lookUp_90 : decode cM_lookUp 90 = .ok (.iaload, 1) := by decide +kernel
theorem dM_lookUp_91 : decode cM_lookUp 91 = .ok (.istore 9, 2) := by decide +kernel
theorem dM_lookUp_93 : decode cM_lookUp 93 = .ok (.aload_n 0, 1) := by decide +kernel
theorem dM_lookUp_94 : decode cM_lookUp 94 = .ok (.getfield 16, 3) := by decide +kernel
theorem dM_lookUp_97 : decode cM_lookUp 97 = .ok (.iload_n 1, 1) := by decide +kernel
theorem dM_lookUp_98 : decode cM_lookUp 98 = .ok (.iaload, 1) := by decide +kernel
theorem dM_lookUp_99 : decode cM_lookUp 99 = .ok (.iconst 1, 1) := by decide +kernel
theorem dM_lookUp_100 : decode cM_lookUp 100 = .ok (.if_icmp .ne 22, 3) := by decide +kernel
theorem dM_lookUp_103 : decode cM_lookUp 103 = .ok (.aload_n 0, 1) := by decide +kernel
theorem dM_lookUp_104 : decode cM_lookUp 104 = .ok (.iload 9, 2) := by decide +kernel
theorem dM_lookUp_106 : decode cM_lookUp 106 = .ok (.lload 5, 2) := by decide +kernel
theorem dM_lookUp_108 : decode cM_lookUp 108 = .ok (.ldc2_w 89, 3) := by decide +kernel
theorem dM_lookUp_111 : decode cM_lookUp 111 = .ok (.lsub, 1) := by decide +kernel
theorem dM_lookUp_112 : decode cM_lookUp 112 = .ok (.lload 7, 2) := by decide +kernel
theorem dM_lookUp_114 : decode cM_lookUp 114 = .ok (.ldc2_w 89, 3) := by decide +kernel
theorem dM_lookUp_117 : decode cM_lookUp 117 = .ok (.lsub, 1) := by decide +kernel
theorem dM_lookUp_118 : decode cM_lookUp 118 = .ok (.invokevirtual 91, 3) := by decide +kernel
theorem dM_lookUp_121 : decode cM_lookUp 121 = .ok (.ireturn, 1) := by decide +kernel
theorem dM_lookUp_122 : decode cM_lookUp 122 = .ok (.aload_n 0, 1) := by decide +kernel
theorem dM_lookUp_123 : decode cM_lookUp 123 = .ok (.iload 9, 2) := by decide +kernel
theorem dM_lookUp_125 : decode cM_lookUp 125 = .ok (.lload 5, 2) := by decide +kernel
theorem dM_lookUp_127 : decode cM_lookUp 127 = .ok (.ldc2_w 73, 3) := by decide +kernel
theorem dM_lookUp_130 : decode cM_lookUp 130 = .ok (.invokestatic 67, 3) := by decide +kernel
theorem dM_lookUp_133 : decode cM_lookUp 133 = .ok (.invokevirtual 77, 3) := by decide +kernel
theorem dM_lookUp_136 : decode cM_lookUp 136 = .ok (.istore 10, 2) := by decide +kernel
theorem dM_lookUp_138 : decode cM_lookUp 138 = .ok (.aload_n 0, 1) := by decide +kernel
theorem dM_lookUp_139 : decode cM_lookUp 139 = .ok (.iload 9, 2) := by decide +kernel
theorem dM_lookUp_141 : decode cM_lookUp 141 = .ok (.lload 7, 2) := by decide +kernel
theorem dM_lookUp_143 : decode cM_lookUp 143 = .ok (.ldc2_w 73, 3) := by decide +kernel
theorem dM_lookUp_146 : decode cM_lookUp 146 = .ok (.invokestatic 67, 3) := by decide +kernel
theorem dM_lookUp_149 : decode cM_lookUp 149 = .ok (.invokevirtual 77, 3) := by decide +kernel
theorem dM_lookUp_152 : decode cM_lookUp 152 = .ok (.istore 11, 2) := by decide +kernel
theorem dM_lookUp_154 : decode cM_lookUp 154 = .ok (.aload_n 0, 1) := by decide +kernel
theorem dM_lookUp_155 : decode cM_lookUp 155 = .ok (.getfield 25, 3) := by decide +kernel
theorem dM_lookUp_158 : decode cM_lookUp 158 = .ok (.iload 11, 2) := by decide +kernel
theorem dM_lookUp_160 : decode cM_lookUp 160 = .ok (.aload_n 0, 1) := by decide +kernel
theorem dM_lookUp_161 : decode cM_lookUp 161 = .ok (.getfield 43, 3) := by decide +kernel
theorem dM_lookUp_164 : decode cM_lookUp 164 = .ok (.imul, 1) := by decide +kernel
theorem dM_lookUp_165 : decode cM_lookUp 165 = .ok (.iload 10, 2) := by decide +kernel
theorem dM_lookUp_167 : decode cM_lookUp 167 = .ok (.iadd, 1) := by decide +kernel
theorem dM_lookUp_168 : decode cM_lookUp 168 = .ok (.iaload, 1) := by decide +kernel
theorem dM_lookUp_169 : decode cM_lookUp 169 = .ok (.ireturn, 1) := by decide +kernel
theorem dM_texel_0 : decode cM_texel 0 = .ok (.aload_n 0, 1) := by decide +kernel
theorem dM_texel_1 : decode cM_texel 1 = .ok (.aload_n 0, 1) := by decide +kernel
theorem dM_texel_2 : decode cM_texel 2 = .ok (.iload_n 1, 1) := by decide +kernel
theorem dM_texel_3 : decode cM_texel 3 = .ok (.invokevirtual 53, 3) := by decide +kernel
theorem dM_texel_6 : decode cM_texel 6 = .ok (.ifCond .eq 16, 3) := by decide +kernel
theorem dM_texel_9 : decode cM_texel 9 = .ok (.iload_n 2, 1) := by decide +kernel
theorem dM_texel_10 : decode cM_texel 10 = .ok (.ifCond .lt 12, 3) := by decide +kernel
theorem dM_texel_13 : decode cM_texel 13 = .ok (.iload_n 2, 1) := by decide +kernel
theorem dM_texel_14 : decode cM_texel 14 = .ok (.aload_n 0, 1) := by decide +kernel
theorem dM_texel_15 : decode cM_texel 15 = .ok (.iload_n 1, 1) := by decide +kernel
theorem dM_texel_16 : decode cM_texel 16 = .ok (.invokevirtual 61, 3) := by decide +kernel
theorem dM_texel_19 : decode cM_texel 19 = .ok (.if_icmp .le 7, 3) := by decide +kernel
theorem dM_texel_22 : decode cM_texel 22 = .ok (.iconst 1, 1) := by decide +kernel
theorem dM_texel_23 : decode cM_texel 23 = .ok (.goto 4, 3) := by decide +kernel
theorem dM_texel_26 : decode cM_texel 26 = .ok (.iconst 0, 1) := by decide +kernel
theorem dM_texel_27 : decode cM_texel 27 = .ok (.putfield 28, 3) := by decide +kernel
theorem dM_texel_30 : decode cM_texel 30 = .ok (.aload_n 0, 1) := by decide +kernel
theorem dM_texel_31 : decode cM_texel 31 = .ok (.getfield 28, 3) := by decide +kernel
theorem dM_texel_34 : decode cM_texel 34 = .ok (.ifCond .eq 5, 3) := by decide +kernel
theorem dM_texel_37 : decode cM_texel 37 = .ok (.iconst 0, 1) := by decide +kernel
theorem dM_texel_38 : decode cM_texel 38 = .ok (.ireturn, 1) := by decide +kernel
theorem dM_texel_39 : decode cM_texel 39 = .ok (.aload_n 0, 1) := by decide +kernel
theorem dM_texel_40 : decode cM_texel 40 = .ok (.iload_n 1, 1) := by decide +kernel
theorem dM_texel_41 : decode cM_texel 41 = .ok (.iload_n 2, 1) := by decide +kernel
theorem dM_texel_42 : decode cM_texel 42 = .ok (.invokevirtual 85, 3) := by decide +kernel
theorem dM_texel_45 : decode cM_texel 45 = .ok (.aload_n 0, 1) := by decide +kernel
theorem dM_texel_46 : decode cM_texel 46 = .ok (.iload_n 3, 1) := by decide +kernel
theorem dM_texel_47 : decode cM_texel 47 = .ok (.ifCond .lt 25, 3) := by decide +kernel
theorem dM_texel_50 : decode cM_texel 50 = .ok (.iload_n 3, 1) := by decide +kernel
theorem dM_texel_51 : decode cM_texel 51 = .ok (.aload_n 0, 1) := by decide +kernel
theorem dM_texel_52 : decode cM_texel 52 = .ok (.getfield 43, 3) := by decide +kernel
theorem dM_texel_55 : decode cM_texel 55 = .ok (.if_icmp .ge 17, 3) := by decide +kernel
theorem dM_texel_58 : decode cM_texel 58 = .ok (.iload 4, 2) := by decide +kernel
theorem dM_texel_60 : decode cM_texel 60 = .ok (.ifCond .lt 12, 3) := by decide +kernel
theorem dM_texel_63 : decode cM_texel 63 = .ok (.iload 4, 2) := by decide +kernel
theorem dM_texel_65 : decode cM_texel 65 = .ok (.aload_n 0, 1) := by decide +kernel
theorem dM_texel_66 : decode cM_texel 66 = .ok (.getfield 43, 3) := by decide +kernel
theorem dM_texel_69 : decode cM_texel 69 = .ok (.if_icmp .lt 7, 3) := by decide +kernel
theorem dM_texel_72 : decode cM_texel 72 = .ok (.iconst 1, 1) := by decide +kernel
theorem dM_texel_73 : decode cM_texel 73 = .ok (.goto 4, 3) := by decide +kernel
theorem dM_texel_76 : decode cM_texel 76 = .ok (.iconst 0, 1) := by decide +kernel
theorem dM_texel_77 : decode cM_texel 77 = .ok (.putfield 28, 3) := by decide +kernel
theorem dM_texel_80 : decode cM_texel 80 = .ok (.aload_n 0, 1) := by decide +kernel
theorem dM_texel_81 : decode cM_texel 81 = .ok (.getfield 28, 3) := by decide +kernel
theorem dM_texel_84 : decode cM_texel 84 = .ok (.iconst 1, 1) := by decide +kernel
theorem dM_texel_85 : decode cM_texel 85 = .ok (.if_icmp .ne 7, 3) := by decide +kernel
theorem dM_texel_88 : decode cM_texel 88 = .ok (.iconst 0, 1) := by decide +kernel
theorem dM_texel_89 : decode cM_texel 89 = .ok (.goto 17, 3) := by decide +kernel
theorem dM_texel_92 : decode cM_texel 92 = .ok (.aload_n 0, 1) := by decide +kernel
theorem dM_texel_93 : decode cM_texel 93 = .ok (.getfield 25, 3) := by decide +kernel
theorem dM_texel_96 : decode cM_texel 96 = .ok (.iload 4, 2) := by decide +kernel
theorem dM_texel_98 : decode cM_texel 98 = .ok (.aload_n 0, 1) := by decide +kernel
theorem dM_texel_99 : decode cM_texel 99 = .ok (.getfield 43, 3) := by decide +kernel
theorem dM_texel_102 : decode cM_texel 102 = .ok (.imul, 1) := by decide +kernel
theorem dM_texel_103 : decode cM_texel 103 = .ok (.iload_n 3, 1) := by decide +kernel
theorem dM_texel_104 : decode cM_texel 104 = .ok (.iadd, 1) := by decide +kernel
theorem dM_texel_105 : decode cM_texel 105 = .ok (.iaload, 1) := by decide +kernel
theorem dM_texel_106 : decode cM_texel 106 = .ok (.ireturn, 1) := by decide +kernel
theorem dM_lit_0 : decode cM_lit 0 = .ok (.iload_n 1, 1) := by decide +kernel
theorem dM_lit_1 : decode cM_lit 1 = .ok (.ifCond .lt 33, 3) := by decide +kernel
theorem dM_lit_4 : decode cM_lit 4 = .ok (.iload_n 1, 1) := by decide +kernel
theorem dM_lit_5 : decode cM_lit 5 = .ok (.ldc 58, 2) := by decide +kernel
theorem dM_lit_7 : decode cM_lit 7 = .ok (.if_icmp .ge 27, 3) := by decide +kernel
theorem dM_lit_10 : decode cM_lit 10 = .ok (.iload_n 2, 1) := by decide +kernel
theorem dM_lit_11 : decode cM_lit 11 = .ok (.ifCond .lt 23, 3) := by decide +kernel
theorem dM_lit_14 : decode cM_lit 14 = .ok (.iload_n 2, 1) := by decide +kernel
theorem dM_lit_15 : decode cM_lit 15 = .ok (.ldc 58, 2) := by decide +kernel
theorem dM_lit_17 : decode cM_lit 17 = .ok (.if_icmp .ge 17, 3) := by decide +kernel
theorem dM_lit_20 : decode cM_lit 20 = .ok (.iload_n 3, 1) := by decide +kernel
theorem dM_lit_21 : decode cM_lit 21 = .ok (.ifCond .lt 13, 3) := by decide +kernel
theorem dM_lit_24 : decode cM_lit 24 = .ok (.iload_n 3, 1) := by decide +kernel
theorem dM_lit_25 : decode cM_lit 25 = .ok (.ldc 39, 2) := by decide +kernel
theorem dM_lit_27 : decode cM_lit 27 = .ok (.if_icmp .gt 7, 3) := by decide +kernel
theorem dM_lit_30 : decode cM_lit 30 = .ok (.iconst 1, 1) := by decide +kernel
theorem dM_lit_31 : decode cM_lit 31 = .ok (.goto 4, 3) := by decide +kernel
theorem dM_lit_34 : decode cM_lit 34 = .ok (.iconst 0, 1) := by decide +kernel
theorem dM_lit_35 : decode cM_lit 35 = .ok (.istore 4, 2) := by decide +kernel
theorem dM_lit_37 : decode cM_lit 37 = .ok (.aload_n 0, 1) := by decide +kernel
theorem dM_lit_38 : decode cM_lit 38 = .ok (.iload 4, 2) := by decide +kernel
theorem dM_lit_40 : decode cM_lit 40 = .ok (.ifCond .eq 7, 3) := by decide +kernel
theorem dM_lit_43 : decode cM_lit 43 = .ok (.iconst 0, 1) := by decide +kernel
theorem dM_lit_44 : decode cM_lit 44 = .ok (.goto 4, 3) := by decide +kernel
theorem dM_lit_47 : decode cM_lit 47 = .ok (.iconst 1, 1) := by decide +kernel
theorem dM_lit_48 : decode cM_lit 48 = .ok (.putfield 28, 3) := by decide +kernel
theorem dM_lit_51 : decode cM_lit 51 = .ok (.iconst 0, 1) := by decide +kernel
theorem dM_lit_52 : decode cM_lit 52 = .ok (.istore 5, 2) := by decide +kernel
theorem dM_lit_54 : decode cM_lit 54 = .ok (.iconst 0, 1) := by decide +kernel
theorem dM_lit_55 : decode cM_lit 55 = .ok (.istore 6, 2) := by decide +kernel
theorem dM_lit_57 : decode cM_lit 57 = .ok (.iload 6, 2) := by decide +kernel
theorem dM_lit_59 : decode cM_lit 59 = .ok (.iconst 3, 1) := by decide +kernel
theorem dM_lit_60 : decode cM_lit 60 = .ok (.if_icmp .ge 53, 3) := by decide +kernel
theorem dM_lit_63 : decode cM_lit 63 = .ok (.iload 4, 2) := by decide +kernel
theorem dM_lit_65 : decode cM_lit 65 = .ok (.ifCond .eq 48, 3) := by decide +kernel
theorem dM_lit_68 : decode cM_lit 68 = .ok (.iload_n 1, 1) := by decide +kernel
theorem dM_lit_69 : decode cM_lit 69 = .ok (.iload 6, 2) := by decide +kernel
theorem dM_lit_71 : decode cM_lit 71 = .ok (.invokestatic 46, 3) := by decide +kernel
theorem dM_lit_74 : decode cM_lit 74 = .ok (.iload_n 2, 1) := by decide +kernel
theorem dM_lit_75 : decode cM_lit 75 = .ok (.iload 6, 2) := by decide +kernel
theorem dM_lit_77 : decode cM_lit 77 = .ok (.invokestatic 46, 3) := by decide +kernel
theorem dM_lit_80 : decode cM_lit 80 = .ok (.imul, 1) := by decide +kernel
theorem dM_lit_81 : decode cM_lit 81 = .ok (.sipush 255, 3) := by decide +kernel
theorem dM_lit_84 : decode cM_lit 84 = .ok (.idiv, 1) := by decide +kernel
theorem dM_lit_85 : decode cM_lit 85 = .ok (.i2l, 1) := by decide +kernel
theorem dM_lit_86 : decode cM_lit 86 = .ok (.lstore 7, 2) := by decide +kernel
theorem dM_lit_88 : decode cM_lit 88 = .ok (.iload 5, 2) := by decide +kernel
theorem dM_lit_90 : decode cM_lit 90 = .ok (.sipush 256, 3) := by decide +kernel
theorem dM_lit_93 : decode cM_lit 93 = .ok (.imul, 1) := by decide +kernel
theorem dM_lit_94 : decode cM_lit 94 = .ok (.lload 7, 2) := by decide +kernel
theorem dM_lit_96 : decode cM_lit 96 = .ok (.iload_n 3, 1) := by decide +kernel
theorem dM_lit_97 : decode cM_lit 97 = .ok (.i2l, 1) := by decide +kernel
theorem dM_lit_98 : decode cM_lit 98 = .ok (.lmul, 1) := by decide +kernel
theorem dM_lit_99 : decode cM_lit 99 = .ok (.ldc2_w 73, 3) := by decide +kernel
theorem dM_lit_102 : decode cM_lit 102 = .ok (.ldiv, 1) := by decide +kernel
theorem dM_lit_103 : decode cM_lit 103 = .ok (.l2i, 1) := by decide +kernel
theorem dM_lit_104 : decode cM_lit 104 = .ok (.iadd, 1) := by decide +kernel
theorem dM_lit_105 : decode cM_lit 105 = .ok (.istore 5, 2) := by decide +kernel
theorem dM_lit_107 : decode cM_lit 107 = .ok (.iinc 6 1, 3) := by decide +kernel
theorem dM_lit_110 : decode cM_lit 110 = .ok (.goto (-53), 3) := by decide +kernel
theorem dM_lit_113 : decode cM_lit 113 = .ok (.iload 5, 2) := by decide +kernel
theorem dM_lit_115 : decode cM_lit 115 = .ok (.ireturn, 1) := by decide +kernel
theorem dM_about_0 : decode cM_about 0 = .ok (.aload_n 0, 1) := by decide +kernel
theorem dM_about_1 : decode cM_about 1 = .ok (.iconst 0, 1) := by decide +kernel
theorem dM_about_2 : decode cM_about 2 = .ok (.putfield 28, 3) := by decide +kernel
theorem dM_about_5 : decode cM_about 5 = .ok (.aload_n 0, 1) := by decide +kernel
theorem dM_about_6 : decode cM_about 6 = .ok (.iload_n 1, 1) := by decide +kernel
theorem dM_about_7 : decode cM_about 7 = .ok (.invokevirtual 53, 3) := by decide +kernel
theorem dM_about_10 : decode cM_about 10 = .ok (.ifCond .ne 5, 3) := by decide +kernel
theorem dM_about_13 : decode cM_about 13 = .ok (.iconst (-1), 1) := by decide +kernel
theorem dM_about_14 : decode cM_about 14 = .ok (.ireturn, 1) := by decide +kernel
theorem dM_about_15 : decode cM_about 15 = .ok (.iload_n 2, 1) := by decide +kernel
theorem dM_about_16 : decode cM_about 16 = .ok (.ifCond .ne 12, 3) := by decide +kernel
theorem dM_about_19 : decode cM_about 19 = .ok (.aload_n 0, 1) := by decide +kernel
theorem dM_about_20 : decode cM_about 20 = .ok (.getfield 7, 3) := by decide +kernel
theorem dM_about_23 : decode cM_about 23 = .ok (.iload_n 1, 1) := by decide +kernel
theorem dM_about_24 : decode cM_about 24 = .ok (.iaload, 1) := by decide +kernel
theorem dM_about_25 : decode cM_about 25 = .ok (.goto 47, 3) := by decide +kernel
theorem dM_about_28 : decode cM_about 28 = .ok (.iload_n 2, 1) := by decide +kernel
theorem dM_about_29 : decode cM_about 29 = .ok (.iconst 1, 1) := by decide +kernel
theorem dM_about_30 : decode cM_about 30 = .ok (.if_icmp .ne 12, 3) := by decide +kernel
theorem dM_about_33 : decode cM_about 33 = .ok (.aload_n 0, 1) := by decide +kernel
theorem dM_about_34 : decode cM_about 34 = .ok (.getfield 13, 3) := by decide +kernel
theorem dM_about_37 : decode cM_about 37 = .ok (.iload_n 1, 1) := by decide +kernel
theorem dM_about_38 : decode cM_about 38 = .ok (.iaload, 1) := by decide +kernel
theorem dM_about_39 : decode cM_about 39 = .ok (.goto 33, 3) := by decide +kernel
theorem dM_about_42 : decode cM_about 42 = .ok (.iload_n 2, 1) := by decide +kernel
theorem dM_about_43 : decode cM_about 43 = .ok (.iconst 2, 1) := by decide +kernel
theorem dM_about_44 : decode cM_about 44 = .ok (.if_icmp .ne 12, 3) := by decide +kernel
theorem dM_about_47 : decode cM_about 47 = .ok (.aload_n 0, 1) := by decide +kernel
theorem dM_about_48 : decode cM_about 48 = .ok (.getfield 16, 3) := by decide +kernel
theorem dM_about_51 : decode cM_about 51 = .ok (.iload_n 1, 1) := by decide +kernel
theorem dM_about_52 : decode cM_about 52 = .ok (.iaload, 1) := by decide +kernel
theorem dM_about_53 : decode cM_about 53 = .ok (.goto 19, 3) := by decide +kernel
theorem dM_about_56 : decode cM_about 56 = .ok (.iload_n 2, 1) := by decide +kernel
theorem dM_about_57 : decode cM_about 57 = .ok (.iconst 3, 1) := by decide +kernel
theorem dM_about_58 : decode cM_about 58 = .ok (.if_icmp .ne 13, 3) := by decide +kernel
theorem dM_about_61 : decode cM_about 61 = .ok (.aload_n 0, 1) := by decide +kernel
theorem dM_about_62 : decode cM_about 62 = .ok (.iload_n 1, 1) := by decide +kernel
theorem dM_about_63 : decode cM_about 63 = .ok (.invokevirtual 61, 3) := by decide +kernel
theorem dM_about_66 : decode cM_about 66 = .ok (.iconst 1, 1) := by decide +kernel
theorem dM_about_67 : decode cM_about 67 = .ok (.iadd, 1) := by decide +kernel
theorem dM_about_68 : decode cM_about 68 = .ok (.goto 4, 3) := by decide +kernel
theorem dM_about_71 : decode cM_about 71 = .ok (.iconst (-1), 1) := by decide +kernel
theorem dM_about_72 : decode cM_about 72 = .ok (.ireturn, 1) := by decide +kernel
theorem dM_count_0 : decode cM_count 0 = .ok (.aload_n 0, 1) := by decide +kernel
theorem dM_count_1 : decode cM_count 1 = .ok (.iconst 0, 1) := by decide +kernel
theorem dM_count_2 : decode cM_count 2 = .ok (.putfield 28, 3) := by decide +kernel
theorem dM_count_5 : decode cM_count 5 = .ok (.iload_n 1, 1) := by decide +kernel
theorem dM_count_6 : decode cM_count 6 = .ok (.ifCond .ne 10, 3) := by decide +kernel
theorem dM_count_9 : decode cM_count 9 = .ok (.aload_n 0, 1) := by decide +kernel
theorem dM_count_10 : decode cM_count 10 = .ok (.getfield 40, 3) := by decide +kernel
theorem dM_count_13 : decode cM_count 13 = .ok (.goto 16, 3) := by decide +kernel
theorem dM_count_16 : decode cM_count 16 = .ok (.iload_n 1, 1) := by decide +kernel
theorem dM_count_17 : decode cM_count 17 = .ok (.iconst 1, 1) := by decide +kernel
theorem dM_count_18 : decode cM_count 18 = .ok (.if_icmp .ne 10, 3) := by decide +kernel
theorem dM_count_21 : decode cM_count 21 = .ok (.aload_n 0, 1) := by decide +kernel
theorem dM_count_22 : decode cM_count 22 = .ok (.getfield 36, 3) := by decide +kernel
theorem dM_count_25 : decode cM_count 25 = .ok (.goto 4, 3) := by decide +kernel
theorem dM_count_28 : decode cM_count 28 = .ok (.iconst (-1), 1) := by decide +kernel
theorem dM_count_29 : decode cM_count 29 = .ok (.ireturn, 1) := by decide +kernel
