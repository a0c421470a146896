theorem dT_init_0 : decode cT_init 0 = .ok (.aload_n 0, 1) := by decide +kernel
theorem dT_init_1 : decode cT_init 1 = .ok (.invokespecial 3, 3) := by decide +kernel
theorem dT_init_4 : decode cT_init 4 = .ok (.aload_n 0, 1) := by decide +kernel
theorem dT_init_5 : decode cT_init 5 = .ok (.sipush 1365, 3) := by decide +kernel
theorem dT_init_8 : decode cT_init 8 = .ok (.newarray .int, 2) := by decide +kernel
theorem dT_init_10 : decode cT_init 10 = .ok (.putfield 9, 3) := by decide +kernel
theorem dT_init_13 : decode cT_init 13 = .ok (.return_, 1) := by decide +kernel
theorem dT_fill_0 : decode cT_fill 0 = .ok (.aload_n 0, 1) := by decide +kernel
theorem dT_fill_1 : decode cT_fill 1 = .ok (.iload_n 2, 1) := by decide +kernel
theorem dT_fill_2 : decode cT_fill 2 = .ok (.putfield 15, 3) := by decide +kernel
theorem dT_fill_5 : decode cT_fill 5 = .ok (.aload_n 0, 1) := by decide +kernel
theorem dT_fill_6 : decode cT_fill 6 = .ok (.iload_n 3, 1) := by decide +kernel
theorem dT_fill_7 : decode cT_fill 7 = .ok (.putfield 19, 3) := by decide +kernel
theorem dT_fill_10 : decode cT_fill 10 = .ok (.aload_n 0, 1) := by decide +kernel
theorem dT_fill_11 : decode cT_fill 11 = .ok (.iload 4, 2) := by decide +kernel
theorem dT_fill_13 : decode cT_fill 13 = .ok (.putfield 22, 3) := by decide +kernel
theorem dT_fill_16 : decode cT_fill 16 = .ok (.aload_n 0, 1) := by decide +kernel
theorem dT_fill_17 : decode cT_fill 17 = .ok (.iconst 1, 1) := by decide +kernel
theorem dT_fill_18 : decode cT_fill 18 = .ok (.putfield 25, 3) := by decide +kernel
theorem dT_fill_21 : decode cT_fill 21 = .ok (.aload_n 1, 1) := by decide +kernel
theorem dT_fill_22 : decode cT_fill 22 = .ok (.iconst 0, 1) := by decide +kernel
theorem dT_fill_23 : decode cT_fill 23 = .ok (.aload_n 0, 1) := by decide +kernel
theorem dT_fill_24 : decode cT_fill 24 = .ok (.getfield 9, 3) := by decide +kernel
theorem dT_fill_27 : decode cT_fill 27 = .ok (.iload_n 2, 1) := by decide +kernel
theorem dT_fill_28 : decode cT_fill 28 = .ok (.invokestatic 28, 3) := by decide +kernel
theorem dT_fill_31 : decode cT_fill 31 = .ok (.iload_n 2, 1) := by decide +kernel
theorem dT_fill_32 : decode cT_fill 32 = .ok (.iload_n 2, 1) := by decide +kernel
theorem dT_fill_33 : decode cT_fill 33 = .ok (.imul, 1) := by decide +kernel
theorem dT_fill_34 : decode cT_fill 34 = .ok (.invokestatic 32, 3) := by decide +kernel
theorem dT_fill_37 : decode cT_fill 37 = .ok (.iload_n 2, 1) := by decide +kernel
theorem dT_fill_38 : decode cT_fill 38 = .ok (.iconst 2, 1) := by decide +kernel
theorem dT_fill_39 : decode cT_fill 39 = .ok (.idiv, 1) := by decide +kernel
theorem dT_fill_40 : decode cT_fill 40 = .ok (.istore 5, 2) := by decide +kernel
theorem dT_fill_42 : decode cT_fill 42 = .ok (.iload 5, 2) := by decide +kernel
theorem dT_fill_44 : decode cT_fill 44 = .ok (.ifCond .le 28, 3) := by decide +kernel
theorem dT_fill_47 : decode cT_fill 47 = .ok (.aload_n 0, 1) := by decide +kernel
theorem dT_fill_48 : decode cT_fill 48 = .ok (.iload 5, 2) := by decide +kernel
theorem dT_fill_50 : decode cT_fill 50 = .ok (.invokevirtual 38, 3) := by decide +kernel
theorem dT_fill_53 : decode cT_fill 53 = .ok (.aload_n 0, 1) := by decide +kernel
theorem dT_fill_54 : decode cT_fill 54 = .ok (.dup, 1) := by decide +kernel
theorem dT_fill_55 : decode cT_fill 55 = .ok (.getfield 25, 3) := by decide +kernel
theorem dT_fill_58 : decode cT_fill 58 = .ok (.iconst 1, 1) := by decide +kernel
theorem dT_fill_59 : decode cT_fill 59 = .ok (.iadd, 1) := by decide +kernel
theorem dT_fill_60 : decode cT_fill 60 = .ok (.putfield 25, 3) := by decide +kernel
theorem dT_fill_63 : decode cT_fill 63 = .ok (.iload 5, 2) := by decide +kernel
theorem dT_fill_65 : decode cT_fill 65 = .ok (.iconst 2, 1) := by decide +kernel
theorem dT_fill_66 : decode cT_fill 66 = .ok (.idiv, 1) := by decide +kernel
theorem dT_fill_67 : decode cT_fill 67 = .ok (.istore 5, 2) := by decide +kernel
theorem dT_fill_69 : decode cT_fill 69 = .ok (.goto (-27), 3) := by decide +kernel
theorem dT_fill_72 : decode cT_fill 72 = .ok (.return_, 1) := by decide +kernel
theorem dT_startOf_0 : decode cT_startOf 0 = .ok (.iload_n 0, 1) := by decide +kernel
theorem dT_startOf_1 : decode cT_startOf 1 = .ok (.iload_n 0, 1) := by decide +kernel
theorem dT_startOf_2 : decode cT_startOf 2 = .ok (.imul, 1) := by decide +kernel
theorem dT_startOf_3 : decode cT_startOf 3 = .ok (.iconst 1, 1) := by decide +kernel
theorem dT_startOf_4 : decode cT_startOf 4 = .ok (.isub, 1) := by decide +kernel
theorem dT_startOf_5 : decode cT_startOf 5 = .ok (.iconst 3, 1) := by decide +kernel
theorem dT_startOf_6 : decode cT_startOf 6 = .ok (.idiv, 1) := by decide +kernel
theorem dT_startOf_7 : decode cT_startOf 7 = .ok (.ireturn, 1) := by decide +kernel
theorem dT_fillFromDouble_0 : decode cT_fillFromDouble 0 = .ok (.iload_n 1, 1) := by decide +kernel
theorem dT_fillFromDouble_1 : decode cT_fillFromDouble 1 = .ok (.invokestatic 28, 3) := by decide +kernel
theorem dT_fillFromDouble_4 : decode cT_fillFromDouble 4 = .ok (.istore_n 2, 1) := by decide +kernel
theorem dT_fillFromDouble_5 : decode cT_fillFromDouble 5 = .ok (.iconst 0, 1) := by decide +kernel
theorem dT_fillFromDouble_6 : decode cT_fillFromDouble 6 = .ok (.istore_n 3, 1) := by decide +kernel
theorem dT_fillFromDouble_7 : decode cT_fillFromDouble 7 = .ok (.iload_n 3, 1) := by decide +kernel
theorem dT_fillFromDouble_8 : decode cT_fillFromDouble 8 = .ok (.iload_n 1, 1) := by decide +kernel
theorem dT_fillFromDouble_9 : decode cT_fillFromDouble 9 = .ok (.if_icmp .ge 51, 3) := by decide +kernel
theorem dT_fillFromDouble_12 : decode cT_fillFromDouble 12 = .ok (.iconst 0, 1) := by decide +kernel
theorem dT_fillFromDouble_13 : decode cT_fillFromDouble 13 = .ok (.istore 4, 2) := by decide +kernel
theorem dT_fillFromDouble_15 : decode cT_fillFromDouble 15 = .ok (.iload 4, 2) := by decide +kernel
theorem dT_fillFromDouble_17 : decode cT_fillFromDouble 17 = .ok (.iload_n 1, 1) := by decide +kernel
theorem dT_fillFromDouble_18 : decode cT_fillFromDouble 18 = .ok (.if_icmp .ge 36, 3) := by decide +kernel
theorem dT_fillFromDouble_21 : decode cT_fillFromDouble 21 = .ok (.aload_n 0, 1) := by decide +kernel
theorem dT_fillFromDouble_22 : decode cT_fillFromDouble 22 = .ok (.getfield 9, 3) := by decide +kernel
theorem dT_fillFromDouble_25 : decode cT_fillFromDouble 25 = .ok (.iload_n 2, 1) := by decide +kernel
theorem dT_fillFromDouble_26 : decode cT_fillFromDouble 26 = .ok (.iload_n 3, 1) := by decide +kernel
theorem dT_fillFromDouble_27 : decode cT_fillFromDouble 27 = .ok (.iload_n 1, 1) := by decide +kernel
theorem dT_fillFromDouble_28 : decode cT_fillFromDouble 28 = .ok (.imul, 1) := by decide +kernel
theorem dT_fillFromDouble_29 : decode cT_fillFromDouble 29 = .ok (.iadd, 1) := by decide +kernel
theorem dT_fillFromDouble_30 : decode cT_fillFromDouble 30 = .ok (.iload 4, 2) := by decide +kernel
theorem dT_fillFromDouble_32 : decode cT_fillFromDouble 32 = .ok (.iadd, 1) := by decide +kernel
theorem dT_fillFromDouble_33 : decode cT_fillFromDouble 33 = .ok (.aload_n 0, 1) := by decide +kernel
theorem dT_fillFromDouble_34 : decode cT_fillFromDouble 34 = .ok (.iconst 2, 1) := by decide +kernel
theorem dT_fillFromDouble_35 : decode cT_fillFromDouble 35 = .ok (.iload_n 1, 1) := by decide +kernel
theorem dT_fillFromDouble_36 : decode cT_fillFromDouble 36 = .ok (.imul, 1) := by decide +kernel
theorem dT_fillFromDouble_37 : decode cT_fillFromDouble 37 = .ok (.iconst 2, 1) := by decide +kernel
theorem dT_fillFromDouble_38 : decode cT_fillFromDouble 38 = .ok (.iload 4, 2) := by decide +kernel
theorem dT_fillFromDouble_40 : decode cT_fillFromDouble 40 = .ok (.imul, 1) := by decide +kernel
theorem dT_fillFromDouble_41 : decode cT_fillFromDouble 41 = .ok (.iconst 2, 1) := by decide +kernel
theorem dT_fillFromDouble_42 : decode cT_fillFromDouble 42 = .ok (.iload_n 3, 1) := by decide +kernel
theorem dT_fillFromDouble_43 : decode cT_fillFromDouble 43 = .ok (.imul, 1) := by decide +kernel
theorem dT_fillFromDouble_44 : decode cT_fillFromDouble 44 = .ok (.invokevirtual 42, 3) := by decide +kernel
theorem dT_fillFromDouble_47 : decode cT_fillFromDouble 47 = .ok (.iastore, 1) := by decide +kernel
theorem dT_fillFromDouble_48 : decode cT_fillFromDouble 48 = .ok (.iinc 4 1, 3) := by decide +kernel
theorem dT_fillFromDouble_51 : decode cT_fillFromDouble 51 = .ok (.goto (-36), 3) := by decide +kernel
theorem dT_fillFromDouble_54 : decode cT_fillFromDouble 54 = .ok (.iinc 3 1, 3) := by decide +kernel
theorem dT_fillFromDouble_57 : decode cT_fillFromDouble 57 = .ok (.goto (-50), 3) := by decide +kernel
theorem dT_fillFromDouble_60 : decode cT_fillFromDouble 60 = .ok (.return_, 1) := by decide +kernel
theorem dT_meanOfFour_0 : decode cT_meanOfFour 0 = .ok (.aload_n 0, 1) := by decide +kernel
theorem dT_meanOfFour_1 : decode cT_meanOfFour 1 = .ok (.iload_n 1, 1) := by decide +kernel
theorem dT_meanOfFour_2 : decode cT_meanOfFour 2 = .ok (.iload_n 2, 1) := by decide +kernel
theorem dT_meanOfFour_3 : decode cT_meanOfFour 3 = .ok (.iload_n 3, 1) := by decide +kernel
theorem dT_meanOfFour_4 : decode cT_meanOfFour 4 = .ok (.invokevirtual 46, 3) := by decide +kernel
theorem dT_meanOfFour_7 : decode cT_meanOfFour 7 = .ok (.istore 4, 2) := by decide +kernel
theorem dT_meanOfFour_9 : decode cT_meanOfFour 9 = .ok (.aload_n 0, 1) := by decide +kernel
theorem dT_meanOfFour_10 : decode cT_meanOfFour 10 = .ok (.iload_n 1, 1) := by decide +kernel
theorem dT_meanOfFour_11 : decode cT_meanOfFour 11 = .ok (.iload_n 2, 1) := by decide +kernel
theorem dT_meanOfFour_12 : decode cT_meanOfFour 12 = .ok (.iconst 1, 1) := by decide +kernel
theorem dT_meanOfFour_13 : decode cT_meanOfFour 13 = .ok (.iadd, 1) := by decide +kernel
theorem dT_meanOfFour_14 : decode cT_meanOfFour 14 = .ok (.iload_n 3, 1) := by decide +kernel
theorem dT_meanOfFour_15 : decode cT_meanOfFour 15 = .ok (.invokevirtual 46, 3) := by decide +kernel
theorem dT_meanOfFour_18 : decode cT_meanOfFour 18 = .ok (.istore 5, 2) := by decide +kernel
theorem dT_meanOfFour_20 : decode cT_meanOfFour 20 = .ok (.aload_n 0, 1) := by decide +kernel
theorem dT_meanOfFour_21 : decode cT_meanOfFour 21 = .ok (.iload_n 1, 1) := by decide +kernel
theorem dT_meanOfFour_22 : decode cT_meanOfFour 22 = .ok (.iload_n 2, 1) := by decide +kernel
theorem dT_meanOfFour_23 : decode cT_meanOfFour 23 = .ok (.iload_n 3, 1) := by decide +kernel
theorem dT_meanOfFour_24 : decode cT_meanOfFour 24 = .ok (.iconst 1, 1) := by decide +kernel
theorem dT_meanOfFour_25 : decode cT_meanOfFour 25 = .ok (.iadd, 1) := by decide +kernel
theorem dT_meanOfFour_26 : decode cT_meanOfFour 26 = .ok (.invokevirtual 46, 3) := by decide +kernel
theorem dT_meanOfFour_29 : decode cT_meanOfFour 29 = .ok (.istore 6, 2) := by decide +kernel
theorem dT_meanOfFour_31 : decode cT_meanOfFour 31 = .ok (.aload_n 0, 1) := by decide +kernel
theorem dT_meanOfFour_32 : decode cT_meanOfFour 32 = .ok (.iload_n 1, 1) := by decide +kernel
theorem dT_meanOfFour_33 : decode cT_meanOfFour 33 = .ok (.iload_n 2, 1) := by decide +kernel
theorem dT_meanOfFour_34 : decode cT_meanOfFour 34 = .ok (.iconst 1, 1) := by decide +kernel
theorem dT_meanOfFour_35 : decode cT_meanOfFour 35 = .ok (.iadd, 1) := by decide +kernel
theorem dT_meanOfFour_36 : decode cT_meanOfFour 36 = .ok (.iload_n 3, 1) := by decide +kernel
theorem dT_meanOfFour_37 : decode cT_meanOfFour 37 = .ok (.iconst 1, 1) := by decide +kernel
theorem dT_meanOfFour_38 : decode cT_meanOfFour 38 = .ok (.iadd, 1) := by decide +kernel
theorem dT_meanOfFour_39 : decode cT_meanOfFour 39 = .ok (.invokevirtual 46, 3) := by decide +kernel
theorem dT_meanOfFour_42 : decode cT_meanOfFour 42 = .ok (.istore 7, 2) := by decide +kernel
theorem dT_meanOfFour_44 : decode cT_meanOfFour 44 = .ok (.iload 4, 2) := by decide +kernel
theorem dT_meanOfFour_46 : decode cT_meanOfFour 46 = .ok (.iload 5, 2) := by decide +kernel
theorem dT_meanOfFour_48 : decode cT_meanOfFour 48 = .ok (.iload 6, 2) := by decide +kernel
theorem dT_meanOfFour_50 : decode cT_meanOfFour 50 = .ok (.iload 7, 2) := by decide +kernel
theorem dT_meanOfFour_52 : decode cT_meanOfFour 52 = .ok (.bipush 16, 2) := by decide +kernel
theorem dT_meanOfFour_54 : decode cT_meanOfFour 54 = .ok (.invokestatic 49, 3) := by decide +kernel
theorem dT_meanOfFour_57 : decode cT_meanOfFour 57 = .ok (.iload 4, 2) := by decide +kernel
theorem dT_meanOfFour_59 : decode cT_meanOfFour 59 = .ok (.iload 5, 2) := by decide +kernel
theorem dT_meanOfFour_61 : decode cT_meanOfFour 61 = .ok (.iload 6, 2) := by decide +kernel
theorem dT_meanOfFour_63 : decode cT_meanOfFour 63 = .ok (.iload 7, 2) := by decide +kernel
theorem dT_meanOfFour_65 : decode cT_meanOfFour 65 = .ok (.bipush 8, 2) := by decide +kernel
theorem dT_meanOfFour_67 : decode cT_meanOfFour 67 = .ok (.invokestatic 49, 3) := by decide +kernel
theorem dT_meanOfFour_70 : decode cT_meanOfFour 70 = .ok (.iload 4, 2) := by decide +kernel
theorem dT_meanOfFour_72 : decode cT_meanOfFour 72 = .ok (.iload 5, 2) := by decide +kernel
theorem dT_meanOfFour_74 : decode cT_meanOfFour 74 = .ok (.iload 6, 2) := by decide +kernel
theorem dT_meanOfFour_76 : decode cT_meanOfFour 76 = .ok (.iload 7, 2) := by decide +kernel
theorem dT_meanOfFour_78 : decode cT_meanOfFour 78 = .ok (.iconst 0, 1) := by decide +kernel
theorem dT_meanOfFour_79 : decode cT_meanOfFour 79 = .ok (.invokestatic 49, 3) := by decide +kernel
theorem dT_meanOfFour_82 : decode cT_meanOfFour 82 = .ok (.invokestatic 53, 3) := by decide +kernel
theorem dT_meanOfFour_85 : decode cT_meanOfFour 85 = .ok (.ireturn, 1) := by decide +kernel
theorem dT_colourIn_0 : decode cT_colourIn 0 = .ok (.iload_n 1, 1) := by decide +kernel
theorem dT_colourIn_1 : decode cT_colourIn 1 = .ok (.bipush 32, 2) := by decide +kernel
theorem dT_colourIn_3 : decode cT_colourIn 3 = .ok (.if_icmp .gt 21, 3) := by decide +kernel
theorem dT_colourIn_6 : decode cT_colourIn 6 = .ok (.iload_n 2, 1) := by decide +kernel
theorem dT_colourIn_7 : decode cT_colourIn 7 = .ok (.ifCond .lt 17, 3) := by decide +kernel
theorem dT_colourIn_10 : decode cT_colourIn 10 = .ok (.iload_n 2, 1) := by decide +kernel
theorem dT_colourIn_11 : decode cT_colourIn 11 = .ok (.iload_n 1, 1) := by decide +kernel
theorem dT_colourIn_12 : decode cT_colourIn 12 = .ok (.if_icmp .ge 12, 3) := by decide +kernel
theorem dT_colourIn_15 : decode cT_colourIn 15 = .ok (.iload_n 3, 1) := by decide +kernel
theorem dT_colourIn_16 : decode cT_colourIn 16 = .ok (.ifCond .lt 8, 3) := by decide +kernel
theorem dT_colourIn_19 : decode cT_colourIn 19 = .ok (.iload_n 3, 1) := by decide +kernel
theorem dT_colourIn_20 : decode cT_colourIn 20 = .ok (.iload_n 1, 1) := by decide +kernel
theorem dT_colourIn_21 : decode cT_colourIn 21 = .ok (.if_icmp .lt 5, 3) := by decide +kernel
theorem dT_colourIn_24 : decode cT_colourIn 24 = .ok (.iconst (-1), 1) := by decide +kernel
theorem dT_colourIn_25 : decode cT_colourIn 25 = .ok (.ireturn, 1) := by decide +kernel
theorem dT_colourIn_26 : decode cT_colourIn 26 = .ok (.aload_n 0, 1) := by decide +kernel
theorem dT_colourIn_27 : decode cT_colourIn 27 = .ok (.getfield 9, 3) := by decide +kernel
theorem dT_colourIn_30 : decode cT_colourIn 30 = .ok (.iload_n 1, 1) := by decide +kernel
theorem dT_colourIn_31 : decode cT_colourIn 31 = .ok (.invokestatic 28, 3) := by decide +kernel
theorem dT_colourIn_34 : decode cT_colourIn 34 = .ok (.iload_n 3, 1) := by decide +kernel
theorem dT_colourIn_35 : decode cT_colourIn 35 = .ok (.iload_n 1, 1) := by decide +kernel
theorem dT_colourIn_36 : decode cT_colourIn 36 = .ok (.imul, 1) := by decide +kernel
theorem dT_colourIn_37 : decode cT_colourIn 37 = .ok (.iadd, 1) := by decide +kernel
theorem dT_colourIn_38 : decode cT_colourIn 38 = .ok (.iload_n 2, 1) := by decide +kernel
theorem dT_colourIn_39 : decode cT_colourIn 39 = .ok (.iadd, 1) := by decide +kernel
theorem dT_colourIn_40 : decode cT_colourIn 40 = .ok (.iaload, 1) := by decide +kernel
theorem dT_colourIn_41 : decode cT_colourIn 41 = .ok (.ireturn, 1) := by decide +kernel
theorem dT_meanNumber_0 : decode cT_meanNumber 0 = .ok (.iload_n 0, 1) := by decide +kernel
theorem dT_meanNumber_1 : decode cT_meanNumber 1 = .ok (.iload 4, 2) := by decide +kernel
theorem dT_meanNumber_3 : decode cT_meanNumber 3 = .ok (.invokestatic 56, 3) := by decide +kernel
theorem dT_meanNumber_6 : decode cT_meanNumber 6 = .ok (.iload_n 1, 1) := by decide +kernel
theorem dT_meanNumber_7 : decode cT_meanNumber 7 = .ok (.iload 4, 2) := by decide +kernel
theorem dT_meanNumber_9 : decode cT_meanNumber 9 = .ok (.invokestatic 56, 3) := by decide +kernel
theorem dT_meanNumber_12 : decode cT_meanNumber 12 = .ok (.ladd, 1) := by decide +kernel
theorem dT_meanNumber_13 : decode cT_meanNumber 13 = .ok (.iload_n 2, 1) := by decide +kernel
theorem dT_meanNumber_14 : decode cT_meanNumber 14 = .ok (.iload 4, 2) := by decide +kernel
theorem dT_meanNumber_16 : decode cT_meanNumber 16 = .ok (.invokestatic 56, 3) := by decide +kernel
theorem dT_meanNumber_19 : decode cT_meanNumber 19 = .ok (.ladd, 1) := by decide +kernel
theorem dT_meanNumber_20 : decode cT_meanNumber 20 = .ok (.iload_n 3, 1) := by decide +kernel
theorem dT_meanNumber_21 : decode cT_meanNumber 21 = .ok (.iload 4, 2) := by decide +kernel
theorem dT_meanNumber_23 : decode cT_meanNumber 23 = .ok (.invokestatic 56, 3) := by decide +kernel
theorem dT_meanNumber_26 : decode cT_meanNumber 26 = .ok (.ladd, 1) := by decide +kernel
theorem dT_meanNumber_27 : decode cT_meanNumber 27 = .ok (.lstore 5, 2) := by decide +kernel
theorem dT_meanNumber_29 : decode cT_meanNumber 29 = .ok (.lload 5, 2) := by decide +kernel
theorem dT_meanNumber_31 : decode cT_meanNumber 31 = .ok (.ldc2_w 60, 3) := by decide +kernel
theorem dT_meanNumber_34 : decode cT_meanNumber 34 = .ok (.invokestatic 62, 3) := by decide +kernel
theorem dT_meanNumber_37 : decode cT_meanNumber 37 = .ok (.l2i, 1) := by decide +kernel
theorem dT_meanNumber_38 : decode cT_meanNumber 38 = .ok (.ireturn, 1) := by decide +kernel
theorem dT_levelFor_0 : decode cT_levelFor 0 = .ok (.lload_n 1, 1) := by decide +kernel
theorem dT_levelFor_1 : decode cT_levelFor 1 = .ok (.aload_n 0, 1) := by decide +kernel
theorem dT_levelFor_2 : decode cT_levelFor 2 = .ok (.getfield 15, 3) := by decide +kernel
theorem dT_levelFor_5 : decode cT_levelFor 5 = .ok (.i2l, 1) := by decide +kernel
theorem dT_levelFor_6 : decode cT_levelFor 6 = .ok (.lmul, 1) := by decide +kernel
theorem dT_levelFor_7 : decode cT_levelFor 7 = .ok (.aload_n 0, 1) := by decide +kernel
theorem dT_levelFor_8 : decode cT_levelFor 8 = .ok (.getfield 15, 3) := by decide +kernel
theorem dT_levelFor_11 : decode cT_levelFor 11 = .ok (.i2l, 1) := by decide +kernel
theorem dT_levelFor_12 : decode cT_levelFor 12 = .ok (.lmul, 1) := by decide +kernel
theorem dT_levelFor_13 : decode cT_levelFor 13 = .ok (.lstore 5, 2) := by decide +kernel
theorem dT_levelFor_15 : decode cT_levelFor 15 = .ok (.lload_n 3, 1) := by decide +kernel
theorem dT_levelFor_16 : decode cT_levelFor 16 = .ok (.ldc2_w 68, 3) := by decide +kernel
theorem dT_levelFor_19 : decode cT_levelFor 19 = .ok (.lmul, 1) := by decide +kernel
theorem dT_levelFor_20 : decode cT_levelFor 20 = .ok (.lstore 7, 2) := by decide +kernel
theorem dT_levelFor_22 : decode cT_levelFor 22 = .ok (.aload_n 0, 1) := by decide +kernel
theorem dT_levelFor_23 : decode cT_levelFor 23 = .ok (.getfield 25, 3) := by decide +kernel
theorem dT_levelFor_26 : decode cT_levelFor 26 = .ok (.iconst 1, 1) := by decide +kernel
theorem dT_levelFor_27 : decode cT_levelFor 27 = .ok (.isub, 1) := by decide +kernel
theorem dT_levelFor_28 : decode cT_levelFor 28 = .ok (.istore 9, 2) := by decide +kernel
theorem dT_levelFor_30 : decode cT_levelFor 30 = .ok (.iconst 0, 1) := by decide +kernel
theorem dT_levelFor_31 : decode cT_levelFor 31 = .ok (.istore 10, 2) := by decide +kernel
theorem dT_levelFor_33 : decode cT_levelFor 33 = .ok (.iload 10, 2) := by decide +kernel
theorem dT_levelFor_35 : decode cT_levelFor 35 = .ok (.iload 9, 2) := by decide +kernel
theorem dT_levelFor_37 : decode cT_levelFor 37 = .ok (.if_icmp .ge 28, 3) := by decide +kernel
theorem dT_levelFor_40 : decode cT_levelFor 40 = .ok (.lload 5, 2) := by decide +kernel
theorem dT_levelFor_42 : decode cT_levelFor 42 = .ok (.lload 7, 2) := by decide +kernel
theorem dT_levelFor_44 : decode cT_levelFor 44 = .ok (.lcmp, 1) := by decide +kernel
theorem dT_levelFor_45 : decode cT_levelFor 45 = .ok (.ifCond .gt 6, 3) := by decide +kernel
theorem dT_levelFor_48 : decode cT_levelFor 48 = .ok (.iload 10, 2) := by decide +kernel
theorem dT_levelFor_50 : decode cT_levelFor 50 = .ok (.ireturn, 1) := by decide +kernel
theorem dT_levelFor_51 : decode cT_levelFor 51 = .ok (.lload 7, 2) := by decide +kernel
theorem dT_levelFor_53 : decode cT_levelFor 53 = .ok (.ldc2_w 60, 3) := by decide +kernel
theorem dT_levelFor_56 : decode cT_levelFor 56 = .ok (.lmul, 1) := by decide +kernel
theorem dT_levelFor_57 : decode cT_levelFor 57 = .ok (.lstore 7, 2) := by decide +kernel
theorem dT_levelFor_59 : decode cT_levelFor 59 = .ok (.iinc 10 1, 3) := by decide +kernel
theorem dT_levelFor_62 : decode cT_levelFor 62 = .ok (.goto (-29), 3) := by decide +kernel
theorem dT_levelFor_65 : decode cT_levelFor 65 = .ok (.iload 9, 2) := by decide +kernel
theorem dT_levelFor_67 : decode cT_levelFor 67 = .ok (.ireturn, 1) := by decide +kernel
theorem dT_hasLevel_0 : decode cT_hasLevel 0 = .ok (.iload_n 1, 1) := by decide +kernel
theorem dT_hasLevel_1 : decode cT_hasLevel 1 = .ok (.ifCond .lt 15, 3) := by decide +kernel
theorem dT_hasLevel_4 : decode cT_hasLevel 4 = .ok (.iload_n 1, 1) := by decide +kernel
theorem dT_hasLevel_5 : decode cT_hasLevel 5 = .ok (.aload_n 0, 1) := by decide +kernel
theorem dT_hasLevel_6 : decode cT_hasLevel 6 = .ok (.getfield 25, 3) := by decide +kernel
theorem dT_hasLevel_9 : decode cT_hasLevel 9 = .ok (.if_icmp .ge 7, 3) := by decide +kernel
theorem dT_hasLevel_12 : decode cT_hasLevel 12 = .ok (.iconst 1, 1) := by decide +kernel
theorem dT_hasLevel_13 : decode cT_hasLevel 13 = .ok (.goto 4, 3) := by decide +kernel
theorem dT_hasLevel_16 : decode cT_hasLevel 16 = .ok (.iconst 0, 1) := by decide +kernel
theorem dT_hasLevel_17 : decode cT_hasLevel 17 = .ok (.ireturn, 1) := by decide +kernel
theorem dT_sideOf_0 : decode cT_sideOf 0 = .ok (.aload_n 0, 1) := by decide +kernel
theorem dT_sideOf_1 : decode cT_sideOf 1 = .ok (.getfield 15, 3) := by decide +kernel
theorem dT_sideOf_4 : decode cT_sideOf 4 = .ok (.iload_n 1, 1) := by decide +kernel
theorem dT_sideOf_5 : decode cT_sideOf 5 = .ok (.ishr, 1) := by decide +kernel
theorem dT_sideOf_6 : decode cT_sideOf 6 = .ok (.ireturn, 1) := by decide +kernel
theorem dT_colourAt_0 : decode cT_colourAt 0 = .ok (.lload_n 2, 1) := by decide +kernel
theorem dT_colourAt_1 : decode cT_colourAt 1 = .ok (.iload_n 1, 1) := by decide +kernel
theorem dT_colourAt_2 : decode cT_colourAt 2 = .ok (.i2l, 1) := by decide +kernel
theorem dT_colourAt_3 : decode cT_colourAt 3 = .ok (.lmul, 1) := by decide +kernel
theorem dT_colourAt_4 : decode cT_colourAt 4 = .ok (.lstore 6, 2) := by decide +kernel
theorem dT_colourAt_6 : decode cT_colourAt 6 = .ok (.lload 4, 2) := by decide +kernel
theorem dT_colourAt_8 : decode cT_colourAt 8 = .ok (.iload_n 1, 1) := by decide +kernel
theorem dT_colourAt_9 : decode cT_colourAt 9 = .ok (.i2l, 1) := by decide +kernel
theorem dT_colourAt_10 : decode cT_colourAt 10 = .ok (.lmul, 1) := by decide +kernel
theorem dT_colourAt_11 : decode cT_colourAt 11 = .ok (.lstore 8, 2) := by decide +kernel
theorem dT_colourAt_13 : decode cT_colourAt 13 = .ok (.aload_n 0, 1) := by decide +kernel
theorem dT_colourAt_14 : decode cT_colourAt 14 = .ok (.getfield 22, 3) := by decide +kernel
theorem dT_colourAt_17 : decode cT_colourAt 17 = .ok (.iconst 1, 1) := by decide +kernel
theorem dT_colourAt_18 : decode cT_colourAt 18 = .ok (.if_icmp .ne 21, 3) := by decide +kernel
theorem dT_colourAt_21 : decode cT_colourAt 21 = .ok (.aload_n 0, 1) := by decide +kernel
theorem dT_colourAt_22 : decode cT_colourAt 22 = .ok (.iload_n 1, 1) := by decide +kernel
theorem dT_colourAt_23 : decode cT_colourAt 23 = .ok (.lload 6, 2) := by decide +kernel
theorem dT_colourAt_25 : decode cT_colourAt 25 = .ok (.ldc2_w 70, 3) := by decide +kernel
theorem dT_colourAt_28 : decode cT_colourAt 28 = .ok (.lsub, 1) := by decide +kernel
theorem dT_colourAt_29 : decode cT_colourAt 29 = .ok (.lload 8, 2) := by decide +kernel
theorem dT_colourAt_31 : decode cT_colourAt 31 = .ok (.ldc2_w 70, 3) := by decide +kernel
theorem dT_colourAt_34 : decode cT_colourAt 34 = .ok (.lsub, 1) := by decide +kernel
theorem dT_colourAt_35 : decode cT_colourAt 35 = .ok (.invokevirtual 72, 3) := by decide +kernel
theorem dT_colourAt_38 : decode cT_colourAt 38 = .ok (.ireturn, 1) := by decide +kernel
theorem dT_colourAt_39 : decode cT_colourAt 39 = .ok (.aload_n 0, 1) := by decide +kernel
theorem dT_colourAt_40 : decode cT_colourAt 40 = .ok (.iload_n 1, 1) := by decide +kernel
theorem dT_colourAt_41 : decode cT_colourAt 41 = .ok (.aload_n 0, 1) := by decide +kernel
theorem dT_colourAt_42 : decode cT_colourAt 42 = .ok (.lload 6, 2) := by decide +kernel
theorem dT_colourAt_44 : decode cT_colourAt 44 = .ok (.ldc2_w 76, 3) := by decide +kernel
theorem dT_colourAt_47 : decode cT_colourAt 47 = .ok (.invokestatic 62, 3) := by decide +kernel
theorem dT_colourAt_50 : decode cT_colourAt 50 = .ok (.iload_n 1, 1) := by decide +kernel
theorem dT_colourAt_51 : decode cT_colourAt 51 = .ok (.invokevirtual 78, 3) := by decide +kernel
theorem dT_colourAt_54 : decode cT_colourAt 54 = .ok (.aload_n 0, 1) := by decide +kernel
theorem dT_colourAt_55 : decode cT_colourAt 55 = .ok (.lload 8, 2) := by decide +kernel
theorem dT_colourAt_57 : decode cT_colourAt 57 = .ok (.ldc2_w 76, 3) := by decide +kernel
theorem dT_colourAt_60 : decode cT_colourAt 60 = .ok (.invokestatic 62, 3) := by decide +kernel
theorem dT_colourAt_63 : decode cT_colourAt 63 = .ok (.iload_n 1, 1) := by decide +kernel
theorem dT_colourAt_64 : decode cT_colourAt 64 = .ok (.invokevirtual 78, 3) := by decide +kernel
theorem dT_colourAt_67 : decode cT_colourAt 67 = .ok (.invokevirtual 46, 3) := by decide +kernel
theorem dT_colourAt_70 : decode cT_colourAt 70 = .ok (.ireturn, 1) := by decide +kernel
theorem dT_softColour_0 : decode cT_softColour 0 = .ok (.lload_n 2, 1) := by decide +kernel
theorem dT_softColour_1 : decode cT_softColour 1 = .ok (.ldc2_w 76, 3) := by decide +kernel
theorem dT_softColour_4 : decode cT_softColour 4 = .ok (.invokestatic 62, 3) := by decide +kernel
theorem dT_softColour_7 : decode cT_softColour 7 = .ok (.lstore 6, 2) := by decide +kernel
theorem dT_softColour_9 : decode cT_softColour 9 = .ok (.lload 4, 2) := by decide +kernel
theorem dT_softColour_11 : decode cT_softColour 11 = .ok (.ldc2_w 76, 3) := by decide +kernel
theorem dT_softColour_14 : decode cT_softColour 14 = .ok (.invokestatic 62, 3) := by decide +kernel
theorem dT_softColour_17 : decode cT_softColour 17 = .ok (.lstore 8, 2) := by decide +kernel
theorem dT_softColour_19 : decode cT_softColour 19 = .ok (.lload_n 2, 1) := by decide +kernel
theorem dT_softColour_20 : decode cT_softColour 20 = .ok (.ldc2_w 76, 3) := by decide +kernel
theorem dT_softColour_23 : decode cT_softColour 23 = .ok (.lload 6, 2) := by decide +kernel
theorem dT_softColour_25 : decode cT_softColour 25 = .ok (.lmul, 1) := by decide +kernel
theorem dT_softColour_26 : decode cT_softColour 26 = .ok (.lsub, 1) := by decide +kernel
theorem dT_softColour_27 : decode cT_softColour 27 = .ok (.ldc2_w 82, 3) := by decide +kernel
theorem dT_softColour_30 : decode cT_softColour 30 = .ok (.invokestatic 62, 3) := by decide +kernel
theorem dT_softColour_33 : decode cT_softColour 33 = .ok (.lstore 10, 2) := by decide +kernel
theorem dT_softColour_35 : decode cT_softColour 35 = .ok (.lload 4, 2) := by decide +kernel
theorem dT_softColour_37 : decode cT_softColour 37 = .ok (.ldc2_w 76, 3) := by decide +kernel
theorem dT_softColour_40 : decode cT_softColour 40 = .ok (.lload 8, 2) := by decide +kernel
theorem dT_softColour_42 : decode cT_softColour 42 = .ok (.lmul, 1) := by decide +kernel
theorem dT_softColour_43 : decode cT_softColour 43 = .ok (.lsub, 1) := by decide +kernel
theorem dT_softColour_44 : decode cT_softColour 44 = .ok (.ldc2_w 82, 3) := by decide +kernel
theorem dT_softColour_47 : decode cT_softColour 47 = .ok (.invokestatic 62, 3) := by decide +kernel
theorem dT_softColour_50 : decode cT_softColour 50 = .ok (.lstore 12, 2) := by decide +kernel
theorem dT_softColour_52 : decode cT_softColour 52 = .ok (.aload_n 0, 1) := by decide +kernel
theorem dT_softColour_53 : decode cT_softColour 53 = .ok (.lload 6, 2) := by decide +kernel
theorem dT_softColour_55 : decode cT_softColour 55 = .ok (.iload_n 1, 1) := by decide +kernel
theorem dT_softColour_56 : decode cT_softColour 56 = .ok (.invokevirtual 78, 3) := by decide +kernel
theorem dT_softColour_59 : decode cT_softColour 59 = .ok (.istore 14, 2) := by decide +kernel
theorem dT_softColour_61 : decode cT_softColour 61 = .ok (.aload_n 0, 1) := by decide +kernel
theorem dT_softColour_62 : decode cT_softColour 62 = .ok (.lload 6, 2) := by decide +kernel
theorem dT_softColour_64 : decode cT_softColour 64 = .ok (.lconst 1, 1) := by decide +kernel
theorem dT_softColour_65 : decode cT_softColour 65 = .ok (.ladd, 1) := by decide +kernel
theorem dT_softColour_66 : decode cT_softColour 66 = .ok (.iload_n 1, 1) := by decide +kernel
theorem dT_softColour_67 : decode cT_softColour 67 = .ok (.invokevirtual 78, 3) := by decide +kernel
theorem dT_softColour_70 : decode cT_softColour 70 = .ok (.istore 15, 2) := by decide +kernel
theorem dT_softColour_72 : decode cT_softColour 72 = .ok (.aload_n 0, 1) := by decide +kernel
theorem dT_softColour_73 : decode cT_softColour 73 = .ok (.lload 8, 2) := by decide +kernel
theorem dT_softColour_75 : decode cT_softColour 75 = .ok (.iload_n 1, 1) := by decide +kernel
theorem dT_softColour_76 : decode cT_softColour 76 = .ok (.invokevirtual 78, 3) := by decide +kernel
theorem dT_softColour_79 : decode cT_softColour 79 = .ok (.istore 16, 2) := by decide +kernel
theorem dT_softColour_81 : decode cT_softColour 81 = .ok (.aload_n 0, 1) := by decide +kernel
theorem dT_softColour_82 : decode cT_softColour 82 = .ok (.lload 8, 2) := by decide +kernel
theorem dT_softColour_84 : decode cT_softColour 84 = .ok (.lconst 1, 1) := by decide +kernel
theorem dT_softColour_85 : decode cT_softColour 85 = .ok (.ladd, 1) := by decide +kernel
theorem dT_softColour_86 : decode cT_softColour 86 = .ok (.iload_n 1, 1) := by decide +kernel
theorem dT_softColour_87 : decode cT_softColour 87 = .ok (.invokevirtual 78, 3) := by decide +kernel
theorem dT_softColour_90 : decode cT_softColour 90 = .ok (.istore 17, 2) := by decide +kernel
theorem dT_softColour_92 : decode cT_softColour 92 = .ok (.aload_n 0, 1) := by decide +kernel
theorem dT_softColour_93 : decode cT_softColour 93 = .ok (.iload_n 1, 1) := by decide +kernel
theorem dT_softColour_94 : decode cT_softColour 94 = .ok (.iload 14, 2) := by decide +kernel
theorem dT_softColour_96 : decode cT_softColour 96 = .ok (.iload 16, 2) := by decide +kernel
theorem dT_softColour_98 : decode cT_softColour 98 = .ok (.invokevirtual 46, 3) := by decide +kernel
theorem dT_softColour_101 : decode cT_softColour 101 = .ok (.istore 18, 2) := by decide +kernel
theorem dT_softColour_103 : decode cT_softColour 103 = .ok (.aload_n 0, 1) := by decide +kernel
theorem dT_softColour_104 : decode cT_softColour 104 = .ok (.iload_n 1, 1) := by decide +kernel
theorem dT_softColour_105 : decode cT_softColour 105 = .ok (.iload 15, 2) := by decide +kernel
theorem dT_softColour_107 : decode cT_softColour 107 = .ok (.iload 16, 2) := by decide +kernel
theorem dT_softColour_109 : decode cT_softColour 109 = .ok (.invokevirtual 46, 3) := by decide +kernel
theorem dT_softColour_112 : decode cT_softColour 112 = .ok (.istore 19, 2) := by decide +kernel
theorem dT_softColour_114 : decode cT_softColour 114 = .ok (.aload_n 0, 1) := by decide +kernel
theorem dT_softColour_115 : decode cT_softColour 115 = .ok (.iload_n 1, 1) := by decide +kernel
theorem dT_softColour_116 : decode cT_softColour 116 = .ok (.iload 14, 2) := by decide +kernel
theorem dT_softColour_118 : decode cT_softColour 118 = .ok (.iload 17, 2) := by decide +kernel
theorem dT_softColour_120 : decode cT_softColour 120 = .ok (.invokevirtual 46, 3) := by decide +kernel
theorem dT_softColour_123 : decode cT_softColour 123 = .ok (.istore 20, 2) := by decide +kernel
theorem dT_softColour_125 : decode cT_softColour 125 = .ok (.aload_n 0, 1) := by decide +kernel
theorem dT_softColour_126 : decode cT_softColour 126 = .ok (.iload_n 1, 1) := by decide +kernel
theorem dT_softColour_127 : decode cT_softColour 127 = .ok (.iload 15, 2) := by decide +kernel
theorem dT_softColour_129 : decode cT_softColour 129 = .ok (.iload 17, 2) := by decide +kernel
theorem dT_softColour_131 : decode cT_softColour 131 = .ok (.invokevirtual 46, 3) := by decide +kernel
theorem dT_softColour_134 : decode cT_softColour 134 = .ok (.istore 21, 2) := by decide +kernel
theorem dT_softColour_136 : decode cT_softColour 136 = .ok (.iload 18, 2) := by decide +kernel
theorem dT_softColour_138 : decode cT_softColour 138 = .ok (.iload 19, 2) := by decide +kernel
theorem dT_softColour_140 : decode cT_softColour 140 = .ok (.lload 10, 2) := by decide +kernel
theorem dT_softColour_142 : decode cT_softColour 142 = .ok (.bipush 16, 2) := by decide +kernel
theorem dT_softColour_144 : decode cT_softColour 144 = .ok (.invokestatic 84, 3) := by decide +kernel
theorem dT_softColour_147 : decode cT_softColour 147 = .ok (.iload 20, 2) := by decide +kernel
theorem dT_softColour_149 : decode cT_softColour 149 = .ok (.iload 21, 2) := by decide +kernel
theorem dT_softColour_151 : decode cT_softColour 151 = .ok (.lload 10, 2) := by decide +kernel
theorem dT_softColour_153 : decode cT_softColour 153 = .ok (.bipush 16, 2) := by decide +kernel
theorem dT_softColour_155 : decode cT_softColour 155 = .ok (.invokestatic 84, 3) := by decide +kernel
theorem dT_softColour_158 : decode cT_softColour 158 = .ok (.lload 12, 2) := by decide +kernel
theorem dT_softColour_160 : decode cT_softColour 160 = .ok (.invokestatic 88, 3) := by decide +kernel
theorem dT_softColour_163 : decode cT_softColour 163 = .ok (.istore 22, 2) := by decide +kernel
theorem dT_softColour_165 : decode cT_softColour 165 = .ok (.iload 18, 2) := by decide +kernel
theorem dT_softColour_167 : decode cT_softColour 167 = .ok (.iload 19, 2) := by decide +kernel
theorem dT_softColour_169 : decode cT_softColour 169 = .ok (.lload 10, 2) := by decide +kernel
theorem dT_softColour_171 : decode cT_softColour 171 = .ok (.bipush 8, 2) := by decide +kernel
theorem dT_softColour_173 : decode cT_softColour 173 = .ok (.invokestatic 84, 3) := by decide +kernel
theorem dT_softColour_176 : decode cT_softColour 176 = .ok (.iload 20, 2) := by decide +kernel
theorem dT_softColour_178 : decode cT_softColour 178 = .ok (.iload 21, 2) := by decide +kernel
theorem dT_softColour_180 : decode cT_softColour 180 = .ok (.lload 10, 2) := by decide +kernel
theorem dT_softColour_182 : decode cT_softColour 182 = .ok (.bipush 8, 2) := by decide +kernel
theorem dT_softColour_184 : decode cT_softColour 184 = .ok (.invokestatic 84, 3) := by decide +kernel
theorem dT_softColour_187 : decode cT_softColour 187 = .ok (.lload 12, 2) := by decide +kernel
theorem dT_softColour_189 : decode cT_softColour 189 = .ok (.invokestatic 88, 3) := by decide +kernel
theorem dT_softColour_192 : decode cT_softColour 192 = .ok (.istore 23, 2) := by decide +kernel
theorem dT_softColour_194 : decode cT_softColour 194 = .ok (.iload 18, 2) := by decide +kernel
theorem dT_softColour_196 : decode cT_softColour 196 = .ok (.iload 19, 2) := by decide +kernel
theorem dT_softColour_198 : decode cT_softColour 198 = .ok (.lload 10, 2) := by decide +kernel
theorem dT_softColour_200 : decode cT_softColour 200 = .ok (.iconst 0, 1) := by decide +kernel
theorem dT_softColour_201 : decode cT_softColour 201 = .ok (.invokestatic 84, 3) := by decide +kernel
theorem dT_softColour_204 : decode cT_softColour 204 = .ok (.iload 20, 2) := by decide +kernel
theorem dT_softColour_206 : decode cT_softColour 206 = .ok (.iload 21, 2) := by decide +kernel
theorem dT_softColour_208 : decode cT_softColour 208 = .ok (.lload 10, 2) := by decide +kernel
theorem dT_softColour_210 : decode cT_softColour 210 = .ok (.iconst 0, 1) := by decide +kernel
theorem dT_softColour_211 : decode cT_softColour 211 = .ok (.invokestatic 84, 3) := by decide +kernel
theorem dT_softColour_214 : decode cT_softColour 214 = .ok (.lload 12, 2) := by decide +kernel
theorem dT_softColour_216 : decode cT_softColour 216 = .ok (.invokestatic 88, 3) := by decide +kernel
theorem dT_softColour_219 : decode cT_softColour 219 = .ok (.istore 24, 2) := by decide +kernel
theorem dT_softColour_221 : decode cT_softColour 221 = .ok (.iload 22, 2) := by decide +kernel
theorem dT_softColour_223 : decode cT_softColour 223 = .ok (.iload 23, 2) := by decide +kernel
theorem dT_softColour_225 : decode cT_softColour 225 = .ok (.iload 24, 2) := by decide +kernel
theorem dT_softColour_227 : decode cT_softColour 227 = .ok (.invokestatic 53, 3) := by decide +kernel
theorem dT_softColour_230 : decode cT_softColour 230 = .ok (.ireturn, 1) := by decide +kernel
theorem dT_wrapped_0 : decode cT_wrapped 0 = .ok (.aload_n 0, 1) := by decide +kernel
theorem dT_wrapped_1 : decode cT_wrapped 1 = .ok (.getfield 19, 3) := by decide +kernel
theorem dT_wrapped_4 : decode cT_wrapped 4 = .ok (.ifCond .ne 11, 3) := by decide +kernel
theorem dT_wrapped_7 : decode cT_wrapped 7 = .ok (.lload_n 1, 1) := by decide +kernel
theorem dT_wrapped_8 : decode cT_wrapped 8 = .ok (.iload_n 3, 1) := by decide +kernel
theorem dT_wrapped_9 : decode cT_wrapped 9 = .ok (.iconst 1, 1) := by decide +kernel
theorem dT_wrapped_10 : decode cT_wrapped 10 = .ok (.isub, 1) := by decide +kernel
theorem dT_wrapped_11 : decode cT_wrapped 11 = .ok (.i2l, 1) := by decide +kernel
theorem dT_wrapped_12 : decode cT_wrapped 12 = .ok (.land, 1) := by decide +kernel
theorem dT_wrapped_13 : decode cT_wrapped 13 = .ok (.l2i, 1) := by decide +kernel
theorem dT_wrapped_14 : decode cT_wrapped 14 = .ok (.ireturn, 1) := by decide +kernel
theorem dT_wrapped_15 : decode cT_wrapped 15 = .ok (.aload_n 0, 1) := by decide +kernel
theorem dT_wrapped_16 : decode cT_wrapped 16 = .ok (.getfield 19, 3) := by decide +kernel
theorem dT_wrapped_19 : decode cT_wrapped 19 = .ok (.iconst 1, 1) := by decide +kernel
theorem dT_wrapped_20 : decode cT_wrapped 20 = .ok (.if_icmp .ne 17, 3) := by decide +kernel
theorem dT_wrapped_23 : decode cT_wrapped 23 = .ok (.lconst 0, 1) := by decide +kernel
theorem dT_wrapped_24 : decode cT_wrapped 24 = .ok (.lload_n 1, 1) := by decide +kernel
theorem dT_wrapped_25 : decode cT_wrapped 25 = .ok (.iload_n 3, 1) := by decide +kernel
theorem dT_wrapped_26 : decode cT_wrapped 26 = .ok (.i2l, 1) := by decide +kernel
theorem dT_wrapped_27 : decode cT_wrapped 27 = .ok (.lconst 1, 1) := by decide +kernel
theorem dT_wrapped_28 : decode cT_wrapped 28 = .ok (.lsub, 1) := by decide +kernel
theorem dT_wrapped_29 : decode cT_wrapped 29 = .ok (.invokestatic 92, 3) := by decide +kernel
theorem dT_wrapped_32 : decode cT_wrapped 32 = .ok (.invokestatic 95, 3) := by decide +kernel
theorem dT_wrapped_35 : decode cT_wrapped 35 = .ok (.l2i, 1) := by decide +kernel
theorem dT_wrapped_36 : decode cT_wrapped 36 = .ok (.ireturn, 1) := by decide +kernel
theorem dT_wrapped_37 : decode cT_wrapped 37 = .ok (.lload_n 1, 1) := by decide +kernel
theorem dT_wrapped_38 : decode cT_wrapped 38 = .ok (.iconst 2, 1) := by decide +kernel
theorem dT_wrapped_39 : decode cT_wrapped 39 = .ok (.iload_n 3, 1) := by decide +kernel
theorem dT_wrapped_40 : decode cT_wrapped 40 = .ok (.imul, 1) := by decide +kernel
theorem dT_wrapped_41 : decode cT_wrapped 41 = .ok (.iconst 1, 1) := by decide +kernel
theorem dT_wrapped_42 : decode cT_wrapped 42 = .ok (.isub, 1) := by decide +kernel
theorem dT_wrapped_43 : decode cT_wrapped 43 = .ok (.i2l, 1) := by decide +kernel
theorem dT_wrapped_44 : decode cT_wrapped 44 = .ok (.land, 1) := by decide +kernel
theorem dT_wrapped_45 : decode cT_wrapped 45 = .ok (.l2i, 1) := by decide +kernel
theorem dT_wrapped_46 : decode cT_wrapped 46 = .ok (.istore 4, 2) := by decide +kernel
theorem dT_wrapped_48 : decode cT_wrapped 48 = .ok (.iload 4, 2) := by decide +kernel
theorem dT_wrapped_50 : decode cT_wrapped 50 = .ok (.iload_n 3, 1) := by decide +kernel
theorem dT_wrapped_51 : decode cT_wrapped 51 = .ok (.if_icmp .lt 14, 3) := by decide +kernel
theorem dT_wrapped_54 : decode cT_wrapped 54 = .ok (.iconst 2, 1) := by decide +kernel
theorem dT_wrapped_55 : decode cT_wrapped 55 = .ok (.iload_n 3, 1) := by decide +kernel
theorem dT_wrapped_56 : decode cT_wrapped 56 = .ok (.imul, 1) := by decide +kernel
theorem dT_wrapped_57 : decode cT_wrapped 57 = .ok (.iconst 1, 1) := by decide +kernel
theorem dT_wrapped_58 : decode cT_wrapped 58 = .ok (.isub, 1) := by decide +kernel
theorem dT_wrapped_59 : decode cT_wrapped 59 = .ok (.iload 4, 2) := by decide +kernel
theorem dT_wrapped_61 : decode cT_wrapped 61 = .ok (.isub, 1) := by decide +kernel
theorem dT_wrapped_62 : decode cT_wrapped 62 = .ok (.goto 5, 3) := by decide +kernel
theorem dT_wrapped_65 : decode cT_wrapped 65 = .ok (.iload 4, 2) := by decide +kernel
theorem dT_wrapped_67 : decode cT_wrapped 67 = .ok (.ireturn, 1) := by decide +kernel
theorem dT_mixed_0 : decode cT_mixed 0 = .ok (.iload_n 0, 1) := by decide +kernel
theorem dT_mixed_1 : decode cT_mixed 1 = .ok (.iload 4, 2) := by decide +kernel
theorem dT_mixed_3 : decode cT_mixed 3 = .ok (.invokestatic 56, 3) := by decide +kernel
theorem dT_mixed_6 : decode cT_mixed 6 = .ok (.ldc2_w 82, 3) := by decide +kernel
theorem dT_mixed_9 : decode cT_mixed 9 = .ok (.lload_n 2, 1) := by decide +kernel
theorem dT_mixed_10 : decode cT_mixed 10 = .ok (.lsub, 1) := by decide +kernel
theorem dT_mixed_11 : decode cT_mixed 11 = .ok (.lmul, 1) := by decide +kernel
theorem dT_mixed_12 : decode cT_mixed 12 = .ok (.iload_n 1, 1) := by decide +kernel
theorem dT_mixed_13 : decode cT_mixed 13 = .ok (.iload 4, 2) := by decide +kernel
theorem dT_mixed_15 : decode cT_mixed 15 = .ok (.invokestatic 56, 3) := by decide +kernel
theorem dT_mixed_18 : decode cT_mixed 18 = .ok (.lload_n 2, 1) := by decide +kernel
theorem dT_mixed_19 : decode cT_mixed 19 = .ok (.lmul, 1) := by decide +kernel
theorem dT_mixed_20 : decode cT_mixed 20 = .ok (.ladd, 1) := by decide +kernel
theorem dT_mixed_21 : decode cT_mixed 21 = .ok (.lreturn, 1) := by decide +kernel
theorem dT_softNumber_0 : decode cT_softNumber 0 = .ok (.lload_n 0, 1) := by decide +kernel
theorem dT_softNumber_1 : decode cT_softNumber 1 = .ok (.ldc2_w 82, 3) := by decide +kernel
theorem dT_softNumber_4 : decode cT_softNumber 4 = .ok (.lload 4, 2) := by decide +kernel
theorem dT_softNumber_6 : decode cT_softNumber 6 = .ok (.lsub, 1) := by decide +kernel
theorem dT_softNumber_7 : decode cT_softNumber 7 = .ok (.lmul, 1) := by decide +kernel
theorem dT_softNumber_8 : decode cT_softNumber 8 = .ok (.lload_n 2, 1) := by decide +kernel
theorem dT_softNumber_9 : decode cT_softNumber 9 = .ok (.lload 4, 2) := by decide +kernel
theorem dT_softNumber_11 : decode cT_softNumber 11 = .ok (.lmul, 1) := by decide +kernel
theorem dT_softNumber_12 : decode cT_softNumber 12 = .ok (.ladd, 1) := by decide +kernel
theorem dT_softNumber_13 : decode cT_softNumber 13 = .ok (.ldc2_w 76, 3) := by decide +kernel
theorem dT_softNumber_16 : decode cT_softNumber 16 = .ok (.invokestatic 62, 3) := by decide +kernel
theorem dT_softNumber_19 : decode cT_softNumber 19 = .ok (.l2i, 1) := by decide +kernel
theorem dT_softNumber_20 : decode cT_softNumber 20 = .ok (.ireturn, 1) := by decide +kernel
