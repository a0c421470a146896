theorem dB_init_0 : decode cB_init 0 = .ok (.aload_n 0, 1) := by decide +kernel
theorem dB_init_1 : decode cB_init 1 = .ok (.invokespecial 3, 3) := by decide +kernel
theorem dB_init_4 : decode cB_init 4 = .ok (.aload_n 0, 1) := by decide +kernel
theorem dB_init_5 : decode cB_init 5 = .ok (.sipush 1024, 3) := by decide +kernel
theorem dB_init_8 : decode cB_init 8 = .ok (.newarray .int, 2) := by decide +kernel
theorem dB_init_10 : decode cB_init 10 = .ok (.putfield 9, 3) := by decide +kernel
theorem dB_init_13 : decode cB_init 13 = .ok (.aload_n 0, 1) := by decide +kernel
theorem dB_init_14 : decode cB_init 14 = .ok (.iconst 0, 1) := by decide +kernel
theorem dB_init_15 : decode cB_init 15 = .ok (.putfield 13, 3) := by decide +kernel
theorem dB_init_18 : decode cB_init 18 = .ok (.aload_n 0, 1) := by decide +kernel
theorem dB_init_19 : decode cB_init 19 = .ok (.bipush 8, 2) := by decide +kernel
theorem dB_init_21 : decode cB_init 21 = .ok (.anewarray 17, 3) := by decide +kernel
theorem dB_init_24 : decode cB_init 24 = .ok (.putfield 19, 3) := by decide +kernel
theorem dB_init_27 : decode cB_init 27 = .ok (.iconst 0, 1) := by decide +kernel
theorem dB_init_28 : decode cB_init 28 = .ok (.istore_n 1, 1) := by decide +kernel
theorem dB_init_29 : decode cB_init 29 = .ok (.iload_n 1, 1) := by decide +kernel
theorem dB_init_30 : decode cB_init 30 = .ok (.bipush 8, 2) := by decide +kernel
theorem dB_init_32 : decode cB_init 32 = .ok (.if_icmp .ge 22, 3) := by decide +kernel
theorem dB_init_35 : decode cB_init 35 = .ok (.aload_n 0, 1) := by decide +kernel
theorem dB_init_36 : decode cB_init 36 = .ok (.getfield 19, 3) := by decide +kernel
theorem dB_init_39 : decode cB_init 39 = .ok (.iload_n 1, 1) := by decide +kernel
theorem dB_init_40 : decode cB_init 40 = .ok (.new 17, 3) := by decide +kernel
theorem dB_init_43 : decode cB_init 43 = .ok (.dup, 1) := by decide +kernel
theorem dB_init_44 : decode cB_init 44 = .ok (.invokespecial 23, 3) := by decide +kernel
theorem dB_init_47 : decode cB_init 47 = .ok (.aastore, 1) := by decide +kernel
theorem dB_init_48 : decode cB_init 48 = .ok (.iinc 1 1, 3) := by decide +kernel
theorem dB_init_51 : decode cB_init 51 = .ok (.goto (-22), 3) := by decide +kernel
theorem dB_init_54 : decode cB_init 54 = .ok (.aload_n 0, 1) := by decide +kernel
theorem dB_init_55 : decode cB_init 55 = .ok (.iconst 0, 1) := by decide +kernel
theorem dB_init_56 : decode cB_init 56 = .ok (.putfield 24, 3) := by decide +kernel
theorem dB_init_59 : decode cB_init 59 = .ok (.return_, 1) := by decide +kernel
theorem dB_put_0 : decode cB_put 0 = .ok (.iload_n 1, 1) := by decide +kernel
theorem dB_put_1 : decode cB_put 1 = .ok (.invokestatic 27, 3) := by decide +kernel
theorem dB_put_4 : decode cB_put 4 = .ok (.ifCond .eq 27, 3) := by decide +kernel
theorem dB_put_7 : decode cB_put 7 = .ok (.iload_n 2, 1) := by decide +kernel
theorem dB_put_8 : decode cB_put 8 = .ok (.invokestatic 27, 3) := by decide +kernel
theorem dB_put_11 : decode cB_put 11 = .ok (.ifCond .eq 20, 3) := by decide +kernel
theorem dB_put_14 : decode cB_put 14 = .ok (.iload_n 3, 1) := by decide +kernel
theorem dB_put_15 : decode cB_put 15 = .ok (.invokestatic 27, 3) := by decide +kernel
theorem dB_put_18 : decode cB_put 18 = .ok (.ifCond .eq 13, 3) := by decide +kernel
theorem dB_put_21 : decode cB_put 21 = .ok (.aload_n 0, 1) := by decide +kernel
theorem dB_put_22 : decode cB_put 22 = .ok (.getfield 13, 3) := by decide +kernel
theorem dB_put_25 : decode cB_put 25 = .ok (.sipush 1024, 3) := by decide +kernel
theorem dB_put_28 : decode cB_put 28 = .ok (.if_icmp .lt 5, 3) := by decide +kernel
theorem dB_put_31 : decode cB_put 31 = .ok (.iconst (-1), 1) := by decide +kernel
theorem dB_put_32 : decode cB_put 32 = .ok (.ireturn, 1) := by decide +kernel
theorem dB_put_33 : decode cB_put 33 = .ok (.aload_n 0, 1) := by decide +kernel
theorem dB_put_34 : decode cB_put 34 = .ok (.getfield 9, 3) := by decide +kernel
theorem dB_put_37 : decode cB_put 37 = .ok (.aload_n 0, 1) := by decide +kernel
theorem dB_put_38 : decode cB_put 38 = .ok (.getfield 13, 3) := by decide +kernel
theorem dB_put_41 : decode cB_put 41 = .ok (.iload_n 1, 1) := by decide +kernel
theorem dB_put_42 : decode cB_put 42 = .ok (.iload_n 2, 1) := by decide +kernel
theorem dB_put_43 : decode cB_put 43 = .ok (.iload_n 3, 1) := by decide +kernel
theorem dB_put_44 : decode cB_put 44 = .ok (.invokestatic 31, 3) := by decide +kernel
theorem dB_put_47 : decode cB_put 47 = .ok (.iastore, 1) := by decide +kernel
theorem dB_put_48 : decode cB_put 48 = .ok (.aload_n 0, 1) := by decide +kernel
theorem dB_put_49 : decode cB_put 49 = .ok (.dup, 1) := by decide +kernel
theorem dB_put_50 : decode cB_put 50 = .ok (.getfield 13, 3) := by decide +kernel
theorem dB_put_53 : decode cB_put 53 = .ok (.iconst 1, 1) := by decide +kernel
theorem dB_put_54 : decode cB_put 54 = .ok (.iadd, 1) := by decide +kernel
theorem dB_put_55 : decode cB_put 55 = .ok (.putfield 13, 3) := by decide +kernel
theorem dB_put_58 : decode cB_put 58 = .ok (.aload_n 0, 1) := by decide +kernel
theorem dB_put_59 : decode cB_put 59 = .ok (.getfield 13, 3) := by decide +kernel
theorem dB_put_62 : decode cB_put 62 = .ok (.ireturn, 1) := by decide +kernel
theorem dB_isNumber_0 : decode cB_isNumber 0 = .ok (.iload_n 0, 1) := by decide +kernel
theorem dB_isNumber_1 : decode cB_isNumber 1 = .ok (.ifCond .lt 14, 3) := by decide +kernel
theorem dB_isNumber_4 : decode cB_isNumber 4 = .ok (.iload_n 0, 1) := by decide +kernel
theorem dB_isNumber_5 : decode cB_isNumber 5 = .ok (.sipush 255, 3) := by decide +kernel
theorem dB_isNumber_8 : decode cB_isNumber 8 = .ok (.if_icmp .gt 7, 3) := by decide +kernel
theorem dB_isNumber_11 : decode cB_isNumber 11 = .ok (.iconst 1, 1) := by decide +kernel
theorem dB_isNumber_12 : decode cB_isNumber 12 = .ok (.goto 4, 3) := by decide +kernel
theorem dB_isNumber_15 : decode cB_isNumber 15 = .ok (.iconst 0, 1) := by decide +kernel
theorem dB_isNumber_16 : decode cB_isNumber 16 = .ok (.ireturn, 1) := by decide +kernel
theorem dB_colourOf_0 : decode cB_colourOf 0 = .ok (.iload_n 0, 1) := by decide +kernel
theorem dB_colourOf_1 : decode cB_colourOf 1 = .ok (.bipush 16, 2) := by decide +kernel
theorem dB_colourOf_3 : decode cB_colourOf 3 = .ok (.ishl, 1) := by decide +kernel
theorem dB_colourOf_4 : decode cB_colourOf 4 = .ok (.iload_n 1, 1) := by decide +kernel
theorem dB_colourOf_5 : decode cB_colourOf 5 = .ok (.bipush 8, 2) := by decide +kernel
theorem dB_colourOf_7 : decode cB_colourOf 7 = .ok (.ishl, 1) := by decide +kernel
theorem dB_colourOf_8 : decode cB_colourOf 8 = .ok (.iadd, 1) := by decide +kernel
theorem dB_colourOf_9 : decode cB_colourOf 9 = .ok (.iload_n 2, 1) := by decide +kernel
theorem dB_colourOf_10 : decode cB_colourOf 10 = .ok (.iconst 0, 1) := by decide +kernel
theorem dB_colourOf_11 : decode cB_colourOf 11 = .ok (.ishl, 1) := by decide +kernel
theorem dB_colourOf_12 : decode cB_colourOf 12 = .ok (.iadd, 1) := by decide +kernel
theorem dB_colourOf_13 : decode cB_colourOf 13 = .ok (.ireturn, 1) := by decide +kernel
theorem dB_add_0 : decode cB_add 0 = .ok (.aload_n 0, 1) := by decide +kernel
theorem dB_add_1 : decode cB_add 1 = .ok (.getfield 13, 3) := by decide +kernel
theorem dB_add_4 : decode cB_add 4 = .ok (.istore 4, 2) := by decide +kernel
theorem dB_add_6 : decode cB_add 6 = .ok (.aload_n 0, 1) := by decide +kernel
theorem dB_add_7 : decode cB_add 7 = .ok (.iconst 0, 1) := by decide +kernel
theorem dB_add_8 : decode cB_add 8 = .ok (.putfield 13, 3) := by decide +kernel
theorem dB_add_11 : decode cB_add 11 = .ok (.aload_n 0, 1) := by decide +kernel
theorem dB_add_12 : decode cB_add 12 = .ok (.getfield 24, 3) := by decide +kernel
theorem dB_add_15 : decode cB_add 15 = .ok (.bipush 8, 2) := by decide +kernel
theorem dB_add_17 : decode cB_add 17 = .ok (.if_icmp .ge 24, 3) := by decide +kernel
theorem dB_add_20 : decode cB_add 20 = .ok (.iload_n 1, 1) := by decide +kernel
theorem dB_add_21 : decode cB_add 21 = .ok (.invokestatic 35, 3) := by decide +kernel
theorem dB_add_24 : decode cB_add 24 = .ok (.ifCond .eq 17, 3) := by decide +kernel
theorem dB_add_27 : decode cB_add 27 = .ok (.iload_n 2, 1) := by decide +kernel
theorem dB_add_28 : decode cB_add 28 = .ok (.invokestatic 38, 3) := by decide +kernel
theorem dB_add_31 : decode cB_add 31 = .ok (.ifCond .eq 10, 3) := by decide +kernel
theorem dB_add_34 : decode cB_add 34 = .ok (.iload_n 3, 1) := by decide +kernel
theorem dB_add_35 : decode cB_add 35 = .ok (.invokestatic 41, 3) := by decide +kernel
theorem dB_add_38 : decode cB_add 38 = .ok (.ifCond .ne 5, 3) := by decide +kernel
theorem dB_add_41 : decode cB_add 41 = .ok (.iconst (-1), 1) := by decide +kernel
theorem dB_add_42 : decode cB_add 42 = .ok (.ireturn, 1) := by decide +kernel
theorem dB_add_43 : decode cB_add 43 = .ok (.iload 4, 2) := by decide +kernel
theorem dB_add_45 : decode cB_add 45 = .ok (.iload_n 1, 1) := by decide +kernel
theorem dB_add_46 : decode cB_add 46 = .ok (.iload_n 1, 1) := by decide +kernel
theorem dB_add_47 : decode cB_add 47 = .ok (.imul, 1) := by decide +kernel
theorem dB_add_48 : decode cB_add 48 = .ok (.if_icmp .eq 5, 3) := by decide +kernel
theorem dB_add_51 : decode cB_add 51 = .ok (.iconst (-1), 1) := by decide +kernel
theorem dB_add_52 : decode cB_add 52 = .ok (.ireturn, 1) := by decide +kernel
theorem dB_add_53 : decode cB_add 53 = .ok (.aload_n 0, 1) := by decide +kernel
theorem dB_add_54 : decode cB_add 54 = .ok (.getfield 24, 3) := by decide +kernel
theorem dB_add_57 : decode cB_add 57 = .ok (.istore 5, 2) := by decide +kernel
theorem dB_add_59 : decode cB_add 59 = .ok (.aload_n 0, 1) := by decide +kernel
theorem dB_add_60 : decode cB_add 60 = .ok (.getfield 19, 3) := by decide +kernel
theorem dB_add_63 : decode cB_add 63 = .ok (.iload 5, 2) := by decide +kernel
theorem dB_add_65 : decode cB_add 65 = .ok (.aaload, 1) := by decide +kernel
theorem dB_add_66 : decode cB_add 66 = .ok (.aload_n 0, 1) := by decide +kernel
theorem dB_add_67 : decode cB_add 67 = .ok (.getfield 9, 3) := by decide +kernel
theorem dB_add_70 : decode cB_add 70 = .ok (.iload_n 1, 1) := by decide +kernel
theorem dB_add_71 : decode cB_add 71 = .ok (.iload_n 2, 1) := by decide +kernel
theorem dB_add_72 : decode cB_add 72 = .ok (.iload_n 3, 1) := by decide +kernel
theorem dB_add_73 : decode cB_add 73 = .ok (.invokevirtual 44, 3) := by decide +kernel
theorem dB_add_76 : decode cB_add 76 = .ok (.aload_n 0, 1) := by decide +kernel
theorem dB_add_77 : decode cB_add 77 = .ok (.dup, 1) := by decide +kernel
theorem dB_add_78 : decode cB_add 78 = .ok (.getfield 24, 3) := by decide +kernel
theorem dB_add_81 : decode cB_add 81 = .ok (.iconst 1, 1) := by decide +kernel
theorem dB_add_82 : decode cB_add 82 = .ok (.iadd, 1) := by decide +kernel
theorem dB_add_83 : decode cB_add 83 = .ok (.putfield 24, 3) := by decide +kernel
theorem dB_add_86 : decode cB_add 86 = .ok (.iload 5, 2) := by decide +kernel
theorem dB_add_88 : decode cB_add 88 = .ok (.ireturn, 1) := by decide +kernel
theorem dB_isSide_0 : decode cB_isSide 0 = .ok (.iload_n 0, 1) := by decide +kernel
theorem dB_isSide_1 : decode cB_isSide 1 = .ok (.iconst 1, 1) := by decide +kernel
theorem dB_isSide_2 : decode cB_isSide 2 = .ok (.if_icmp .lt 21, 3) := by decide +kernel
theorem dB_isSide_5 : decode cB_isSide 5 = .ok (.iload_n 0, 1) := by decide +kernel
theorem dB_isSide_6 : decode cB_isSide 6 = .ok (.bipush 32, 2) := by decide +kernel
theorem dB_isSide_8 : decode cB_isSide 8 = .ok (.if_icmp .gt 15, 3) := by decide +kernel
theorem dB_isSide_11 : decode cB_isSide 11 = .ok (.iload_n 0, 1) := by decide +kernel
theorem dB_isSide_12 : decode cB_isSide 12 = .ok (.invokestatic 122, 3) := by decide +kernel
theorem dB_isSide_15 : decode cB_isSide 15 = .ok (.iconst 1, 1) := by decide +kernel
theorem dB_isSide_16 : decode cB_isSide 16 = .ok (.if_icmp .ne 7, 3) := by decide +kernel
theorem dB_isSide_19 : decode cB_isSide 19 = .ok (.iconst 1, 1) := by decide +kernel
theorem dB_isSide_20 : decode cB_isSide 20 = .ok (.goto 4, 3) := by decide +kernel
theorem dB_isSide_23 : decode cB_isSide 23 = .ok (.iconst 0, 1) := by decide +kernel
theorem dB_isSide_24 : decode cB_isSide 24 = .ok (.ireturn, 1) := by decide +kernel
theorem dB_isWrap_0 : decode cB_isWrap 0 = .ok (.iload_n 0, 1) := by decide +kernel
theorem dB_isWrap_1 : decode cB_isWrap 1 = .ok (.ifCond .eq 13, 3) := by decide +kernel
theorem dB_isWrap_4 : decode cB_isWrap 4 = .ok (.iload_n 0, 1) := by decide +kernel
theorem dB_isWrap_5 : decode cB_isWrap 5 = .ok (.iconst 1, 1) := by decide +kernel
theorem dB_isWrap_6 : decode cB_isWrap 6 = .ok (.if_icmp .eq 8, 3) := by decide +kernel
theorem dB_isWrap_9 : decode cB_isWrap 9 = .ok (.iload_n 0, 1) := by decide +kernel
theorem dB_isWrap_10 : decode cB_isWrap 10 = .ok (.iconst 2, 1) := by decide +kernel
theorem dB_isWrap_11 : decode cB_isWrap 11 = .ok (.if_icmp .ne 7, 3) := by decide +kernel
theorem dB_isWrap_14 : decode cB_isWrap 14 = .ok (.iconst 1, 1) := by decide +kernel
theorem dB_isWrap_15 : decode cB_isWrap 15 = .ok (.goto 4, 3) := by decide +kernel
theorem dB_isWrap_18 : decode cB_isWrap 18 = .ok (.iconst 0, 1) := by decide +kernel
theorem dB_isWrap_19 : decode cB_isWrap 19 = .ok (.ireturn, 1) := by decide +kernel
theorem dB_isSoft_0 : decode cB_isSoft 0 = .ok (.iload_n 0, 1) := by decide +kernel
theorem dB_isSoft_1 : decode cB_isSoft 1 = .ok (.ifCond .eq 8, 3) := by decide +kernel
theorem dB_isSoft_4 : decode cB_isSoft 4 = .ok (.iload_n 0, 1) := by decide +kernel
theorem dB_isSoft_5 : decode cB_isSoft 5 = .ok (.iconst 1, 1) := by decide +kernel
theorem dB_isSoft_6 : decode cB_isSoft 6 = .ok (.if_icmp .ne 7, 3) := by decide +kernel
theorem dB_isSoft_9 : decode cB_isSoft 9 = .ok (.iconst 1, 1) := by decide +kernel
theorem dB_isSoft_10 : decode cB_isSoft 10 = .ok (.goto 4, 3) := by decide +kernel
theorem dB_isSoft_13 : decode cB_isSoft 13 = .ok (.iconst 0, 1) := by decide +kernel
theorem dB_isSoft_14 : decode cB_isSoft 14 = .ok (.ireturn, 1) := by decide +kernel
theorem dB_numberOf_0 : decode cB_numberOf 0 = .ok (.iload_n 0, 1) := by decide +kernel
theorem dB_numberOf_1 : decode cB_numberOf 1 = .ok (.iload_n 1, 1) := by decide +kernel
theorem dB_numberOf_2 : decode cB_numberOf 2 = .ok (.ishr, 1) := by decide +kernel
theorem dB_numberOf_3 : decode cB_numberOf 3 = .ok (.sipush 255, 3) := by decide +kernel
theorem dB_numberOf_6 : decode cB_numberOf 6 = .ok (.iand, 1) := by decide +kernel
theorem dB_numberOf_7 : decode cB_numberOf 7 = .ok (.i2l, 1) := by decide +kernel
theorem dB_numberOf_8 : decode cB_numberOf 8 = .ok (.lreturn, 1) := by decide +kernel
theorem dB_clear_0 : decode cB_clear 0 = .ok (.aload_n 0, 1) := by decide +kernel
theorem dB_clear_1 : decode cB_clear 1 = .ok (.iconst 0, 1) := by decide +kernel
theorem dB_clear_2 : decode cB_clear 2 = .ok (.putfield 24, 3) := by decide +kernel
theorem dB_clear_5 : decode cB_clear 5 = .ok (.return_, 1) := by decide +kernel
theorem dB_about_0 : decode cB_about 0 = .ok (.aload_n 0, 1) := by decide +kernel
theorem dB_about_1 : decode cB_about 1 = .ok (.iload_n 1, 1) := by decide +kernel
theorem dB_about_2 : decode cB_about 2 = .ok (.invokevirtual 48, 3) := by decide +kernel
theorem dB_about_5 : decode cB_about 5 = .ok (.astore_n 3, 1) := by decide +kernel
theorem dB_about_6 : decode cB_about 6 = .ok (.aload_n 3, 1) := by decide +kernel
theorem dB_about_7 : decode cB_about 7 = .ok (.ifnonnull 5, 3) := by decide +kernel
theorem dB_about_10 : decode cB_about 10 = .ok (.iconst (-1), 1) := by decide +kernel
theorem dB_about_11 : decode cB_about 11 = .ok (.ireturn, 1) := by decide +kernel
theorem dB_about_12 : decode cB_about 12 = .ok (.iload_n 2, 1) := by decide +kernel
theorem dB_about_13 : decode cB_about 13 = .ok (.tableswitch 51 0 3 #[31, 36, 41, 46], 31) := by decide +kernel
theorem dB_about_44 : decode cB_about 44 = .ok (.aload_n 3, 1) := by decide +kernel
theorem dB_about_45 : decode cB_about 45 = .ok (.getfield 109, 3) := by decide +kernel
theorem dB_about_48 : decode cB_about 48 = .ok (.ireturn, 1) := by decide +kernel
theorem dB_about_49 : decode cB_about 49 = .ok (.aload_n 3, 1) := by decide +kernel
theorem dB_about_50 : decode cB_about 50 = .ok (.getfield 112, 3) := by decide +kernel
theorem dB_about_53 : decode cB_about 53 = .ok (.ireturn, 1) := by decide +kernel
theorem dB_about_54 : decode cB_about 54 = .ok (.aload_n 3, 1) := by decide +kernel
theorem dB_about_55 : decode cB_about 55 = .ok (.getfield 115, 3) := by decide +kernel
theorem dB_about_58 : decode cB_about 58 = .ok (.ireturn, 1) := by decide +kernel
theorem dB_about_59 : decode cB_about 59 = .ok (.aload_n 3, 1) := by decide +kernel
theorem dB_about_60 : decode cB_about 60 = .ok (.getfield 118, 3) := by decide +kernel
theorem dB_about_63 : decode cB_about 63 = .ok (.ireturn, 1) := by decide +kernel
theorem dB_about_64 : decode cB_about 64 = .ok (.iconst (-1), 1) := by decide +kernel
theorem dB_about_65 : decode cB_about 65 = .ok (.ireturn, 1) := by decide +kernel
theorem dB_find_0 : decode cB_find 0 = .ok (.iload_n 1, 1) := by decide +kernel
theorem dB_find_1 : decode cB_find 1 = .ok (.ifCond .lt 11, 3) := by decide +kernel
theorem dB_find_4 : decode cB_find 4 = .ok (.iload_n 1, 1) := by decide +kernel
theorem dB_find_5 : decode cB_find 5 = .ok (.aload_n 0, 1) := by decide +kernel
theorem dB_find_6 : decode cB_find 6 = .ok (.getfield 24, 3) := by decide +kernel
theorem dB_find_9 : decode cB_find 9 = .ok (.if_icmp .lt 5, 3) := by decide +kernel
theorem dB_find_12 : decode cB_find 12 = .ok (.aconst_null, 1) := by decide +kernel
theorem dB_find_13 : decode cB_find 13 = .ok (.areturn, 1) := by decide +kernel
theorem dB_find_14 : decode cB_find 14 = .ok (.aload_n 0, 1) := by decide +kernel
theorem dB_find_15 : decode cB_find 15 = .ok (.getfield 19, 3) := by decide +kernel
theorem dB_find_18 : decode cB_find 18 = .ok (.iload_n 1, 1) := by decide +kernel
theorem dB_find_19 : decode cB_find 19 = .ok (.aaload, 1) := by decide +kernel
theorem dB_find_20 : decode cB_find 20 = .ok (.areturn, 1) := by decide +kernel
theorem dB_count_0 : decode cB_count 0 = .ok (.iload_n 1, 1) := by decide +kernel
theorem dB_count_1 : decode cB_count 1 = .ok (.lookupswitch 37 #[(0, 27), (1, 32)], 27) := by decide +kernel
theorem dB_count_28 : decode cB_count 28 = .ok (.aload_n 0, 1) := by decide +kernel
theorem dB_count_29 : decode cB_count 29 = .ok (.getfield 24, 3) := by decide +kernel
theorem dB_count_32 : decode cB_count 32 = .ok (.ireturn, 1) := by decide +kernel
theorem dB_count_33 : decode cB_count 33 = .ok (.aload_n 0, 1) := by decide +kernel
theorem dB_count_34 : decode cB_count 34 = .ok (.getfield 13, 3) := by decide +kernel
theorem dB_count_37 : decode cB_count 37 = .ok (.ireturn, 1) := by decide +kernel
theorem dB_count_38 : decode cB_count 38 = .ok (.iconst (-1), 1) := by decide +kernel
theorem dB_count_39 : decode cB_count 39 = .ok (.ireturn, 1) := by decide +kernel
theorem dB_level_0 : decode cB_level 0 = .ok (.aload_n 0, 1) := by decide +kernel
theorem dB_level_1 : decode cB_level 1 = .ok (.iload_n 1, 1) := by decide +kernel
theorem dB_level_2 : decode cB_level 2 = .ok (.invokevirtual 48, 3) := by decide +kernel
theorem dB_level_5 : decode cB_level 5 = .ok (.astore 5, 2) := by decide +kernel
theorem dB_level_7 : decode cB_level 7 = .ok (.aload 5, 2) := by decide +kernel
theorem dB_level_9 : decode cB_level 9 = .ok (.ifnonnull 13, 3) := by decide +kernel
theorem dB_level_12 : decode cB_level 12 = .ok (.new 52, 3) := by decide +kernel
theorem dB_level_15 : decode cB_level 15 = .ok (.dup, 1) := by decide +kernel
theorem dB_level_16 : decode cB_level 16 = .ok (.ldc 54, 2) := by decide +kernel
theorem dB_level_18 : decode cB_level 18 = .ok (.invokespecial 56, 3) := by decide +kernel
theorem dB_level_21 : decode cB_level 21 = .ok (.athrow, 1) := by decide +kernel
theorem dB_level_22 : decode cB_level 22 = .ok (.lload_n 2, 1) := by decide +kernel
theorem dB_level_23 : decode cB_level 23 = .ok (.lconst 0, 1) := by decide +kernel
theorem dB_level_24 : decode cB_level 24 = .ok (.lcmp, 1) := by decide +kernel
theorem dB_level_25 : decode cB_level 25 = .ok (.ifCond .lt 11, 3) := by decide +kernel
theorem dB_level_28 : decode cB_level 28 = .ok (.lload_n 2, 1) := by decide +kernel
theorem dB_level_29 : decode cB_level 29 = .ok (.ldc2_w 59, 3) := by decide +kernel
theorem dB_level_32 : decode cB_level 32 = .ok (.lcmp, 1) := by decide +kernel
theorem dB_level_33 : decode cB_level 33 = .ok (.ifCond .le 13, 3) := by decide +kernel
theorem dB_level_36 : decode cB_level 36 = .ok (.new 61, 3) := by decide +kernel
theorem dB_level_39 : decode cB_level 39 = .ok (.dup, 1) := by decide +kernel
theorem dB_level_40 : decode cB_level 40 = .ok (.ldc 63, 2) := by decide +kernel
theorem dB_level_42 : decode cB_level 42 = .ok (.invokespecial 65, 3) := by decide +kernel
theorem dB_level_45 : decode cB_level 45 = .ok (.athrow, 1) := by decide +kernel
theorem dB_level_46 : decode cB_level 46 = .ok (.iload 4, 2) := by decide +kernel
theorem dB_level_48 : decode cB_level 48 = .ok (.iconst 1, 1) := by decide +kernel
theorem dB_level_49 : decode cB_level 49 = .ok (.if_icmp .lt 10, 3) := by decide +kernel
theorem dB_level_52 : decode cB_level 52 = .ok (.iload 4, 2) := by decide +kernel
theorem dB_level_54 : decode cB_level 54 = .ok (.ldc 66, 2) := by decide +kernel
theorem dB_level_56 : decode cB_level 56 = .ok (.if_icmp .le 13, 3) := by decide +kernel
theorem dB_level_59 : decode cB_level 59 = .ok (.new 61, 3) := by decide +kernel
theorem dB_level_62 : decode cB_level 62 = .ok (.dup, 1) := by decide +kernel
theorem dB_level_63 : decode cB_level 63 = .ok (.ldc 67, 2) := by decide +kernel
theorem dB_level_65 : decode cB_level 65 = .ok (.invokespecial 65, 3) := by decide +kernel
theorem dB_level_68 : decode cB_level 68 = .ok (.athrow, 1) := by decide +kernel
theorem dB_level_69 : decode cB_level 69 = .ok (.aload 5, 2) := by decide +kernel
theorem dB_level_71 : decode cB_level 71 = .ok (.lload_n 2, 1) := by decide +kernel
theorem dB_level_72 : decode cB_level 72 = .ok (.iload 4, 2) := by decide +kernel
theorem dB_level_74 : decode cB_level 74 = .ok (.i2l, 1) := by decide +kernel
theorem dB_level_75 : decode cB_level 75 = .ok (.invokevirtual 69, 3) := by decide +kernel
theorem dB_level_78 : decode cB_level 78 = .ok (.ireturn, 1) := by decide +kernel
theorem dB_lookUp_0 : decode cB_lookUp 0 = .ok (.aload_n 0, 1) := by decide +kernel
theorem dB_lookUp_1 : decode cB_lookUp 1 = .ok (.iload_n 1, 1) := by decide +kernel
theorem dB_lookUp_2 : decode cB_lookUp 2 = .ok (.invokevirtual 48, 3) := by decide +kernel
theorem dB_lookUp_5 : decode cB_lookUp 5 = .ok (.astore 5, 2) := by decide +kernel
theorem dB_lookUp_7 : decode cB_lookUp 7 = .ok (.aload 5, 2) := by decide +kernel
theorem dB_lookUp_9 : decode cB_lookUp 9 = .ok (.ifnull 12, 3) := by decide +kernel
theorem dB_lookUp_12 : decode cB_lookUp 12 = .ok (.aload 5, 2) := by decide +kernel
theorem dB_lookUp_14 : decode cB_lookUp 14 = .ok (.iload_n 2, 1) := by decide +kernel
theorem dB_lookUp_15 : decode cB_lookUp 15 = .ok (.invokevirtual 73, 3) := by decide +kernel
theorem dB_lookUp_18 : decode cB_lookUp 18 = .ok (.ifCond .ne 13, 3) := by decide +kernel
theorem dB_lookUp_21 : decode cB_lookUp 21 = .ok (.new 52, 3) := by decide +kernel
theorem dB_lookUp_24 : decode cB_lookUp 24 = .ok (.dup, 1) := by decide +kernel
theorem dB_lookUp_25 : decode cB_lookUp 25 = .ok (.ldc 76, 2) := by decide +kernel
theorem dB_lookUp_27 : decode cB_lookUp 27 = .ok (.invokespecial 56, 3) := by decide +kernel
theorem dB_lookUp_30 : decode cB_lookUp 30 = .ok (.athrow, 1) := by decide +kernel
theorem dB_lookUp_31 : decode cB_lookUp 31 = .ok (.iload_n 3, 1) := by decide +kernel
theorem dB_lookUp_32 : decode cB_lookUp 32 = .ok (.invokestatic 78, 3) := by decide +kernel
theorem dB_lookUp_35 : decode cB_lookUp 35 = .ok (.ifCond .eq 11, 3) := by decide +kernel
theorem dB_lookUp_38 : decode cB_lookUp 38 = .ok (.iload 4, 2) := by decide +kernel
theorem dB_lookUp_40 : decode cB_lookUp 40 = .ok (.invokestatic 78, 3) := by decide +kernel
theorem dB_lookUp_43 : decode cB_lookUp 43 = .ok (.ifCond .ne 13, 3) := by decide +kernel
theorem dB_lookUp_46 : decode cB_lookUp 46 = .ok (.new 61, 3) := by decide +kernel
theorem dB_lookUp_49 : decode cB_lookUp 49 = .ok (.dup, 1) := by decide +kernel
theorem dB_lookUp_50 : decode cB_lookUp 50 = .ok (.ldc 81, 2) := by decide +kernel
theorem dB_lookUp_52 : decode cB_lookUp 52 = .ok (.invokespecial 65, 3) := by decide +kernel
theorem dB_lookUp_55 : decode cB_lookUp 55 = .ok (.athrow, 1) := by decide +kernel
theorem dB_lookUp_56 : decode cB_lookUp 56 = .ok (.aload 5, 2) := by decide +kernel
theorem dB_lookUp_58 : decode cB_lookUp 58 = .ok (.aload 5, 2) := by decide +kernel
theorem dB_lookUp_60 : decode cB_lookUp 60 = .ok (.iload_n 2, 1) := by decide +kernel
theorem dB_lookUp_61 : decode cB_lookUp 61 = .ok (.invokevirtual 83, 3) := by decide +kernel
theorem dB_lookUp_64 : decode cB_lookUp 64 = .ok (.iload_n 3, 1) := by decide +kernel
theorem dB_lookUp_65 : decode cB_lookUp 65 = .ok (.i2l, 1) := by decide +kernel
theorem dB_lookUp_66 : decode cB_lookUp 66 = .ok (.iload 4, 2) := by decide +kernel
theorem dB_lookUp_68 : decode cB_lookUp 68 = .ok (.i2l, 1) := by decide +kernel
theorem dB_lookUp_69 : decode cB_lookUp 69 = .ok (.invokevirtual 87, 3) := by decide +kernel
theorem dB_lookUp_72 : decode cB_lookUp 72 = .ok (.ireturn, 1) := by decide +kernel
theorem dB_isPlace_0 : decode cB_isPlace 0 = .ok (.iload_n 0, 1) := by decide +kernel
theorem dB_isPlace_1 : decode cB_isPlace 1 = .ok (.ldc 127, 2) := by decide +kernel
theorem dB_isPlace_3 : decode cB_isPlace 3 = .ok (.if_icmp .lt 13, 3) := by decide +kernel
theorem dB_isPlace_6 : decode cB_isPlace 6 = .ok (.iload_n 0, 1) := by decide +kernel
theorem dB_isPlace_7 : decode cB_isPlace 7 = .ok (.ldc 66, 2) := by decide +kernel
theorem dB_isPlace_9 : decode cB_isPlace 9 = .ok (.if_icmp .gt 7, 3) := by decide +kernel
theorem dB_isPlace_12 : decode cB_isPlace 12 = .ok (.iconst 1, 1) := by decide +kernel
theorem dB_isPlace_13 : decode cB_isPlace 13 = .ok (.goto 4, 3) := by decide +kernel
theorem dB_isPlace_16 : decode cB_isPlace 16 = .ok (.iconst 0, 1) := by decide +kernel
theorem dB_isPlace_17 : decode cB_isPlace 17 = .ok (.ireturn, 1) := by decide +kernel
theorem dB_texel_0 : decode cB_texel 0 = .ok (.aload_n 0, 1) := by decide +kernel
theorem dB_texel_1 : decode cB_texel 1 = .ok (.iload_n 1, 1) := by decide +kernel
theorem dB_texel_2 : decode cB_texel 2 = .ok (.invokevirtual 48, 3) := by decide +kernel
theorem dB_texel_5 : decode cB_texel 5 = .ok (.astore 5, 2) := by decide +kernel
theorem dB_texel_7 : decode cB_texel 7 = .ok (.aload 5, 2) := by decide +kernel
theorem dB_texel_9 : decode cB_texel 9 = .ok (.ifnull 12, 3) := by decide +kernel
theorem dB_texel_12 : decode cB_texel 12 = .ok (.aload 5, 2) := by decide +kernel
theorem dB_texel_14 : decode cB_texel 14 = .ok (.iload_n 2, 1) := by decide +kernel
theorem dB_texel_15 : decode cB_texel 15 = .ok (.invokevirtual 73, 3) := by decide +kernel
theorem dB_texel_18 : decode cB_texel 18 = .ok (.ifCond .ne 13, 3) := by decide +kernel
theorem dB_texel_21 : decode cB_texel 21 = .ok (.new 52, 3) := by decide +kernel
theorem dB_texel_24 : decode cB_texel 24 = .ok (.dup, 1) := by decide +kernel
theorem dB_texel_25 : decode cB_texel 25 = .ok (.ldc 76, 2) := by decide +kernel
theorem dB_texel_27 : decode cB_texel 27 = .ok (.invokespecial 56, 3) := by decide +kernel
theorem dB_texel_30 : decode cB_texel 30 = .ok (.athrow, 1) := by decide +kernel
theorem dB_texel_31 : decode cB_texel 31 = .ok (.aload 5, 2) := by decide +kernel
theorem dB_texel_33 : decode cB_texel 33 = .ok (.aload 5, 2) := by decide +kernel
theorem dB_texel_35 : decode cB_texel 35 = .ok (.iload_n 2, 1) := by decide +kernel
theorem dB_texel_36 : decode cB_texel 36 = .ok (.invokevirtual 83, 3) := by decide +kernel
theorem dB_texel_39 : decode cB_texel 39 = .ok (.iload_n 3, 1) := by decide +kernel
theorem dB_texel_40 : decode cB_texel 40 = .ok (.iload 4, 2) := by decide +kernel
theorem dB_texel_42 : decode cB_texel 42 = .ok (.invokevirtual 91, 3) := by decide +kernel
theorem dB_texel_45 : decode cB_texel 45 = .ok (.istore 6, 2) := by decide +kernel
theorem dB_texel_47 : decode cB_texel 47 = .ok (.iload 6, 2) := by decide +kernel
theorem dB_texel_49 : decode cB_texel 49 = .ok (.iconst (-1), 1) := by decide +kernel
theorem dB_texel_50 : decode cB_texel 50 = .ok (.if_icmp .ne 13, 3) := by decide +kernel
theorem dB_texel_53 : decode cB_texel 53 = .ok (.new 52, 3) := by decide +kernel
theorem dB_texel_56 : decode cB_texel 56 = .ok (.dup, 1) := by decide +kernel
theorem dB_texel_57 : decode cB_texel 57 = .ok (.ldc 94, 2) := by decide +kernel
theorem dB_texel_59 : decode cB_texel 59 = .ok (.invokespecial 56, 3) := by decide +kernel
theorem dB_texel_62 : decode cB_texel 62 = .ok (.athrow, 1) := by decide +kernel
theorem dB_texel_63 : decode cB_texel 63 = .ok (.iload 6, 2) := by decide +kernel
theorem dB_texel_65 : decode cB_texel 65 = .ok (.ireturn, 1) := by decide +kernel
theorem dB_lit_0 : decode cB_lit 0 = .ok (.iload_n 1, 1) := by decide +kernel
theorem dB_lit_1 : decode cB_lit 1 = .ok (.invokestatic 96, 3) := by decide +kernel
theorem dB_lit_4 : decode cB_lit 4 = .ok (.ifCond .eq 10, 3) := by decide +kernel
theorem dB_lit_7 : decode cB_lit 7 = .ok (.iload_n 2, 1) := by decide +kernel
theorem dB_lit_8 : decode cB_lit 8 = .ok (.invokestatic 96, 3) := by decide +kernel
theorem dB_lit_11 : decode cB_lit 11 = .ok (.ifCond .ne 13, 3) := by decide +kernel
theorem dB_lit_14 : decode cB_lit 14 = .ok (.new 61, 3) := by decide +kernel
theorem dB_lit_17 : decode cB_lit 17 = .ok (.dup, 1) := by decide +kernel
theorem dB_lit_18 : decode cB_lit 18 = .ok (.ldc 99, 2) := by decide +kernel
theorem dB_lit_20 : decode cB_lit 20 = .ok (.invokespecial 65, 3) := by decide +kernel
theorem dB_lit_23 : decode cB_lit 23 = .ok (.athrow, 1) := by decide +kernel
theorem dB_lit_24 : decode cB_lit 24 = .ok (.iload_n 3, 1) := by decide +kernel
theorem dB_lit_25 : decode cB_lit 25 = .ok (.ifCond .lt 12, 3) := by decide +kernel
theorem dB_lit_28 : decode cB_lit 28 = .ok (.iload_n 3, 1) := by decide +kernel
theorem dB_lit_29 : decode cB_lit 29 = .ok (.i2l, 1) := by decide +kernel
theorem dB_lit_30 : decode cB_lit 30 = .ok (.ldc2_w 101, 3) := by decide +kernel
theorem dB_lit_33 : decode cB_lit 33 = .ok (.lcmp, 1) := by decide +kernel
theorem dB_lit_34 : decode cB_lit 34 = .ok (.ifCond .le 13, 3) := by decide +kernel
theorem dB_lit_37 : decode cB_lit 37 = .ok (.new 61, 3) := by decide +kernel
theorem dB_lit_40 : decode cB_lit 40 = .ok (.dup, 1) := by decide +kernel
theorem dB_lit_41 : decode cB_lit 41 = .ok (.ldc 103, 2) := by decide +kernel
theorem dB_lit_43 : decode cB_lit 43 = .ok (.invokespecial 65, 3) := by decide +kernel
theorem dB_lit_46 : decode cB_lit 46 = .ok (.athrow, 1) := by decide +kernel
theorem dB_lit_47 : decode cB_lit 47 = .ok (.iload_n 1, 1) := by decide +kernel
theorem dB_lit_48 : decode cB_lit 48 = .ok (.iload_n 2, 1) := by decide +kernel
theorem dB_lit_49 : decode cB_lit 49 = .ok (.iload_n 3, 1) := by decide +kernel
theorem dB_lit_50 : decode cB_lit 50 = .ok (.bipush 16, 2) := by decide +kernel
theorem dB_lit_52 : decode cB_lit 52 = .ok (.invokestatic 105, 3) := by decide +kernel
theorem dB_lit_55 : decode cB_lit 55 = .ok (.iload_n 1, 1) := by decide +kernel
theorem dB_lit_56 : decode cB_lit 56 = .ok (.iload_n 2, 1) := by decide +kernel
theorem dB_lit_57 : decode cB_lit 57 = .ok (.iload_n 3, 1) := by decide +kernel
theorem dB_lit_58 : decode cB_lit 58 = .ok (.bipush 8, 2) := by decide +kernel
theorem dB_lit_60 : decode cB_lit 60 = .ok (.invokestatic 105, 3) := by decide +kernel
theorem dB_lit_63 : decode cB_lit 63 = .ok (.iload_n 1, 1) := by decide +kernel
theorem dB_lit_64 : decode cB_lit 64 = .ok (.iload_n 2, 1) := by decide +kernel
theorem dB_lit_65 : decode cB_lit 65 = .ok (.iload_n 3, 1) := by decide +kernel
theorem dB_lit_66 : decode cB_lit 66 = .ok (.iconst 0, 1) := by decide +kernel
theorem dB_lit_67 : decode cB_lit 67 = .ok (.invokestatic 105, 3) := by decide +kernel
theorem dB_lit_70 : decode cB_lit 70 = .ok (.invokestatic 31, 3) := by decide +kernel
theorem dB_lit_73 : decode cB_lit 73 = .ok (.ireturn, 1) := by decide +kernel
theorem dB_isColour_0 : decode cB_isColour 0 = .ok (.iload_n 0, 1) := by decide +kernel
theorem dB_isColour_1 : decode cB_isColour 1 = .ok (.ifCond .lt 13, 3) := by decide +kernel
theorem dB_isColour_4 : decode cB_isColour 4 = .ok (.iload_n 0, 1) := by decide +kernel
theorem dB_isColour_5 : decode cB_isColour 5 = .ok (.ldc 121, 2) := by decide +kernel
theorem dB_isColour_7 : decode cB_isColour 7 = .ok (.if_icmp .gt 7, 3) := by decide +kernel
theorem dB_isColour_10 : decode cB_isColour 10 = .ok (.iconst 1, 1) := by decide +kernel
theorem dB_isColour_11 : decode cB_isColour 11 = .ok (.goto 4, 3) := by decide +kernel
theorem dB_isColour_14 : decode cB_isColour 14 = .ok (.iconst 0, 1) := by decide +kernel
theorem dB_isColour_15 : decode cB_isColour 15 = .ok (.ireturn, 1) := by decide +kernel
theorem dB_litNumber_0 : decode cB_litNumber 0 = .ok (.iload_n 0, 1) := by decide +kernel
theorem dB_litNumber_1 : decode cB_litNumber 1 = .ok (.iload_n 3, 1) := by decide +kernel
theorem dB_litNumber_2 : decode cB_litNumber 2 = .ok (.invokestatic 128, 3) := by decide +kernel
theorem dB_litNumber_5 : decode cB_litNumber 5 = .ok (.iload_n 1, 1) := by decide +kernel
theorem dB_litNumber_6 : decode cB_litNumber 6 = .ok (.iload_n 3, 1) := by decide +kernel
theorem dB_litNumber_7 : decode cB_litNumber 7 = .ok (.invokestatic 128, 3) := by decide +kernel
theorem dB_litNumber_10 : decode cB_litNumber 10 = .ok (.lmul, 1) := by decide +kernel
theorem dB_litNumber_11 : decode cB_litNumber 11 = .ok (.ldc2_w 132, 3) := by decide +kernel
theorem dB_litNumber_14 : decode cB_litNumber 14 = .ok (.invokestatic 134, 3) := by decide +kernel
theorem dB_litNumber_17 : decode cB_litNumber 17 = .ok (.lstore 4, 2) := by decide +kernel
theorem dB_litNumber_19 : decode cB_litNumber 19 = .ok (.lload 4, 2) := by decide +kernel
theorem dB_litNumber_21 : decode cB_litNumber 21 = .ok (.iload_n 2, 1) := by decide +kernel
theorem dB_litNumber_22 : decode cB_litNumber 22 = .ok (.i2l, 1) := by decide +kernel
theorem dB_litNumber_23 : decode cB_litNumber 23 = .ok (.lmul, 1) := by decide +kernel
theorem dB_litNumber_24 : decode cB_litNumber 24 = .ok (.ldc2_w 101, 3) := by decide +kernel
theorem dB_litNumber_27 : decode cB_litNumber 27 = .ok (.invokestatic 134, 3) := by decide +kernel
theorem dB_litNumber_30 : decode cB_litNumber 30 = .ok (.l2i, 1) := by decide +kernel
theorem dB_litNumber_31 : decode cB_litNumber 31 = .ok (.ireturn, 1) := by decide +kernel
