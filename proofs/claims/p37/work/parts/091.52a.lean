theorem dX0_init_0 : decode cX0_init 0 = .ok (.aload_n 0, 1) := by decide +kernel
theorem dX0_init_1 : decode cX0_init 1 = .ok (.invokespecial 1, 3) := by decide +kernel
theorem dX0_init_4 : decode cX0_init 4 = .ok (.aload_n 0, 1) := by decide +kernel
theorem dX0_init_5 : decode cX0_init 5 = .ok (.aload_n 1, 1) := by decide +kernel
theorem dX0_init_6 : decode cX0_init 6 = .ok (.putfield 7, 3) := by decide +kernel
theorem dX0_init_9 : decode cX0_init 9 = .ok (.aload_n 0, 1) := by decide +kernel
theorem dX0_init_10 : decode cX0_init 10 = .ok (.iload_n 2, 1) := by decide +kernel
theorem dX0_init_11 : decode cX0_init 11 = .ok (.putfield 13, 3) := by decide +kernel
theorem dX0_init_14 : decode cX0_init 14 = .ok (.aload_n 0, 1) := by decide +kernel
theorem dX0_init_15 : decode cX0_init 15 = .ok (.iload_n 3, 1) := by decide +kernel
theorem dX0_init_16 : decode cX0_init 16 = .ok (.putfield 17, 3) := by decide +kernel
theorem dX0_init_19 : decode cX0_init 19 = .ok (.aload_n 0, 1) := by decide +kernel
theorem dX0_init_20 : decode cX0_init 20 = .ok (.iload 4, 2) := by decide +kernel
theorem dX0_init_22 : decode cX0_init 22 = .ok (.putfield 20, 3) := by decide +kernel
theorem dX0_init_25 : decode cX0_init 25 = .ok (.aload_n 0, 1) := by decide +kernel
theorem dX0_init_26 : decode cX0_init 26 = .ok (.aload 5, 2) := by decide +kernel
theorem dX0_init_28 : decode cX0_init 28 = .ok (.putfield 23, 3) := by decide +kernel
theorem dX0_init_31 : decode cX0_init 31 = .ok (.return_, 1) := by decide +kernel
theorem dX1_init_0 : decode cX1_init 0 = .ok (.aload_n 0, 1) := by decide +kernel
theorem dX1_init_1 : decode cX1_init 1 = .ok (.invokespecial 1, 3) := by decide +kernel
theorem dX1_init_4 : decode cX1_init 4 = .ok (.aload_n 0, 1) := by decide +kernel
theorem dX1_init_5 : decode cX1_init 5 = .ok (.bipush 64, 2) := by decide +kernel
theorem dX1_init_7 : decode cX1_init 7 = .ok (.newarray .int, 2) := by decide +kernel
theorem dX1_init_9 : decode cX1_init 9 = .ok (.putfield 7, 3) := by decide +kernel
theorem dX1_init_12 : decode cX1_init 12 = .ok (.return_, 1) := by decide +kernel
theorem dX1_enter_0 : decode cX1_enter 0 = .ok (.aload_n 0, 1) := by decide +kernel
theorem dX1_enter_1 : decode cX1_enter 1 = .ok (.getfield 13, 3) := by decide +kernel
theorem dX1_enter_4 : decode cX1_enter 4 = .ok (.aload_n 0, 1) := by decide +kernel
theorem dX1_enter_5 : decode cX1_enter 5 = .ok (.getfield 7, 3) := by decide +kernel
theorem dX1_enter_8 : decode cX1_enter 8 = .ok (.arraylength, 1) := by decide +kernel
theorem dX1_enter_9 : decode cX1_enter 9 = .ok (.if_icmp .lt 29, 3) := by decide +kernel
theorem dX1_enter_12 : decode cX1_enter 12 = .ok (.aload_n 0, 1) := by decide +kernel
theorem dX1_enter_13 : decode cX1_enter 13 = .ok (.getfield 13, 3) := by decide +kernel
theorem dX1_enter_16 : decode cX1_enter 16 = .ok (.ldc 17, 2) := by decide +kernel
theorem dX1_enter_18 : decode cX1_enter 18 = .ok (.if_icmp .ge 20, 3) := by decide +kernel
theorem dX1_enter_21 : decode cX1_enter 21 = .ok (.aload_n 0, 1) := by decide +kernel
theorem dX1_enter_22 : decode cX1_enter 22 = .ok (.aload_n 0, 1) := by decide +kernel
theorem dX1_enter_23 : decode cX1_enter 23 = .ok (.getfield 7, 3) := by decide +kernel
theorem dX1_enter_26 : decode cX1_enter 26 = .ok (.iconst 2, 1) := by decide +kernel
theorem dX1_enter_27 : decode cX1_enter 27 = .ok (.aload_n 0, 1) := by decide +kernel
theorem dX1_enter_28 : decode cX1_enter 28 = .ok (.getfield 13, 3) := by decide +kernel
theorem dX1_enter_31 : decode cX1_enter 31 = .ok (.imul, 1) := by decide +kernel
theorem dX1_enter_32 : decode cX1_enter 32 = .ok (.invokestatic 18, 3) := by decide +kernel
theorem dX1_enter_35 : decode cX1_enter 35 = .ok (.putfield 7, 3) := by decide +kernel
theorem dX1_enter_38 : decode cX1_enter 38 = .ok (.aload_n 0, 1) := by decide +kernel
theorem dX1_enter_39 : decode cX1_enter 39 = .ok (.getfield 13, 3) := by decide +kernel
theorem dX1_enter_42 : decode cX1_enter 42 = .ok (.aload_n 0, 1) := by decide +kernel
theorem dX1_enter_43 : decode cX1_enter 43 = .ok (.getfield 7, 3) := by decide +kernel
theorem dX1_enter_46 : decode cX1_enter 46 = .ok (.arraylength, 1) := by decide +kernel
theorem dX1_enter_47 : decode cX1_enter 47 = .ok (.if_icmp .ge 33, 3) := by decide +kernel
theorem dX1_enter_50 : decode cX1_enter 50 = .ok (.aload_n 0, 1) := by decide +kernel
theorem dX1_enter_51 : decode cX1_enter 51 = .ok (.getfield 7, 3) := by decide +kernel
theorem dX1_enter_54 : decode cX1_enter 54 = .ok (.aload_n 0, 1) := by decide +kernel
theorem dX1_enter_55 : decode cX1_enter 55 = .ok (.getfield 13, 3) := by decide +kernel
theorem dX1_enter_58 : decode cX1_enter 58 = .ok (.iload_n 3, 1) := by decide +kernel
theorem dX1_enter_59 : decode cX1_enter 59 = .ok (.bipush 64, 2) := by decide +kernel
theorem dX1_enter_61 : decode cX1_enter 61 = .ok (.imul, 1) := by decide +kernel
theorem dX1_enter_62 : decode cX1_enter 62 = .ok (.iload_n 1, 1) := by decide +kernel
theorem dX1_enter_63 : decode cX1_enter 63 = .ok (.bipush 8, 2) := by decide +kernel
theorem dX1_enter_65 : decode cX1_enter 65 = .ok (.imul, 1) := by decide +kernel
theorem dX1_enter_66 : decode cX1_enter 66 = .ok (.iadd, 1) := by decide +kernel
theorem dX1_enter_67 : decode cX1_enter 67 = .ok (.iload_n 2, 1) := by decide +kernel
theorem dX1_enter_68 : decode cX1_enter 68 = .ok (.iadd, 1) := by decide +kernel
theorem dX1_enter_69 : decode cX1_enter 69 = .ok (.iastore, 1) := by decide +kernel
theorem dX1_enter_70 : decode cX1_enter 70 = .ok (.aload_n 0, 1) := by decide +kernel
theorem dX1_enter_71 : decode cX1_enter 71 = .ok (.dup, 1) := by decide +kernel
theorem dX1_enter_72 : decode cX1_enter 72 = .ok (.getfield 13, 3) := by decide +kernel
theorem dX1_enter_75 : decode cX1_enter 75 = .ok (.iconst 1, 1) := by decide +kernel
theorem dX1_enter_76 : decode cX1_enter 76 = .ok (.iadd, 1) := by decide +kernel
theorem dX1_enter_77 : decode cX1_enter 77 = .ok (.putfield 13, 3) := by decide +kernel
theorem dX1_enter_80 : decode cX1_enter 80 = .ok (.return_, 1) := by decide +kernel
theorem dX1_balanceOf_0 : decode cX1_balanceOf 0 = .ok (.lconst 0, 1) := by decide +kernel
theorem dX1_balanceOf_1 : decode cX1_balanceOf 1 = .ok (.lstore_n 2, 1) := by decide +kernel
theorem dX1_balanceOf_2 : decode cX1_balanceOf 2 = .ok (.iconst 0, 1) := by decide +kernel
theorem dX1_balanceOf_3 : decode cX1_balanceOf 3 = .ok (.istore 4, 2) := by decide +kernel
theorem dX1_balanceOf_5 : decode cX1_balanceOf 5 = .ok (.iload 4, 2) := by decide +kernel
theorem dX1_balanceOf_7 : decode cX1_balanceOf 7 = .ok (.aload_n 0, 1) := by decide +kernel
theorem dX1_balanceOf_8 : decode cX1_balanceOf 8 = .ok (.getfield 13, 3) := by decide +kernel
theorem dX1_balanceOf_11 : decode cX1_balanceOf 11 = .ok (.if_icmp .ge 74, 3) := by decide +kernel
theorem dX1_balanceOf_14 : decode cX1_balanceOf 14 = .ok (.iload 4, 2) := by decide +kernel
theorem dX1_balanceOf_16 : decode cX1_balanceOf 16 = .ok (.aload_n 0, 1) := by decide +kernel
theorem dX1_balanceOf_17 : decode cX1_balanceOf 17 = .ok (.getfield 7, 3) := by decide +kernel
theorem dX1_balanceOf_20 : decode cX1_balanceOf 20 = .ok (.arraylength, 1) := by decide +kernel
theorem dX1_balanceOf_21 : decode cX1_balanceOf 21 = .ok (.if_icmp .ge 64, 3) := by decide +kernel
theorem dX1_balanceOf_24 : decode cX1_balanceOf 24 = .ok (.aload_n 0, 1) := by decide +kernel
theorem dX1_balanceOf_25 : decode cX1_balanceOf 25 = .ok (.getfield 7, 3) := by decide +kernel
theorem dX1_balanceOf_28 : decode cX1_balanceOf 28 = .ok (.iload 4, 2) := by decide +kernel
theorem dX1_balanceOf_30 : decode cX1_balanceOf 30 = .ok (.iaload, 1) := by decide +kernel
theorem dX1_balanceOf_31 : decode cX1_balanceOf 31 = .ok (.bipush 64, 2) := by decide +kernel
theorem dX1_balanceOf_33 : decode cX1_balanceOf 33 = .ok (.idiv, 1) := by decide +kernel
theorem dX1_balanceOf_34 : decode cX1_balanceOf 34 = .ok (.istore 5, 2) := by decide +kernel
theorem dX1_balanceOf_36 : decode cX1_balanceOf 36 = .ok (.aload_n 0, 1) := by decide +kernel
theorem dX1_balanceOf_37 : decode cX1_balanceOf 37 = .ok (.getfield 7, 3) := by decide +kernel
theorem dX1_balanceOf_40 : decode cX1_balanceOf 40 = .ok (.iload 4, 2) := by decide +kernel
theorem dX1_balanceOf_42 : decode cX1_balanceOf 42 = .ok (.iaload, 1) := by decide +kernel
theorem dX1_balanceOf_43 : decode cX1_balanceOf 43 = .ok (.bipush 8, 2) := by decide +kernel
theorem dX1_balanceOf_45 : decode cX1_balanceOf 45 = .ok (.idiv, 1) := by decide +kernel
theorem dX1_balanceOf_46 : decode cX1_balanceOf 46 = .ok (.bipush 8, 2) := by decide +kernel
theorem dX1_balanceOf_48 : decode cX1_balanceOf 48 = .ok (.irem, 1) := by decide +kernel
theorem dX1_balanceOf_49 : decode cX1_balanceOf 49 = .ok (.iload_n 1, 1) := by decide +kernel
theorem dX1_balanceOf_50 : decode cX1_balanceOf 50 = .ok (.if_icmp .ne 9, 3) := by decide +kernel
theorem dX1_balanceOf_53 : decode cX1_balanceOf 53 = .ok (.lload_n 2, 1) := by decide +kernel
theorem dX1_balanceOf_54 : decode cX1_balanceOf 54 = .ok (.iload 5, 2) := by decide +kernel
theorem dX1_balanceOf_56 : decode cX1_balanceOf 56 = .ok (.i2l, 1) := by decide +kernel
theorem dX1_balanceOf_57 : decode cX1_balanceOf 57 = .ok (.lsub, 1) := by decide +kernel
theorem dX1_balanceOf_58 : decode cX1_balanceOf 58 = .ok (.lstore_n 2, 1) := by decide +kernel
theorem dX1_balanceOf_59 : decode cX1_balanceOf 59 = .ok (.aload_n 0, 1) := by decide +kernel
theorem dX1_balanceOf_60 : decode cX1_balanceOf 60 = .ok (.getfield 7, 3) := by decide +kernel
theorem dX1_balanceOf_63 : decode cX1_balanceOf 63 = .ok (.iload 4, 2) := by decide +kernel
theorem dX1_balanceOf_65 : decode cX1_balanceOf 65 = .ok (.iaload, 1) := by decide +kernel
theorem dX1_balanceOf_66 : decode cX1_balanceOf 66 = .ok (.bipush 8, 2) := by decide +kernel
theorem dX1_balanceOf_68 : decode cX1_balanceOf 68 = .ok (.irem, 1) := by decide +kernel
theorem dX1_balanceOf_69 : decode cX1_balanceOf 69 = .ok (.iload_n 1, 1) := by decide +kernel
theorem dX1_balanceOf_70 : decode cX1_balanceOf 70 = .ok (.if_icmp .ne 9, 3) := by decide +kernel
theorem dX1_balanceOf_73 : decode cX1_balanceOf 73 = .ok (.lload_n 2, 1) := by decide +kernel
theorem dX1_balanceOf_74 : decode cX1_balanceOf 74 = .ok (.iload 5, 2) := by decide +kernel
theorem dX1_balanceOf_76 : decode cX1_balanceOf 76 = .ok (.i2l, 1) := by decide +kernel
theorem dX1_balanceOf_77 : decode cX1_balanceOf 77 = .ok (.ladd, 1) := by decide +kernel
theorem dX1_balanceOf_78 : decode cX1_balanceOf 78 = .ok (.lstore_n 2, 1) := by decide +kernel
theorem dX1_balanceOf_79 : decode cX1_balanceOf 79 = .ok (.iinc 4 1, 3) := by decide +kernel
theorem dX1_balanceOf_82 : decode cX1_balanceOf 82 = .ok (.goto (-77), 3) := by decide +kernel
theorem dX1_balanceOf_85 : decode cX1_balanceOf 85 = .ok (.lload_n 2, 1) := by decide +kernel
theorem dX1_balanceOf_86 : decode cX1_balanceOf 86 = .ok (.lreturn, 1) := by decide +kernel
theorem dX2_init_0 : decode cX2_init 0 = .ok (.aload_n 0, 1) := by decide +kernel
theorem dX2_init_1 : decode cX2_init 1 = .ok (.invokespecial 3, 3) := by decide +kernel
theorem dX2_init_4 : decode cX2_init 4 = .ok (.aload_n 0, 1) := by decide +kernel
theorem dX2_init_5 : decode cX2_init 5 = .ok (.iconst (-1), 1) := by decide +kernel
theorem dX2_init_6 : decode cX2_init 6 = .ok (.putfield 9, 3) := by decide +kernel
theorem dX2_init_9 : decode cX2_init 9 = .ok (.return_, 1) := by decide +kernel
theorem dX2_latestAsDeepAs_0 : decode cX2_latestAsDeepAs 0 = .ok (.aload_n 0, 1) := by decide +kernel
theorem dX2_latestAsDeepAs_1 : decode cX2_latestAsDeepAs 1 = .ok (.getfield 15, 3) := by decide +kernel
theorem dX2_latestAsDeepAs_4 : decode cX2_latestAsDeepAs 4 = .ok (.astore_n 2, 1) := by decide +kernel
theorem dX2_latestAsDeepAs_5 : decode cX2_latestAsDeepAs 5 = .ok (.aload_n 2, 1) := by decide +kernel
theorem dX2_latestAsDeepAs_6 : decode cX2_latestAsDeepAs 6 = .ok (.ifnull 24, 3) := by decide +kernel
theorem dX2_latestAsDeepAs_9 : decode cX2_latestAsDeepAs 9 = .ok (.aload_n 2, 1) := by decide +kernel
theorem dX2_latestAsDeepAs_10 : decode cX2_latestAsDeepAs 10 = .ok (.getfield 19, 3) := by decide +kernel
theorem dX2_latestAsDeepAs_13 : decode cX2_latestAsDeepAs 13 = .ok (.getfield 25, 3) := by decide +kernel
theorem dX2_latestAsDeepAs_16 : decode cX2_latestAsDeepAs 16 = .ok (.iload_n 1, 1) := by decide +kernel
theorem dX2_latestAsDeepAs_17 : decode cX2_latestAsDeepAs 17 = .ok (.if_icmp .lt 5, 3) := by decide +kernel
theorem dX2_latestAsDeepAs_20 : decode cX2_latestAsDeepAs 20 = .ok (.aload_n 2, 1) := by decide +kernel
theorem dX2_latestAsDeepAs_21 : decode cX2_latestAsDeepAs 21 = .ok (.areturn, 1) := by decide +kernel
theorem dX2_latestAsDeepAs_22 : decode cX2_latestAsDeepAs 22 = .ok (.aload_n 2, 1) := by decide +kernel
theorem dX2_latestAsDeepAs_23 : decode cX2_latestAsDeepAs 23 = .ok (.getfield 30, 3) := by decide +kernel
theorem dX2_latestAsDeepAs_26 : decode cX2_latestAsDeepAs 26 = .ok (.astore_n 2, 1) := by decide +kernel
theorem dX2_latestAsDeepAs_27 : decode cX2_latestAsDeepAs 27 = .ok (.goto (-22), 3) := by decide +kernel
theorem dX2_latestAsDeepAs_30 : decode cX2_latestAsDeepAs 30 = .ok (.aconst_null, 1) := by decide +kernel
theorem dX2_latestAsDeepAs_31 : decode cX2_latestAsDeepAs 31 = .ok (.areturn, 1) := by decide +kernel
theorem dX3_init_0 : decode cX3_init 0 = .ok (.aload_n 0, 1) := by decide +kernel
theorem dX3_init_1 : decode cX3_init 1 = .ok (.invokespecial 1, 3) := by decide +kernel
theorem dX3_init_4 : decode cX3_init 4 = .ok (.return_, 1) := by decide +kernel
theorem dX4_init_0 : decode cX4_init 0 = .ok (.aload_n 0, 1) := by decide +kernel
theorem dX4_init_1 : decode cX4_init 1 = .ok (.invokespecial 3, 3) := by decide +kernel
theorem dX4_init_4 : decode cX4_init 4 = .ok (.aload_n 0, 1) := by decide +kernel
theorem dX4_init_5 : decode cX4_init 5 = .ok (.iconst (-1), 1) := by decide +kernel
theorem dX4_init_6 : decode cX4_init 6 = .ok (.putfield 9, 3) := by decide +kernel
theorem dX4_init_9 : decode cX4_init 9 = .ok (.aload_n 0, 1) := by decide +kernel
theorem dX4_init_10 : decode cX4_init 10 = .ok (.iconst (-1), 1) := by decide +kernel
theorem dX4_init_11 : decode cX4_init 11 = .ok (.putfield 15, 3) := by decide +kernel
theorem dX4_init_14 : decode cX4_init 14 = .ok (.aload_n 0, 1) := by decide +kernel
theorem dX4_init_15 : decode cX4_init 15 = .ok (.iconst (-1), 1) := by decide +kernel
theorem dX4_init_16 : decode cX4_init 16 = .ok (.putfield 18, 3) := by decide +kernel
theorem dX4_init_19 : decode cX4_init 19 = .ok (.aload_n 0, 1) := by decide +kernel
theorem dX4_init_20 : decode cX4_init 20 = .ok (.iconst (-1), 1) := by decide +kernel
theorem dX4_init_21 : decode cX4_init 21 = .ok (.putfield 21, 3) := by decide +kernel
theorem dX4_init_24 : decode cX4_init 24 = .ok (.aload_n 0, 1) := by decide +kernel
theorem dX4_init_25 : decode cX4_init 25 = .ok (.iload_n 1, 1) := by decide +kernel
theorem dX4_init_26 : decode cX4_init 26 = .ok (.putfield 24, 3) := by decide +kernel
theorem dX4_init_29 : decode cX4_init 29 = .ok (.aload_n 0, 1) := by decide +kernel
theorem dX4_init_30 : decode cX4_init 30 = .ok (.iload_n 3, 1) := by decide +kernel
theorem dX4_init_31 : decode cX4_init 31 = .ok (.putfield 27, 3) := by decide +kernel
theorem dX4_init_34 : decode cX4_init 34 = .ok (.aload_n 0, 1) := by decide +kernel
theorem dX4_init_35 : decode cX4_init 35 = .ok (.iload 4, 2) := by decide +kernel
theorem dX4_init_37 : decode cX4_init 37 = .ok (.putfield 30, 3) := by decide +kernel
theorem dX4_init_40 : decode cX4_init 40 = .ok (.aload_n 0, 1) := by decide +kernel
theorem dX4_init_41 : decode cX4_init 41 = .ok (.aload 5, 2) := by decide +kernel
theorem dX4_init_43 : decode cX4_init 43 = .ok (.putfield 33, 3) := by decide +kernel
theorem dX4_init_46 : decode cX4_init 46 = .ok (.aload_n 0, 1) := by decide +kernel
theorem dX4_init_47 : decode cX4_init 47 = .ok (.iload_n 2, 1) := by decide +kernel
theorem dX4_init_48 : decode cX4_init 48 = .ok (.iconst 0, 1) := by decide +kernel
theorem dX4_init_49 : decode cX4_init 49 = .ok (.invokestatic 37, 3) := by decide +kernel
theorem dX4_init_52 : decode cX4_init 52 = .ok (.anewarray 43, 3) := by decide +kernel
theorem dX4_init_55 : decode cX4_init 55 = .ok (.putfield 45, 3) := by decide +kernel
theorem dX4_init_58 : decode cX4_init 58 = .ok (.iconst 0, 1) := by decide +kernel
theorem dX4_init_59 : decode cX4_init 59 = .ok (.istore 6, 2) := by decide +kernel
theorem dX4_init_61 : decode cX4_init 61 = .ok (.iload 6, 2) := by decide +kernel
theorem dX4_init_63 : decode cX4_init 63 = .ok (.aload_n 0, 1) := by decide +kernel
theorem dX4_init_64 : decode cX4_init 64 = .ok (.getfield 45, 3) := by decide +kernel
theorem dX4_init_67 : decode cX4_init 67 = .ok (.arraylength, 1) := by decide +kernel
theorem dX4_init_68 : decode cX4_init 68 = .ok (.if_icmp .ge 23, 3) := by decide +kernel
theorem dX4_init_71 : decode cX4_init 71 = .ok (.aload_n 0, 1) := by decide +kernel
theorem dX4_init_72 : decode cX4_init 72 = .ok (.getfield 45, 3) := by decide +kernel
theorem dX4_init_75 : decode cX4_init 75 = .ok (.iload 6, 2) := by decide +kernel
theorem dX4_init_77 : decode cX4_init 77 = .ok (.new 43, 3) := by decide +kernel
theorem dX4_init_80 : decode cX4_init 80 = .ok (.dup, 1) := by decide +kernel
theorem dX4_init_81 : decode cX4_init 81 = .ok (.invokespecial 49, 3) := by decide +kernel
theorem dX4_init_84 : decode cX4_init 84 = .ok (.aastore, 1) := by decide +kernel
theorem dX4_init_85 : decode cX4_init 85 = .ok (.iinc 6 1, 3) := by decide +kernel
theorem dX4_init_88 : decode cX4_init 88 = .ok (.goto (-27), 3) := by decide +kernel
theorem dX4_init_91 : decode cX4_init 91 = .ok (.return_, 1) := by decide +kernel
theorem dX4_metreAt_0 : decode cX4_metreAt 0 = .ok (.iload_n 1, 1) := by decide +kernel
theorem dX4_metreAt_1 : decode cX4_metreAt 1 = .ok (.ifCond .lt 21, 3) := by decide +kernel
theorem dX4_metreAt_4 : decode cX4_metreAt 4 = .ok (.iload_n 1, 1) := by decide +kernel
theorem dX4_metreAt_5 : decode cX4_metreAt 5 = .ok (.aload_n 0, 1) := by decide +kernel
theorem dX4_metreAt_6 : decode cX4_metreAt 6 = .ok (.getfield 45, 3) := by decide +kernel
theorem dX4_metreAt_9 : decode cX4_metreAt 9 = .ok (.arraylength, 1) := by decide +kernel
theorem dX4_metreAt_10 : decode cX4_metreAt 10 = .ok (.if_icmp .ge 12, 3) := by decide +kernel
theorem dX4_metreAt_13 : decode cX4_metreAt 13 = .ok (.aload_n 0, 1) := by decide +kernel
theorem dX4_metreAt_14 : decode cX4_metreAt 14 = .ok (.getfield 45, 3) := by decide +kernel
theorem dX4_metreAt_17 : decode cX4_metreAt 17 = .ok (.iload_n 1, 1) := by decide +kernel
theorem dX4_metreAt_18 : decode cX4_metreAt 18 = .ok (.aaload, 1) := by decide +kernel
theorem dX4_metreAt_19 : decode cX4_metreAt 19 = .ok (.goto 4, 3) := by decide +kernel
theorem dX4_metreAt_22 : decode cX4_metreAt 22 = .ok (.aconst_null, 1) := by decide +kernel
theorem dX4_metreAt_23 : decode cX4_metreAt 23 = .ok (.areturn, 1) := by decide +kernel
theorem dX4_hasOpenMetre_0 : decode cX4_hasOpenMetre 0 = .ok (.iconst 0, 1) := by decide +kernel
theorem dX4_hasOpenMetre_1 : decode cX4_hasOpenMetre 1 = .ok (.istore_n 1, 1) := by decide +kernel
theorem dX4_hasOpenMetre_2 : decode cX4_hasOpenMetre 2 = .ok (.iload_n 1, 1) := by decide +kernel
theorem dX4_hasOpenMetre_3 : decode cX4_hasOpenMetre 3 = .ok (.aload_n 0, 1) := by decide +kernel
theorem dX4_hasOpenMetre_4 : decode cX4_hasOpenMetre 4 = .ok (.getfield 45, 3) := by decide +kernel
theorem dX4_hasOpenMetre_7 : decode cX4_hasOpenMetre 7 = .ok (.arraylength, 1) := by decide +kernel
theorem dX4_hasOpenMetre_8 : decode cX4_hasOpenMetre 8 = .ok (.if_icmp .ge 30, 3) := by decide +kernel
theorem dX4_hasOpenMetre_11 : decode cX4_hasOpenMetre 11 = .ok (.aload_n 0, 1) := by decide +kernel
theorem dX4_hasOpenMetre_12 : decode cX4_hasOpenMetre 12 = .ok (.getfield 45, 3) := by decide +kernel
theorem dX4_hasOpenMetre_15 : decode cX4_hasOpenMetre 15 = .ok (.iload_n 1, 1) := by decide +kernel
theorem dX4_hasOpenMetre_16 : decode cX4_hasOpenMetre 16 = .ok (.aaload, 1) := by decide +kernel
theorem dX4_hasOpenMetre_17 : decode cX4_hasOpenMetre 17 = .ok (.astore_n 2, 1) := by decide +kernel
theorem dX4_hasOpenMetre_18 : decode cX4_hasOpenMetre 18 = .ok (.aload_n 2, 1) := by decide +kernel
theorem dX4_hasOpenMetre_19 : decode cX4_hasOpenMetre 19 = .ok (.ifnull 13, 3) := by decide +kernel
theorem dX4_hasOpenMetre_22 : decode cX4_hasOpenMetre 22 = .ok (.aload_n 2, 1) := by decide +kernel
theorem dX4_hasOpenMetre_23 : decode cX4_hasOpenMetre 23 = .ok (.getfield 50, 3) := by decide +kernel
theorem dX4_hasOpenMetre_26 : decode cX4_hasOpenMetre 26 = .ok (.iconst (-1), 1) := by decide +kernel
theorem dX4_hasOpenMetre_27 : decode cX4_hasOpenMetre 27 = .ok (.if_icmp .eq 5, 3) := by decide +kernel
theorem dX4_hasOpenMetre_30 : decode cX4_hasOpenMetre 30 = .ok (.iconst 1, 1) := by decide +kernel
theorem dX4_hasOpenMetre_31 : decode cX4_hasOpenMetre 31 = .ok (.ireturn, 1) := by decide +kernel
theorem dX4_hasOpenMetre_32 : decode cX4_hasOpenMetre 32 = .ok (.iinc 1 1, 3) := by decide +kernel
theorem dX4_hasOpenMetre_35 : decode cX4_hasOpenMetre 35 = .ok (.goto (-33), 3) := by decide +kernel
theorem dX4_hasOpenMetre_38 : decode cX4_hasOpenMetre 38 = .ok (.iconst 0, 1) := by decide +kernel
theorem dX4_hasOpenMetre_39 : decode cX4_hasOpenMetre 39 = .ok (.ireturn, 1) := by decide +kernel
theorem dX4_hasEmbargoIn_0 : decode cX4_hasEmbargoIn 0 = .ok (.aload_n 0, 1) := by decide +kernel
theorem dX4_hasEmbargoIn_1 : decode cX4_hasEmbargoIn 1 = .ok (.getfield 9, 3) := by decide +kernel
theorem dX4_hasEmbargoIn_4 : decode cX4_hasEmbargoIn 4 = .ok (.iconst (-1), 1) := by decide +kernel
theorem dX4_hasEmbargoIn_5 : decode cX4_hasEmbargoIn 5 = .ok (.if_icmp .eq 23, 3) := by decide +kernel
theorem dX4_hasEmbargoIn_8 : decode cX4_hasEmbargoIn 8 = .ok (.iload_n 1, 1) := by decide +kernel
theorem dX4_hasEmbargoIn_9 : decode cX4_hasEmbargoIn 9 = .ok (.iload_n 2, 1) := by decide +kernel
theorem dX4_hasEmbargoIn_10 : decode cX4_hasEmbargoIn 10 = .ok (.aload_n 0, 1) := by decide +kernel
theorem dX4_hasEmbargoIn_11 : decode cX4_hasEmbargoIn 11 = .ok (.getfield 9, 3) := by decide +kernel
theorem dX4_hasEmbargoIn_14 : decode cX4_hasEmbargoIn 14 = .ok (.aload_n 0, 1) := by decide +kernel
theorem dX4_hasEmbargoIn_15 : decode cX4_hasEmbargoIn 15 = .ok (.getfield 15, 3) := by decide +kernel
theorem dX4_hasEmbargoIn_18 : decode cX4_hasEmbargoIn 18 = .ok (.invokestatic 53, 3) := by decide +kernel
theorem dX4_hasEmbargoIn_21 : decode cX4_hasEmbargoIn 21 = .ok (.ifCond .eq 7, 3) := by decide +kernel
theorem dX4_hasEmbargoIn_24 : decode cX4_hasEmbargoIn 24 = .ok (.iconst 1, 1) := by decide +kernel
theorem dX4_hasEmbargoIn_25 : decode cX4_hasEmbargoIn 25 = .ok (.goto 4, 3) := by decide +kernel
theorem dX4_hasEmbargoIn_28 : decode cX4_hasEmbargoIn 28 = .ok (.iconst 0, 1) := by decide +kernel
theorem dX4_hasEmbargoIn_29 : decode cX4_hasEmbargoIn 29 = .ok (.ireturn, 1) := by decide +kernel
theorem dX4_isNewIn_0 : decode cX4_isNewIn 0 = .ok (.aload_n 0, 1) := by decide +kernel
theorem dX4_isNewIn_1 : decode cX4_isNewIn 1 = .ok (.getfield 18, 3) := by decide +kernel
theorem dX4_isNewIn_4 : decode cX4_isNewIn 4 = .ok (.iconst (-1), 1) := by decide +kernel
theorem dX4_isNewIn_5 : decode cX4_isNewIn 5 = .ok (.if_icmp .eq 26, 3) := by decide +kernel
theorem dX4_isNewIn_8 : decode cX4_isNewIn 8 = .ok (.iload_n 1, 1) := by decide +kernel
theorem dX4_isNewIn_9 : decode cX4_isNewIn 9 = .ok (.iload_n 2, 1) := by decide +kernel
theorem dX4_isNewIn_10 : decode cX4_isNewIn 10 = .ok (.aload_n 0, 1) := by decide +kernel
theorem dX4_isNewIn_11 : decode cX4_isNewIn 11 = .ok (.getfield 18, 3) := by decide +kernel
theorem dX4_isNewIn_14 : decode cX4_isNewIn 14 = .ok (.aload_n 0, 1) := by decide +kernel
theorem dX4_isNewIn_15 : decode cX4_isNewIn 15 = .ok (.getfield 18, 3) := by decide +kernel
theorem dX4_isNewIn_18 : decode cX4_isNewIn 18 = .ok (.bipush 99, 2) := by decide +kernel
theorem dX4_isNewIn_20 : decode cX4_isNewIn 20 = .ok (.iadd, 1) := by decide +kernel
theorem dX4_isNewIn_21 : decode cX4_isNewIn 21 = .ok (.invokestatic 53, 3) := by decide +kernel
theorem dX4_isNewIn_24 : decode cX4_isNewIn 24 = .ok (.ifCond .eq 7, 3) := by decide +kernel
theorem dX4_isNewIn_27 : decode cX4_isNewIn 27 = .ok (.iconst 1, 1) := by decide +kernel
theorem dX4_isNewIn_28 : decode cX4_isNewIn 28 = .ok (.goto 4, 3) := by decide +kernel
theorem dX4_isNewIn_31 : decode cX4_isNewIn 31 = .ok (.iconst 0, 1) := by decide +kernel
theorem dX4_isNewIn_32 : decode cX4_isNewIn 32 = .ok (.ireturn, 1) := by decide +kernel
theorem dX4_weight_0 : decode cX4_weight 0 = .ok (.iconst 4, 1) := by decide +kernel
theorem dX4_weight_1 : decode cX4_weight 1 = .ok (.aload_n 0, 1) := by decide +kernel
theorem dX4_weight_2 : decode cX4_weight 2 = .ok (.getfield 27, 3) := by decide +kernel
theorem dX4_weight_5 : decode cX4_weight 5 = .ok (.isub, 1) := by decide +kernel
theorem dX4_weight_6 : decode cX4_weight 6 = .ok (.ireturn, 1) := by decide +kernel
theorem dX4_noticeOf_0 : decode cX4_noticeOf 0 = .ok (.iload_n 1, 1) := by decide +kernel
theorem dX4_noticeOf_1 : decode cX4_noticeOf 1 = .ok (.ifCond .ne 8, 3) := by decide +kernel
theorem dX4_noticeOf_4 : decode cX4_noticeOf 4 = .ok (.bipush 20, 2) := by decide +kernel
theorem dX4_noticeOf_6 : decode cX4_noticeOf 6 = .ok (.goto 23, 3) := by decide +kernel
theorem dX4_noticeOf_9 : decode cX4_noticeOf 9 = .ok (.iload_n 1, 1) := by decide +kernel
theorem dX4_noticeOf_10 : decode cX4_noticeOf 10 = .ok (.iconst 1, 1) := by decide +kernel
theorem dX4_noticeOf_11 : decode cX4_noticeOf 11 = .ok (.if_icmp .ne 8, 3) := by decide +kernel
