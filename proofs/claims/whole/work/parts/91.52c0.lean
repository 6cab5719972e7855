theorem dX0_init_0 : decode cX0_init 0 = .ok (.aload_n 0, 1) := by decide +kernel
theorem dX0_init_1 : decode cX0_init 1 = .ok (.invokespecial 1, 3) := by decide +kernel
theorem dX0_init_4 : decode cX0_init 4 = .ok (.aload_n 0, 1) := by decide +kernel
theorem dX0_init_5 : decode cX0_init 5 = .ok (.aload_n 1, 1) := by decide +kernel
theorem dX0_init_6 : decode cX0_init 6 = .ok (.putfield 7, 3) := by decide +kernel
theorem dX0_init_9 : decode cX0_init 9 = .ok (.aload_n 0, 1) := by decide +kernel
theorem dX0_init_10 : decode cX0_init 10 = .ok (.iload_n 2, 1) := by decide +kernel
theorem dX0_init_11 : decode cX0_init 11 = .ok (.putfield 13, 3) := by decide +kernel
theorem dX0_init_14 : decode cX0_init 14 = .ok (.aload_n 0, 1) := by decide +kernel
theorem dX0_init_15 : decode cX0_init 15 = .ok (.iload_n 3, 1) := by decide +kernel
theorem dX0_init_16 : decode cX0_init 16 = .ok (.putfield 17, 3) := by decide +kernel
theorem dX0_init_19 : decode cX0_init 19 = .ok (.aload_n 0, 1) := by decide +kernel
theorem dX0_init_20 : decode cX0_init 20 = .ok (.iload 4, 2) := by decide +kernel
theorem dX0_init_22 : decode cX0_init 22 = .ok (.putfield 20, 3) := by decide +kernel
theorem dX0_init_25 : decode cX0_init 25 = .ok (.aload_n 0, 1) := by decide +kernel
theorem dX0_init_26 : decode cX0_init 26 = .ok (.aload 5, 2) := by decide +kernel
theorem dX0_init_28 : decode cX0_init 28 = .ok (.putfield 23, 3) := by decide +kernel
theorem dX0_init_31 : decode cX0_init 31 = .ok (.return_, 1) := by decide +kernel
theorem dX1_init_0 : decode cX1_init 0 = .ok (.aload_n 0, 1) := by decide +kernel
theorem dX1_init_1 : decode cX1_init 1 = .ok (.invokespecial 1, 3) := by decide +kernel
theorem dX1_init_4 : decode cX1_init 4 = .ok (.aload_n 0, 1) := by decide +kernel
theorem dX1_init_5 : decode cX1_init 5 = .ok (.bipush 64, 2) := by decide +kernel
theorem dX1_init_7 : decode cX1_init 7 = .ok (.newarray .int, 2) := by decide +kernel
theorem dX1_init_9 : decode cX1_init 9 = .ok (.putfield 7, 3) := by decide +kernel
theorem dX1_init_12 : decode cX1_init 12 = .ok (.return_, 1) := by decide +kernel
theorem dX1_enter_0 : decode cX1_enter 0 = .ok (.aload_n 0, 1) := by decide +kernel
theorem dX1_enter_1 : decode cX1_enter 1 = .ok (.getfield 13, 3) := by decide +kernel
theorem dX1_enter_4 : decode cX1_enter 4 = .ok (.aload_n 0, 1) := by decide +kernel
theorem dX1_enter_5 : decode cX1_enter 5 = .ok (.getfield 7, 3) := by decide +kernel
theorem dX1_enter_8 : decode cX1_enter 8 = .ok (.arraylength, 1) := by decide +kernel
theorem dX1_enter_9 : decode cX1_enter 9 = .ok (.if_icmp .lt 29, 3) := by decide +kernel
theorem dX1_enter_12 : decode cX1_enter 12 = .ok (.aload_n 0, 1) := by decide +kernel
theorem dX1_enter_13 : decode cX1_enter 13 = .ok (.getfield 13, 3) := by decide +kernel
theorem dX1_enter_16 : decode cX1_enter 16 = .ok (.ldc 17, 2) := by decide +kernel
theorem dX1_enter_18 : decode cX1_enter 18 = .ok (.if_icmp .ge 20, 3) := by decide +kernel
theorem dX1_enter_21 : decode cX1_enter 21 = .ok (.aload_n 0, 1) := by decide +kernel
theorem dX1_enter_22 : decode cX1_enter 22 = .ok (.aload_n 0, 1) := by decide +kernel
theorem dX1_enter_23 : decode cX1_enter 23 = .ok (.getfield 7, 3) := by decide +kernel
theorem dX1_enter_26 : decode cX1_enter 26 = .ok (.iconst 2, 1) := by decide +kernel
theorem dX1_enter_27 : decode cX1_enter 27 = .ok (.aload_n 0, 1) := by decide +kernel
theorem dX1_enter_28 : decode cX1_enter 28 = .ok (.getfield 13, 3) := by decide +kernel
theorem dX1_enter_31 : decode cX1_enter 31 = .ok (.imul, 1) := by decide +kernel
theorem dX1_enter_32 : decode cX1_enter 32 = .ok (.invokestatic 18, 3) := by decide +kernel
theorem dX1_enter_35 : decode cX1_enter 35 = .ok (.putfield 7, 3) := by decide +kernel
theorem dX1_enter_38 : decode cX1_enter 38 = .ok (.aload_n 0, 1) := by decide +kernel
theorem dX1_enter_39 : decode cX1_enter 39 = .ok (.getfield 13, 3) := by decide +kernel
theorem dX1_enter_42 : decode cX1_enter 42 = .ok (.aload_n 0, 1) := by decide +kernel
theorem dX1_enter_43 : decode cX1_enter 43 = .ok (.getfield 7, 3) := by decide +kernel
theorem dX1_enter_46 : decode cX1_enter 46 = .ok (.arraylength, 1) := by decide +kernel
theorem dX1_enter_47 : decode cX1_enter 47 = .ok (.if_icmp .ge 33, 3) := by decide +kernel
theorem dX1_enter_50 : decode cX1_enter 50 = .ok (.aload_n 0, 1) := by decide +kernel
theorem dX1_enter_51 : decode cX1_enter 51 = .ok (.getfield 7, 3) := by decide +kernel
theorem dX1_enter_54 : decode cX1_enter 54 = .ok (.aload_n 0, 1) := by decide +kernel
theorem dX1_enter_55 : decode cX1_enter 55 = .ok (.getfield 13, 3) := by decide +kernel
theorem dX1_enter_58 : decode cX1_enter 58 = .ok (.iload_n 3, 1) := by decide +kernel
theorem dX1_enter_59 : decode cX1_enter 59 = .ok (.bipush 64, 2) := by decide +kernel
theorem dX1_enter_61 : decode cX1_enter 61 = .ok (.imul, 1) := by decide +kernel
theorem dX1_enter_62 : decode cX1_enter 62 = .ok (.iload_n 1, 1) := by decide +kernel
theorem dX1_enter_63 : decode cX1_enter 63 = .ok (.bipush 8, 2) := by decide +kernel
theorem dX1_enter_65 : decode cX1_enter 65 = .ok (.imul, 1) := by decide +kernel
theorem dX1_enter_66 : decode cX1_enter 66 = .ok (.iadd, 1) := by decide +kernel
theorem dX1_enter_67 : decode cX1_enter 67 = .ok (.iload_n 2, 1) := by decide +kernel
theorem dX1_enter_68 : decode cX1_enter 68 = .ok (.iadd, 1) := by decide +kernel
theorem dX1_enter_69 : decode cX1_enter 69 = .ok (.iastore, 1) := by decide +kernel
theorem dX1_enter_70 : decode cX1_enter 70 = .ok (.aload_n 0, 1) := by decide +kernel
theorem dX1_enter_71 : decode cX1_enter 71 = .ok (.dup, 1) := by decide +kernel
theorem dX1_enter_72 : decode cX1_enter 72 = .ok (.getfield 13, 3) := by decide +kernel
theorem dX1_enter_75 : decode cX1_enter 75 = .ok (.iconst 1, 1) := by decide +kernel
theorem dX1_enter_76 : decode cX1_enter 76 = .ok (.iadd, 1) := by decide +kernel
theorem dX1_enter_77 : decode cX1_enter 77 = .ok (.putfield 13, 3) := by decide +kernel
theorem dX1_enter_80 : decode cX1_enter 80 = .ok (.return_, 1) := by decide +kernel
theorem dX1_balanceOf_0 : decode cX1_balanceOf 0 = .ok (.lconst 0, 1) := by decide +kernel
theorem dX1_balanceOf_1 : decode cX1_balanceOf 1 = .ok (.lstore_n 2, 1) := by decide +kernel
theorem dX1_balanceOf_2 : decode cX1_balanceOf 2 = .ok (.iconst 0, 1) := by decide +kernel
theorem dX1_balanceOf_3 : decode cX1_balanceOf 3 = .ok (.istore 4, 2) := by decide +kernel
theorem dX1_balanceOf_5 : decode cX1_balanceOf 5 = .ok (.iload 4, 2) := by decide +kernel
theorem dX1_balanceOf_7 : decode cX1_balanceOf 7 = .ok (.aload_n 0, 1) := by decide +kernel
theorem dX1_balanceOf_8 : decode cX1_balanceOf 8 = .ok (.getfield 13, 3) := by decide +kernel
theorem dX1_balanceOf_11 : decode cX1_balanceOf 11 = .ok (.if_icmp .ge 74, 3) := by decide +kernel
theorem dX1_balanceOf_14 : decode cX1_balanceOf 14 = .ok (.iload 4, 2) := by decide +kernel
theorem dX1_balanceOf_16 : decode cX1_balanceOf 16 = .ok (.aload_n 0, 1) := by decide +kernel
theorem dX1_balanceOf_17 : decode cX1_balanceOf 17 = .ok (.getfield 7, 3) := by decide +kernel
theorem dX1_balanceOf_20 : decode cX1_balanceOf 20 = .ok (.arraylength, 1) := by decide +kernel
theorem dX1_balanceOf_21 : decode cX1_balanceOf 21 = .ok (.if_icmp .ge 64, 3) := by decide +kernel
theorem dX1_balanceOf_24 : decode cX1_balanceOf 24 = .ok (.aload_n 0, 1) := by decide +kernel
theorem dX1_balanceOf_25 : decode cX1_balanceOf 25 = .ok (.getfield 7, 3) := by decide +kernel
theorem dX1_balanceOf_28 : decode cX1_balanceOf 28 = .ok (.iload 4, 2) := by decide +kernel
theorem dX1_balanceOf_30 : decode cX1_balanceOf 30 = .ok (.iaload, 1) := by decide +kernel
theorem dX1_balanceOf_31 : decode cX1_balanceOf 31 = .ok (.bipush 64, 2) := by decide +kernel
theorem dX1_balanceOf_33 : decode cX1_balanceOf 33 = .ok (.idiv, 1) := by decide +kernel
theorem dX1_balanceOf_34 : decode cX1_balanceOf 34 = .ok (.istore 5, 2) := by decide +kernel
theorem dX1_balanceOf_36 : decode cX1_balanceOf 36 = .ok (.aload_n 0, 1) := by decide +kernel
theorem dX1_balanceOf_37 : decode cX1_balanceOf 37 = .ok (.getfield 7, 3) := by decide +kernel
theorem dX1_balanceOf_40 : decode cX1_balanceOf 40 = .ok (.iload 4, 2) := by decide +kernel
theorem dX1_balanceOf_42 : decode cX1_balanceOf 42 = .ok (.iaload, 1) := by decide +kernel
theorem dX1_balanceOf_43 : decode cX1_balanceOf 43 = .ok (.bipush 8, 2) := by decide +kernel
theorem dX1_balanceOf_45 : decode cX1_balanceOf 45 = .ok (.idiv, 1) := by decide +kernel
theorem dX1_balanceOf_46 : decode cX1_balanceOf 46 = .ok (.bipush 8, 2) := by decide +kernel
theorem dX1_balanceOf_48 : decode cX1_balanceOf 48 = .ok (.irem, 1) := by decide +kernel
theorem dX1_balanceOf_49 : decode cX1_balanceOf 49 = .ok (.iload_n 1, 1) := by decide +kernel
theorem dX1_balanceOf_50 : decode cX1_balanceOf 50 = .ok (.if_icmp .ne 9, 3) := by decide +kernel
theorem dX1_balanceOf_53 : decode cX1_balanceOf 53 = .ok (.lload_n 2, 1) := by decide +kernel
theorem dX1_balanceOf_54 : decode cX1_balanceOf 54 = .ok (.iload 5, 2) := by decide +kernel
theorem dX1_balanceOf_56 : decode cX1_balanceOf 56 = .ok (.i2l, 1) := by decide +kernel
theorem dX1_balanceOf_57 : decode cX1_balanceOf 57 = .ok (.lsub, 1) := by decide +kernel
theorem dX1_balanceOf_58 : decode cX1_balanceOf 58 = .ok (.lstore_n 2, 1) := by decide +kernel
theorem dX1_balanceOf_59 : decode cX1_balanceOf 59 = .ok (.aload_n 0, 1) := by decide +kernel
theorem dX1_balanceOf_60 : decode cX1_balanceOf 60 = .ok (.getfield 7, 3) := by decide +kernel
theorem dX1_balanceOf_63 : decode cX1_balanceOf 63 = .ok (.iload 4, 2) := by decide +kernel
theorem dX1_balanceOf_65 : decode cX1_balanceOf 65 = .ok (.iaload, 1) := by decide +kernel
theorem dX1_balanceOf_66 : decode cX1_balanceOf 66 = .ok (.bipush 8, 2) := by decide +kernel
theorem dX1_balanceOf_68 : decode cX1_balanceOf 68 = .ok (.irem, 1) := by decide +kernel
theorem dX1_balanceOf_69 : decode cX1_balanceOf 69 = .ok (.iload_n 1, 1) := by decide +kernel
theorem dX1_balanceOf_70 : decode cX1_balanceOf 70 = .ok (.if_icmp .ne 9, 3) := by decide +kernel
theorem dX1_balanceOf_73 : decode cX1_balanceOf 73 = .ok (.lload_n 2, 1) := by decide +kernel
theorem dX1_balanceOf_74 : decode cX1_balanceOf 74 = .ok (.iload 5, 2) := by decide +kernel
theorem dX1_balanceOf_76 : decode cX1_balanceOf 76 = .ok (.i2l, 1) := by decide +kernel
theorem dX1_balanceOf_77 : decode cX1_balanceOf 77 = .ok (.ladd, 1) := by decide +kernel
theorem dX1_balanceOf_78 : decode cX1_balanceOf 78 = .ok (.lstore_n 2, 1) := by decide +kernel
theorem dX1_balanceOf_79 : decode cX1_balanceOf 79 = .ok (.iinc 4 1, 3) := by decide +kernel
theorem dX1_balanceOf_82 : decode cX1_balanceOf 82 = .ok (.goto (-77), 3) := by decide +kernel
theorem dX1_balanceOf_85 : decode cX1_balanceOf 85 = .ok (.lload_n 2, 1) := by decide +kernel
theorem dX1_balanceOf_86 : decode cX1_balanceOf 86 = .ok (.lreturn, 1) := by decide +kernel
theorem dX2_init_0 : decode cX2_init 0 = .ok (.aload_n 0, 1) := by decide +kernel
theorem dX2_init_1 : decode cX2_init 1 = .ok (.invokespecial 3, 3) := by decide +kernel
theorem dX2_init_4 : decode cX2_init 4 = .ok (.aload_n 0, 1) := by decide +kernel
theorem dX2_init_5 : decode cX2_init 5 = .ok (.iconst (-1), 1) := by decide +kernel
theorem dX2_init_6 : decode cX2_init 6 = .ok (.putfield 9, 3) := by decide +kernel
theorem dX2_init_9 : decode cX2_init 9 = .ok (.return_, 1) := by decide +kernel
theorem dX2_latestAsDeepAs_0 : decode cX2_latestAsDeepAs 0 = .ok (.aload_n 0, 1) := by decide +kernel
theorem dX2_latestAsDeepAs_1 : decode cX2_latestAsDeepAs 1 = .ok (.getfield 15, 3) := by decide +kernel
theorem dX2_latestAsDeepAs_4 : decode cX2_latestAsDeepAs 4 = .ok (.astore_n 2, 1) := by decide +kernel
theorem dX2_latestAsDeepAs_5 : decode cX2_latestAsDeepAs 5 = .ok (.aload_n 2, 1) := by decide +kernel
theorem dX2_latestAsDeepAs_6 : decode cX2_latestAsDeepAs 6 = .ok (.ifnull 24, 3) := by decide +kernel
theorem dX2_latestAsDeepAs_9 : decode cX2_latestAsDeepAs 9 = .ok (.aload_n 2, 1) := by decide +kernel
theorem dX2_latestAsDeepAs_10 : decode cX2_latestAsDeepAs 10 = .ok (.getfield 19, 3) := by decide +kernel
theorem dX2_latestAsDeepAs_13 : decode cX2_latestAsDeepAs 13 = .ok (.getfield 25, 3) := by decide +kernel
theorem dX2_latestAsDeepAs_16 : decode cX2_latestAsDeepAs 16 = .ok (.iload_n 1, 1) := by decide +kernel
theorem dX2_latestAsDeepAs_17 : decode cX2_latestAsDeepAs 17 = .ok (.if_icmp .lt 5, 3) := by decide +kernel
theorem dX2_latestAsDeepAs_20 : decode cX2_latestAsDeepAs 20 = .ok (.aload_n 2, 1) := by decide +kernel
theorem dX2_latestAsDeepAs_21 : decode cX2_latestAsDeepAs 21 = .ok (.areturn, 1) := by decide +kernel
theorem dX2_latestAsDeepAs_22 : decode cX2_latestAsDeepAs 22 = .ok (.aload_n 2, 1) := by decide +kernel
theorem dX2_latestAsDeepAs_23 : decode cX2_latestAsDeepAs 23 = .ok (.getfield 30, 3) := by decide +kernel
theorem dX2_latestAsDeepAs_26 : decode cX2_latestAsDeepAs 26 = .ok (.astore_n 2, 1) := by decide +kernel
theorem dX2_latestAsDeepAs_27 : decode cX2_latestAsDeepAs 27 = .ok (.goto (-22), 3) := by decide +kernel
theorem dX2_latestAsDeepAs_30 : decode cX2_latestAsDeepAs 30 = .ok (.aconst_null, 1) := by decide +kernel
theorem dX2_latestAsDeepAs_31 : decode cX2_latestAsDeepAs 31 = .ok (.areturn, 1) := by decide +kernel
theorem dX3_init_0 : decode cX3_init 0 = .ok (.aload_n 0, 1) := by decide +kernel
theorem dX3_init_1 : decode cX3_init 1 = .ok (.invokespecial 1, 3) := by decide +kernel
theorem dX3_init_4 : decode cX3_init 4 = .ok (.return_, 1) := by decide +kernel
theorem dX4_init_0 : decode cX4_init 0 = .ok (.aload_n 0, 1) := by decide +kernel
theorem dX4_init_1 : decode cX4_init 1 = .ok (.invokespecial 3, 3) := by decide +kernel
theorem dX4_init_4 : decode cX4_init 4 = .ok (.aload_n 0, 1) := by decide +kernel
theorem dX4_init_5 : decode cX4_init 5 = .ok (.iconst (-1), 1) := by decide +kernel
theorem dX4_init_6 : decode cX4_init 6 = .ok (.putfield 9, 3) := by decide +kernel
theorem dX4_init_9 : decode cX4_init 9 = .ok (.aload_n 0, 1) := by decide +kernel
theorem dX4_init_10 : decode cX4_init 10 = .ok (.iconst (-1), 1) := by decide +kernel
theorem dX4_init_11 : decode cX4_init 11 = .ok (.putfield 15, 3) := by decide +kernel
theorem dX4_init_14 : decode cX4_init 14 = .ok (.aload_n 0, 1) := by decide +kernel
theorem dX4_init_15 : decode cX4_init 15 = .ok (.iconst (-1), 1) := by decide +kernel
theorem dX4_init_16 : decode cX4_init 16 = .ok (.putfield 18, 3) := by decide +kernel
theorem dX4_init_19 : decode cX4_init 19 = .ok (.aload_n 0, 1) := by decide +kernel
theorem dX4_init_20 : decode cX4_init 20 = .ok (.iconst (-1), 1) := by decide +kernel
theorem dX4_init_21 : decode cX4_init 21 = .ok (.putfield 21, 3) := by decide +kernel
theorem dX4_init_24 : decode cX4_init 24 = .ok (.aload_n 0, 1) := by decide +kernel
theorem dX4_init_25 : decode cX4_init 25 = .ok (.iload_n 1, 1) := by decide +kernel
theorem dX4_init_26 : decode cX4_init 26 = .ok (.putfield 24, 3) := by decide +kernel
theorem dX4_init_29 : decode cX4_init 29 = .ok (.aload_n 0, 1) := by decide +kernel
theorem dX4_init_30 : decode cX4_init 30 = .ok (.iload_n 3, 1) := by decide +kernel
theorem dX4_init_31 : decode cX4_init 31 = .ok (.putfield 27, 3) := by decide +kernel
theorem dX4_init_34 : decode cX4_init 34 = .ok (.aload_n 0, 1) := by decide +kernel
theorem dX4_init_35 : decode cX4_init 35 = .ok (.iload 4, 2) := by decide +kernel
theorem dX4_init_37 : decode cX4_init 37 = .ok (.putfield 30, 3) := by decide +kernel
theorem dX4_init_40 : decode cX4_init 40 = .ok (.aload_n 0, 1) := by decide +kernel
theorem dX4_init_41 : decode cX4_init 41 = .ok (.aload 5, 2) := by decide +kernel
theorem dX4_init_43 : decode cX4_init 43 = .ok (.putfield 33, 3) := by decide +kernel
theorem dX4_init_46 : decode cX4_init 46 = .ok (.aload_n 0, 1) := by decide +kernel
theorem dX4_init_47 : decode cX4_init 47 = .ok (.iload_n 2, 1) := by decide +kernel
theorem dX4_init_48 : decode cX4_init 48 = .ok (.iconst 0, 1) := by decide +kernel
theorem dX4_init_49 : decode cX4_init 49 = .ok (.invokestatic 37, 3) := by decide +kernel
theorem dX4_init_52 : decode cX4_init 52 = .ok (.anewarray 43, 3) := by decide +kernel
theorem dX4_init_55 : decode cX4_init 55 = .ok (.putfield 45, 3) := by decide +kernel
theorem dX4_init_58 : decode cX4_init 58 = .ok (.iconst 0, 1) := by decide +kernel
theorem dX4_init_59 : decode cX4_init 59 = .ok (.istore 6, 2) := by decide +kernel
theorem dX4_init_61 : decode cX4_init 61 = .ok (.iload 6, 2) := by decide +kernel
theorem dX4_init_63 : decode cX4_init 63 = .ok (.aload_n 0, 1) := by decide +kernel
theorem dX4_init_64 : decode cX4_init 64 = .ok (.getfield 45, 3) := by decide +kernel
theorem dX4_init_67 : decode cX4_init 67 = .ok (.arraylength, 1) := by decide +kernel
theorem dX4_init_68 : decode cX4_init 68 = .ok (.if_icmp .ge 23, 3) := by decide +kernel
theorem dX4_init_71 : decode cX4_init 71 = .ok (.aload_n 0, 1) := by decide +kernel
theorem dX4_init_72 : decode cX4_init 72 = .ok (.getfield 45, 3) := by decide +kernel
theorem dX4_init_75 : decode cX4_init 75 = .ok (.iload 6, 2) := by decide +kernel
theorem dX4_init_77 : decode cX4_init 77 = .ok (.new 43, 3) := by decide +kernel
theorem dX4_init_80 : decode cX4_init 80 = .ok (.dup, 1) := by decide +kernel
theorem dX4_init_81 : decode cX4_init 81 = .ok (.invokespecial 49, 3) := by decide +kernel
theorem dX4_init_84 : decode cX4_init 84 = .ok (.aastore, 1) := by decide +kernel
theorem dX4_init_85 : decode cX4_init 85 = .ok (.iinc 6 1, 3) := by decide +kernel
theorem dX4_init_88 : decode cX4_init 88 = .ok (.goto (-27), 3) := by decide +kernel
theorem dX4_init_91 : decode cX4_init 91 = .ok (.return_, 1) := by decide +kernel
theorem dX4_metreAt_0 : decode cX4_metreAt 0 = .ok (.iload_n 1, 1) := by decide +kernel
theorem dX4_metreAt_1 : decode cX4_metreAt 1 = .ok (.ifCond .lt 21, 3) := by decide +kernel
theorem dX4_metreAt_4 : decode cX4_metreAt 4 = .ok (.iload_n 1, 1) := by decide +kernel
theorem dX4_metreAt_5 : decode cX4_metreAt 5 = .ok (.aload_n 0, 1) := by decide +kernel
theorem dX4_metreAt_6 : decode cX4_metreAt 6 = .ok (.getfield 45, 3) := by decide +kernel
theorem dX4_metreAt_9 : decode cX4_metreAt 9 = .ok (.arraylength, 1) := by decide +kernel
theorem dX4_metreAt_10 : decode cX4_metreAt 10 = .ok (.if_icmp .ge 12, 3) := by decide +kernel
theorem dX4_metreAt_13 : decode cX4_metreAt 13 = .ok (.aload_n 0, 1) := by decide +kernel
theorem dX4_metreAt_14 : decode cX4_metreAt 14 = .ok (.getfield 45, 3) := by decide +kernel
theorem dX4_metreAt_17 : decode cX4_metreAt 17 = .ok (.iload_n 1, 1) := by decide +kernel
theorem dX4_metreAt_18 : decode cX4_metreAt 18 = .ok (.aaload, 1) := by decide +kernel
theorem dX4_metreAt_19 : decode cX4_metreAt 19 = .ok (.goto 4, 3) := by decide +kernel
theorem dX4_metreAt_22 : decode cX4_metreAt 22 = .ok (.aconst_null, 1) := by decide +kernel
theorem dX4_metreAt_23 : decode cX4_metreAt 23 = .ok (.areturn, 1) := by decide +kernel
theorem dX4_hasOpenMetre_0 : decode cX4_hasOpenMetre 0 = .ok (.iconst 0, 1) := by decide +kernel
theorem dX4_hasOpenMetre_1 : decode cX4_hasOpenMetre 1 = .ok (.istore_n 1, 1) := by decide +kernel
theorem dX4_hasOpenMetre_2 : decode cX4_hasOpenMetre 2 = .ok (.iload_n 1, 1) := by decide +kernel
theorem dX4_hasOpenMetre_3 : decode cX4_hasOpenMetre 3 = .ok (.aload_n 0, 1) := by decide +kernel
theorem dX4_hasOpenMetre_4 : decode cX4_hasOpenMetre 4 = .ok (.getfield 45, 3) := by decide +kernel
theorem dX4_hasOpenMetre_7 : decode cX4_hasOpenMetre 7 = .ok (.arraylength, 1) := by decide +kernel
theorem dX4_hasOpenMetre_8 : decode cX4_hasOpenMetre 8 = .ok (.if_icmp .ge 30, 3) := by decide +kernel
theorem dX4_hasOpenMetre_11 : decode cX4_hasOpenMetre 11 = .ok (.aload_n 0, 1) := by decide +kernel
theorem dX4_hasOpenMetre_12 : decode cX4_hasOpenMetre 12 = .ok (.getfield 45, 3) := by decide +kernel
theorem dX4_hasOpenMetre_15 : decode cX4_hasOpenMetre 15 = .ok (.iload_n 1, 1) := by decide +kernel
theorem dX4_hasOpenMetre_16 : decode cX4_hasOpenMetre 16 = .ok (.aaload, 1) := by decide +kernel
theorem dX4_hasOpenMetre_17 : decode cX4_hasOpenMetre 17 = .ok (.astore_n 2, 1) := by decide +kernel
theorem dX4_hasOpenMetre_18 : decode cX4_hasOpenMetre 18 = .ok (.aload_n 2, 1) := by decide +kernel
theorem dX4_hasOpenMetre_19 : decode cX4_hasOpenMetre 19 = .ok (.ifnull 13, 3) := by decide +kernel
theorem dX4_hasOpenMetre_22 : decode cX4_hasOpenMetre 22 = .ok (.aload_n 2, 1) := by decide +kernel
theorem dX4_hasOpenMetre_23 : decode cX4_hasOpenMetre 23 = .ok (.getfield 50, 3) := by decide +kernel
theorem dX4_hasOpenMetre_26 : decode cX4_hasOpenMetre 26 = .ok (.iconst (-1), 1) := by decide +kernel
theorem dX4_hasOpenMetre_27 : decode cX4_hasOpenMetre 27 = .ok (.if_icmp .eq 5, 3) := by decide +kernel
theorem dX4_hasOpenMetre_30 : decode cX4_hasOpenMetre 30 = .ok (.iconst 1, 1) := by decide +kernel
theorem dX4_hasOpenMetre_31 : decode cX4_hasOpenMetre 31 = .ok (.ireturn, 1) := by decide +kernel
theorem dX4_hasOpenMetre_32 : decode cX4_hasOpenMetre 32 = .ok (.iinc 1 1, 3) := by decide +kernel
theorem dX4_hasOpenMetre_35 : decode cX4_hasOpenMetre 35 = .ok (.goto (-33), 3) := by decide +kernel
theorem dX4_hasOpenMetre_38 : decode cX4_hasOpenMetre 38 = .ok (.iconst 0, 1) := by decide +kernel
theorem dX4_hasOpenMetre_39 : decode cX4_hasOpenMetre 39 = .ok (.ireturn, 1) := by decide +kernel
theorem dX4_hasEmbargoIn_0 : decode cX4_hasEmbargoIn 0 = .ok (.aload_n 0, 1) := by decide +kernel
theorem dX4_hasEmbargoIn_1 : decode cX4_hasEmbargoIn 1 = .ok (.getfield 9, 3) := by decide +kernel
theorem dX4_hasEmbargoIn_4 : decode cX4_hasEmbargoIn 4 = .ok (.iconst (-1), 1) := by decide +kernel
theorem dX4_hasEmbargoIn_5 : decode cX4_hasEmbargoIn 5 = .ok (.if_icmp .eq 23, 3) := by decide +kernel
theorem dX4_hasEmbargoIn_8 : decode cX4_hasEmbargoIn 8 = .ok (.iload_n 1, 1) := by decide +kernel
theorem dX4_hasEmbargoIn_9 : decode cX4_hasEmbargoIn 9 = .ok (.iload_n 2, 1) := by decide +kernel
theorem dX4_hasEmbargoIn_10 : decode cX4_hasEmbargoIn 10 = .ok (.aload_n 0, 1) := by decide +kernel
theorem dX4_hasEmbargoIn_11 : decode cX4_hasEmbargoIn 11 = .ok (.getfield 9, 3) := by decide +kernel
theorem dX4_hasEmbargoIn_14 : decode cX4_hasEmbargoIn 14 = .ok (.aload_n 0, 1) := by decide +kernel
theorem dX4_hasEmbargoIn_15 : decode cX4_hasEmbargoIn 15 = .ok (.getfield 15, 3) := by decide +kernel
theorem dX4_hasEmbargoIn_18 : decode cX4_hasEmbargoIn 18 = .ok (.invokestatic 53, 3) := by decide +kernel
theorem dX4_hasEmbargoIn_21 : decode cX4_hasEmbargoIn 21 = .ok (.ifCond .eq 7, 3) := by decide +kernel
theorem dX4_hasEmbargoIn_24 : decode cX4_hasEmbargoIn 24 = .ok (.iconst 1, 1) := by decide +kernel
theorem dX4_hasEmbargoIn_25 : decode cX4_hasEmbargoIn 25 = .ok (.goto 4, 3) := by decide +kernel
theorem dX4_hasEmbargoIn_28 : decode cX4_hasEmbargoIn 28 = .ok (.iconst 0, 1) := by decide +kernel
theorem dX4_hasEmbargoIn_29 : decode cX4_hasEmbargoIn 29 = .ok (.ireturn, 1) := by decide +kernel
theorem dX4_isNewIn_0 : decode cX4_isNewIn 0 = .ok (.aload_n 0, 1) := by decide +kernel
theorem dX4_isNewIn_1 : decode cX4_isNewIn 1 = .ok (.getfield 18, 3) := by decide +kernel
theorem dX4_isNewIn_4 : decode cX4_isNewIn 4 = .ok (.iconst (-1), 1) := by decide +kernel
theorem dX4_isNewIn_5 : decode cX4_isNewIn 5 = .ok (.if_icmp .eq 26, 3) := by decide +kernel
theorem dX4_isNewIn_8 : decode cX4_isNewIn 8 = .ok (.iload_n 1, 1) := by decide +kernel
theorem dX4_isNewIn_9 : decode cX4_isNewIn 9 = .ok (.iload_n 2, 1) := by decide +kernel
theorem dX4_isNewIn_10 : decode cX4_isNewIn 10 = .ok (.aload_n 0, 1) := by decide +kernel
theorem dX4_isNewIn_11 : decode cX4_isNewIn 11 = .ok (.getfield 18, 3) := by decide +kernel
theorem dX4_isNewIn_14 : decode cX4_isNewIn 14 = .ok (.aload_n 0, 1) := by decide +kernel
theorem dX4_isNewIn_15 : decode cX4_isNewIn 15 = .ok (.getfield 18, 3) := by decide +kernel
theorem dX4_isNewIn_18 : decode cX4_isNewIn 18 = .ok (.bipush 99, 2) := by decide +kernel
theorem dX4_isNewIn_20 : decode cX4_isNewIn 20 = .ok (.iadd, 1) := by decide +kernel
theorem dX4_isNewIn_21 : decode cX4_isNewIn 21 = .ok (.invokestatic 53, 3) := by decide +kernel
theorem dX4_isNewIn_24 : decode cX4_isNewIn 24 = .ok (.ifCond .eq 7, 3) := by decide +kernel
theorem dX4_isNewIn_27 : decode cX4_isNewIn 27 = .ok (.iconst 1, 1) := by decide +kernel
theorem dX4_isNewIn_28 : decode cX4_isNewIn 28 = .ok (.goto 4, 3) := by decide +kernel
theorem dX4_isNewIn_31 : decode cX4_isNewIn 31 = .ok (.iconst 0, 1) := by decide +kernel
theorem dX4_isNewIn_32 : decode cX4_isNewIn 32 = .ok (.ireturn, 1) := by decide +kernel
theorem dX4_weight_0 : decode cX4_weight 0 = .ok (.iconst 4, 1) := by decide +kernel
theorem dX4_weight_1 : decode cX4_weight 1 = .ok (.aload_n 0, 1) := by decide +kernel
theorem dX4_weight_2 : decode cX4_weight 2 = .ok (.getfield 27, 3) := by decide +kernel
theorem dX4_weight_5 : decode cX4_weight 5 = .ok (.isub, 1) := by decide +kernel
theorem dX4_weight_6 : decode cX4_weight 6 = .ok (.ireturn, 1) := by decide +kernel
theorem dX4_noticeOf_0 : decode cX4_noticeOf 0 = .ok (.iload_n 1, 1) := by decide +kernel
theorem dX4_noticeOf_1 : decode cX4_noticeOf 1 = .ok (.ifCond .ne 8, 3) := by decide +kernel
theorem dX4_noticeOf_4 : decode cX4_noticeOf 4 = .ok (.bipush 20, 2) := by decide +kernel
theorem dX4_noticeOf_6 : decode cX4_noticeOf 6 = .ok (.goto 23, 3) := by decide +kernel
theorem dX4_noticeOf_9 : decode cX4_noticeOf 9 = .ok (.iload_n 1, 1) := by decide +kernel
theorem dX4_noticeOf_10 : decode cX4_noticeOf 10 = .ok (.iconst 1, 1) := by decide +kernel
theorem dX4_noticeOf_11 : decode cX4_noticeOf 11 = .ok (.if_icmp .ne 8, 3) := by decide +kernel
theorem dX4_noticeOf_14 : decode cX4_noticeOf 14 = .ok (.bipush 8, 2) := by decide +kernel
theorem dX4_noticeOf_16 : decode cX4_noticeOf 16 = .ok (.goto 13, 3) := by decide +kernel
theorem dX4_noticeOf_19 : decode cX4_noticeOf 19 = .ok (.iload_n 1, 1) := by decide +kernel
theorem dX4_noticeOf_20 : decode cX4_noticeOf 20 = .ok (.iconst 2, 1) := by decide +kernel
theorem dX4_noticeOf_21 : decode cX4_noticeOf 21 = .ok (.if_icmp .ne 7, 3) := by decide +kernel
theorem dX4_noticeOf_24 : decode cX4_noticeOf 24 = .ok (.iconst 3, 1) := by decide +kernel
theorem dX4_noticeOf_25 : decode cX4_noticeOf 25 = .ok (.goto 4, 3) := by decide +kernel
theorem dX4_noticeOf_28 : decode cX4_noticeOf 28 = .ok (.iconst 0, 1) := by decide +kernel
theorem dX4_noticeOf_29 : decode cX4_noticeOf 29 = .ok (.istore_n 2, 1) := by decide +kernel
theorem dX4_noticeOf_30 : decode cX4_noticeOf 30 = .ok (.aload_n 0, 1) := by decide +kernel
theorem dX4_noticeOf_31 : decode cX4_noticeOf 31 = .ok (.getfield 27, 3) := by decide +kernel
theorem dX4_noticeOf_34 : decode cX4_noticeOf 34 = .ok (.iconst 1, 1) := by decide +kernel
theorem dX4_noticeOf_35 : decode cX4_noticeOf 35 = .ok (.if_icmp .gt 9, 3) := by decide +kernel
theorem dX4_noticeOf_38 : decode cX4_noticeOf 38 = .ok (.iconst 2, 1) := by decide +kernel
theorem dX4_noticeOf_39 : decode cX4_noticeOf 39 = .ok (.iload_n 2, 1) := by decide +kernel
theorem dX4_noticeOf_40 : decode cX4_noticeOf 40 = .ok (.imul, 1) := by decide +kernel
theorem dX4_noticeOf_41 : decode cX4_noticeOf 41 = .ok (.goto 4, 3) := by decide +kernel
theorem dX4_noticeOf_44 : decode cX4_noticeOf 44 = .ok (.iload_n 2, 1) := by decide +kernel
theorem dX4_noticeOf_45 : decode cX4_noticeOf 45 = .ok (.ireturn, 1) := by decide +kernel
theorem dX4_sendFlow_0 : decode cX4_sendFlow 0 = .ok (.iconst 0, 1) := by decide +kernel
theorem dX4_sendFlow_1 : decode cX4_sendFlow 1 = .ok (.istore_n 1, 1) := by decide +kernel
theorem dX4_sendFlow_2 : decode cX4_sendFlow 2 = .ok (.aload_n 0, 1) := by decide +kernel
theorem dX4_sendFlow_3 : decode cX4_sendFlow 3 = .ok (.getfield 57, 3) := by decide +kernel
theorem dX4_sendFlow_6 : decode cX4_sendFlow 6 = .ok (.ifCond .eq 30, 3) := by decide +kernel
theorem dX4_sendFlow_9 : decode cX4_sendFlow 9 = .ok (.aload_n 0, 1) := by decide +kernel
theorem dX4_sendFlow_10 : decode cX4_sendFlow 10 = .ok (.getfield 33, 3) := by decide +kernel
theorem dX4_sendFlow_13 : decode cX4_sendFlow 13 = .ok (.ifnull 23, 3) := by decide +kernel
theorem dX4_sendFlow_16 : decode cX4_sendFlow 16 = .ok (.aload_n 0, 1) := by decide +kernel
theorem dX4_sendFlow_17 : decode cX4_sendFlow 17 = .ok (.getfield 30, 3) := by decide +kernel
theorem dX4_sendFlow_20 : decode cX4_sendFlow 20 = .ok (.iconst 2, 1) := by decide +kernel
theorem dX4_sendFlow_21 : decode cX4_sendFlow 21 = .ok (.idiv, 1) := by decide +kernel
theorem dX4_sendFlow_22 : decode cX4_sendFlow 22 = .ok (.istore_n 1, 1) := by decide +kernel
theorem dX4_sendFlow_23 : decode cX4_sendFlow 23 = .ok (.aload_n 0, 1) := by decide +kernel
theorem dX4_sendFlow_24 : decode cX4_sendFlow 24 = .ok (.getfield 33, 3) := by decide +kernel
theorem dX4_sendFlow_27 : decode cX4_sendFlow 27 = .ok (.dup, 1) := by decide +kernel
theorem dX4_sendFlow_28 : decode cX4_sendFlow 28 = .ok (.getfield 60, 3) := by decide +kernel
theorem dX4_sendFlow_31 : decode cX4_sendFlow 31 = .ok (.iload_n 1, 1) := by decide +kernel
theorem dX4_sendFlow_32 : decode cX4_sendFlow 32 = .ok (.iadd, 1) := by decide +kernel
theorem dX4_sendFlow_33 : decode cX4_sendFlow 33 = .ok (.putfield 60, 3) := by decide +kernel
theorem dX4_sendFlow_36 : decode cX4_sendFlow 36 = .ok (.aload_n 0, 1) := by decide +kernel
theorem dX4_sendFlow_37 : decode cX4_sendFlow 37 = .ok (.dup, 1) := by decide +kernel
theorem dX4_sendFlow_38 : decode cX4_sendFlow 38 = .ok (.getfield 60, 3) := by decide +kernel
theorem dX4_sendFlow_41 : decode cX4_sendFlow 41 = .ok (.aload_n 0, 1) := by decide +kernel
theorem dX4_sendFlow_42 : decode cX4_sendFlow 42 = .ok (.getfield 30, 3) := by decide +kernel
theorem dX4_sendFlow_45 : decode cX4_sendFlow 45 = .ok (.iload_n 1, 1) := by decide +kernel
theorem dX4_sendFlow_46 : decode cX4_sendFlow 46 = .ok (.isub, 1) := by decide +kernel
theorem dX4_sendFlow_47 : decode cX4_sendFlow 47 = .ok (.iadd, 1) := by decide +kernel
theorem dX4_sendFlow_48 : decode cX4_sendFlow 48 = .ok (.putfield 60, 3) := by decide +kernel
theorem dX4_sendFlow_51 : decode cX4_sendFlow 51 = .ok (.return_, 1) := by decide +kernel
theorem dX4_letThrough_0 : decode cX4_letThrough 0 = .ok (.bipush 100, 2) := by decide +kernel
theorem dX4_letThrough_2 : decode cX4_letThrough 2 = .ok (.bipush 40, 2) := by decide +kernel
theorem dX4_letThrough_4 : decode cX4_letThrough 4 = .ok (.iconst 3, 1) := by decide +kernel
theorem dX4_letThrough_5 : decode cX4_letThrough 5 = .ok (.aload_n 0, 1) := by decide +kernel
theorem dX4_letThrough_6 : decode cX4_letThrough 6 = .ok (.getfield 27, 3) := by decide +kernel
theorem dX4_letThrough_9 : decode cX4_letThrough 9 = .ok (.isub, 1) := by decide +kernel
theorem dX4_letThrough_10 : decode cX4_letThrough 10 = .ok (.imul, 1) := by decide +kernel
theorem dX4_letThrough_11 : decode cX4_letThrough 11 = .ok (.iadd, 1) := by decide +kernel
theorem dX4_letThrough_12 : decode cX4_letThrough 12 = .ok (.istore_n 1, 1) := by decide +kernel
theorem dX4_letThrough_13 : decode cX4_letThrough 13 = .ok (.aload_n 0, 1) := by decide +kernel
theorem dX4_letThrough_14 : decode cX4_letThrough 14 = .ok (.getfield 57, 3) := by decide +kernel
theorem dX4_letThrough_17 : decode cX4_letThrough 17 = .ok (.ifCond .eq 7, 3) := by decide +kernel
theorem dX4_letThrough_20 : decode cX4_letThrough 20 = .ok (.iload_n 1, 1) := by decide +kernel
theorem dX4_letThrough_21 : decode cX4_letThrough 21 = .ok (.iconst 2, 1) := by decide +kernel
theorem dX4_letThrough_22 : decode cX4_letThrough 22 = .ok (.idiv, 1) := by decide +kernel
theorem dX4_letThrough_23 : decode cX4_letThrough 23 = .ok (.istore_n 1, 1) := by decide +kernel
theorem dX4_letThrough_24 : decode cX4_letThrough 24 = .ok (.aload_n 0, 1) := by decide +kernel
theorem dX4_letThrough_25 : decode cX4_letThrough 25 = .ok (.aload_n 0, 1) := by decide +kernel
theorem dX4_letThrough_26 : decode cX4_letThrough 26 = .ok (.getfield 63, 3) := by decide +kernel
theorem dX4_letThrough_29 : decode cX4_letThrough 29 = .ok (.aload_n 0, 1) := by decide +kernel
theorem dX4_letThrough_30 : decode cX4_letThrough 30 = .ok (.getfield 60, 3) := by decide +kernel
theorem dX4_letThrough_33 : decode cX4_letThrough 33 = .ok (.iadd, 1) := by decide +kernel
theorem dX4_letThrough_34 : decode cX4_letThrough 34 = .ok (.iload_n 1, 1) := by decide +kernel
theorem dX4_letThrough_35 : decode cX4_letThrough 35 = .ok (.isub, 1) := by decide +kernel
theorem dX4_letThrough_36 : decode cX4_letThrough 36 = .ok (.iconst 0, 1) := by decide +kernel
theorem dX4_letThrough_37 : decode cX4_letThrough 37 = .ok (.invokestatic 37, 3) := by decide +kernel
theorem dX4_letThrough_40 : decode cX4_letThrough 40 = .ok (.putfield 63, 3) := by decide +kernel
theorem dX4_letThrough_43 : decode cX4_letThrough 43 = .ok (.aload_n 0, 1) := by decide +kernel
theorem dX4_letThrough_44 : decode cX4_letThrough 44 = .ok (.iconst 0, 1) := by decide +kernel
theorem dX4_letThrough_45 : decode cX4_letThrough 45 = .ok (.putfield 60, 3) := by decide +kernel
theorem dX4_letThrough_48 : decode cX4_letThrough 48 = .ok (.return_, 1) := by decide +kernel
theorem dX5_init_0 : decode cX5_init 0 = .ok (.aload_n 0, 1) := by decide +kernel
theorem dX5_init_1 : decode cX5_init 1 = .ok (.invokespecial 1, 3) := by decide +kernel
theorem dX5_init_4 : decode cX5_init 4 = .ok (.aload_n 0, 1) := by decide +kernel
theorem dX5_init_5 : decode cX5_init 5 = .ok (.aload_n 1, 1) := by decide +kernel
theorem dX5_init_6 : decode cX5_init 6 = .ok (.putfield 7, 3) := by decide +kernel
theorem dX5_init_9 : decode cX5_init 9 = .ok (.aload_n 0, 1) := by decide +kernel
theorem dX5_init_10 : decode cX5_init 10 = .ok (.iload_n 2, 1) := by decide +kernel
theorem dX5_init_11 : decode cX5_init 11 = .ok (.putfield 13, 3) := by decide +kernel
theorem dX5_init_14 : decode cX5_init 14 = .ok (.aload_n 0, 1) := by decide +kernel
theorem dX5_init_15 : decode cX5_init 15 = .ok (.aload_n 3, 1) := by decide +kernel
theorem dX5_init_16 : decode cX5_init 16 = .ok (.putfield 17, 3) := by decide +kernel
theorem dX5_init_19 : decode cX5_init 19 = .ok (.aload_n 0, 1) := by decide +kernel
theorem dX5_init_20 : decode cX5_init 20 = .ok (.iload 4, 2) := by decide +kernel
theorem dX5_init_22 : decode cX5_init 22 = .ok (.putfield 21, 3) := by decide +kernel
theorem dX5_init_25 : decode cX5_init 25 = .ok (.return_, 1) := by decide +kernel
theorem dX5_isFillOf_0 : decode cX5_isFillOf 0 = .ok (.aload_n 0, 1) := by decide +kernel
theorem dX5_isFillOf_1 : decode cX5_isFillOf 1 = .ok (.getfield 17, 3) := by decide +kernel
theorem dX5_isFillOf_4 : decode cX5_isFillOf 4 = .ok (.ifnull 23, 3) := by decide +kernel
theorem dX5_isFillOf_7 : decode cX5_isFillOf 7 = .ok (.aload_n 0, 1) := by decide +kernel
theorem dX5_isFillOf_8 : decode cX5_isFillOf 8 = .ok (.getfield 7, 3) := by decide +kernel
theorem dX5_isFillOf_11 : decode cX5_isFillOf 11 = .ok (.aload_n 1, 1) := by decide +kernel
theorem dX5_isFillOf_12 : decode cX5_isFillOf 12 = .ok (.if_acmp .ne 15, 3) := by decide +kernel
theorem dX5_isFillOf_15 : decode cX5_isFillOf 15 = .ok (.aload_n 0, 1) := by decide +kernel
theorem dX5_isFillOf_16 : decode cX5_isFillOf 16 = .ok (.getfield 13, 3) := by decide +kernel
theorem dX5_isFillOf_19 : decode cX5_isFillOf 19 = .ok (.iload_n 2, 1) := by decide +kernel
theorem dX5_isFillOf_20 : decode cX5_isFillOf 20 = .ok (.if_icmp .ne 7, 3) := by decide +kernel
theorem dX5_isFillOf_23 : decode cX5_isFillOf 23 = .ok (.iconst 1, 1) := by decide +kernel
theorem dX5_isFillOf_24 : decode cX5_isFillOf 24 = .ok (.goto 4, 3) := by decide +kernel
theorem dX5_isFillOf_27 : decode cX5_isFillOf 27 = .ok (.iconst 0, 1) := by decide +kernel
theorem dX5_isFillOf_28 : decode cX5_isFillOf 28 = .ok (.ireturn, 1) := by decide +kernel
theorem dX5_isSurfaceOf_0 : decode cX5_isSurfaceOf 0 = .ok (.aload_n 0, 1) := by decide +kernel
theorem dX5_isSurfaceOf_1 : decode cX5_isSurfaceOf 1 = .ok (.getfield 17, 3) := by decide +kernel
theorem dX5_isSurfaceOf_4 : decode cX5_isSurfaceOf 4 = .ok (.ifnonnull 15, 3) := by decide +kernel
theorem dX5_isSurfaceOf_7 : decode cX5_isSurfaceOf 7 = .ok (.aload_n 0, 1) := by decide +kernel
theorem dX5_isSurfaceOf_8 : decode cX5_isSurfaceOf 8 = .ok (.getfield 7, 3) := by decide +kernel
theorem dX5_isSurfaceOf_11 : decode cX5_isSurfaceOf 11 = .ok (.aload_n 1, 1) := by decide +kernel
theorem dX5_isSurfaceOf_12 : decode cX5_isSurfaceOf 12 = .ok (.if_acmp .ne 7, 3) := by decide +kernel
theorem dX5_isSurfaceOf_15 : decode cX5_isSurfaceOf 15 = .ok (.iconst 1, 1) := by decide +kernel
theorem dX5_isSurfaceOf_16 : decode cX5_isSurfaceOf 16 = .ok (.goto 4, 3) := by decide +kernel
theorem dX5_isSurfaceOf_19 : decode cX5_isSurfaceOf 19 = .ok (.iconst 0, 1) := by decide +kernel
theorem dX5_isSurfaceOf_20 : decode cX5_isSurfaceOf 20 = .ok (.ireturn, 1) := by decide +kernel
theorem dX6_init_0 : decode cX6_init 0 = .ok (.aload_n 0, 1) := by decide +kernel
theorem dX6_init_1 : decode cX6_init 1 = .ok (.invokespecial 1, 3) := by decide +kernel
theorem dX6_init_4 : decode cX6_init 4 = .ok (.aload_n 0, 1) := by decide +kernel
theorem dX6_init_5 : decode cX6_init 5 = .ok (.iload_n 1, 1) := by decide +kernel
theorem dX6_init_6 : decode cX6_init 6 = .ok (.putfield 7, 3) := by decide +kernel
theorem dX6_init_9 : decode cX6_init 9 = .ok (.aload_n 0, 1) := by decide +kernel
theorem dX6_init_10 : decode cX6_init 10 = .ok (.aload_n 2, 1) := by decide +kernel
theorem dX6_init_11 : decode cX6_init 11 = .ok (.putfield 13, 3) := by decide +kernel
theorem dX6_init_14 : decode cX6_init 14 = .ok (.aload_n 0, 1) := by decide +kernel
theorem dX6_init_15 : decode cX6_init 15 = .ok (.iload_n 3, 1) := by decide +kernel
theorem dX6_init_16 : decode cX6_init 16 = .ok (.putfield 17, 3) := by decide +kernel
theorem dX6_init_19 : decode cX6_init 19 = .ok (.aload_n 0, 1) := by decide +kernel
theorem dX6_init_20 : decode cX6_init 20 = .ok (.iload 4, 2) := by decide +kernel
theorem dX6_init_22 : decode cX6_init 22 = .ok (.putfield 20, 3) := by decide +kernel
theorem dX6_init_25 : decode cX6_init 25 = .ok (.aload_n 0, 1) := by decide +kernel
theorem dX6_init_26 : decode cX6_init 26 = .ok (.iload 5, 2) := by decide +kernel
theorem dX6_init_28 : decode cX6_init 28 = .ok (.putfield 23, 3) := by decide +kernel
theorem dX6_init_31 : decode cX6_init 31 = .ok (.return_, 1) := by decide +kernel
theorem dX6_putRecord_0 : decode cX6_putRecord 0 = .ok (.aload_n 0, 1) := by decide +kernel
theorem dX6_putRecord_1 : decode cX6_putRecord 1 = .ok (.iconst 1, 1) := by decide +kernel
theorem dX6_putRecord_2 : decode cX6_putRecord 2 = .ok (.putfield 26, 3) := by decide +kernel
theorem dX6_putRecord_5 : decode cX6_putRecord 5 = .ok (.aload_n 0, 1) := by decide +kernel
theorem dX6_putRecord_6 : decode cX6_putRecord 6 = .ok (.iload_n 1, 1) := by decide +kernel
theorem dX6_putRecord_7 : decode cX6_putRecord 7 = .ok (.iload_n 3, 1) := by decide +kernel
theorem dX6_putRecord_8 : decode cX6_putRecord 8 = .ok (.isub, 1) := by decide +kernel
theorem dX6_putRecord_9 : decode cX6_putRecord 9 = .ok (.iconst 0, 1) := by decide +kernel
theorem dX6_putRecord_10 : decode cX6_putRecord 10 = .ok (.invokestatic 30, 3) := by decide +kernel
theorem dX6_putRecord_13 : decode cX6_putRecord 13 = .ok (.putfield 36, 3) := by decide +kernel
theorem dX6_putRecord_16 : decode cX6_putRecord 16 = .ok (.aload_n 0, 1) := by decide +kernel
theorem dX6_putRecord_17 : decode cX6_putRecord 17 = .ok (.iload_n 2, 1) := by decide +kernel
theorem dX6_putRecord_18 : decode cX6_putRecord 18 = .ok (.iload_n 3, 1) := by decide +kernel
theorem dX6_putRecord_19 : decode cX6_putRecord 19 = .ok (.iadd, 1) := by decide +kernel
theorem dX6_putRecord_20 : decode cX6_putRecord 20 = .ok (.aload_n 0, 1) := by decide +kernel
theorem dX6_putRecord_21 : decode cX6_putRecord 21 = .ok (.getfield 13, 3) := by decide +kernel
theorem dX6_putRecord_24 : decode cX6_putRecord 24 = .ok (.getfield 39, 3) := by decide +kernel
theorem dX6_putRecord_27 : decode cX6_putRecord 27 = .ok (.arraylength, 1) := by decide +kernel
theorem dX6_putRecord_28 : decode cX6_putRecord 28 = .ok (.iconst 1, 1) := by decide +kernel
theorem dX6_putRecord_29 : decode cX6_putRecord 29 = .ok (.isub, 1) := by decide +kernel
theorem dX6_putRecord_30 : decode cX6_putRecord 30 = .ok (.invokestatic 45, 3) := by decide +kernel
theorem dX6_putRecord_33 : decode cX6_putRecord 33 = .ok (.putfield 48, 3) := by decide +kernel
theorem dX6_putRecord_36 : decode cX6_putRecord 36 = .ok (.return_, 1) := by decide +kernel
theorem dX6_suspectMetres_0 : decode cX6_suspectMetres 0 = .ok (.aload_n 0, 1) := by decide +kernel
theorem dX6_suspectMetres_1 : decode cX6_suspectMetres 1 = .ok (.getfield 26, 3) := by decide +kernel
theorem dX6_suspectMetres_4 : decode cX6_suspectMetres 4 = .ok (.ifCond .eq 17, 3) := by decide +kernel
theorem dX6_suspectMetres_7 : decode cX6_suspectMetres 7 = .ok (.aload_n 0, 1) := by decide +kernel
theorem dX6_suspectMetres_8 : decode cX6_suspectMetres 8 = .ok (.getfield 48, 3) := by decide +kernel
theorem dX6_suspectMetres_11 : decode cX6_suspectMetres 11 = .ok (.aload_n 0, 1) := by decide +kernel
theorem dX6_suspectMetres_12 : decode cX6_suspectMetres 12 = .ok (.getfield 36, 3) := by decide +kernel
theorem dX6_suspectMetres_15 : decode cX6_suspectMetres 15 = .ok (.isub, 1) := by decide +kernel
theorem dX6_suspectMetres_16 : decode cX6_suspectMetres 16 = .ok (.iconst 1, 1) := by decide +kernel
theorem dX6_suspectMetres_17 : decode cX6_suspectMetres 17 = .ok (.iadd, 1) := by decide +kernel
theorem dX6_suspectMetres_18 : decode cX6_suspectMetres 18 = .ok (.goto 4, 3) := by decide +kernel
theorem dX6_suspectMetres_21 : decode cX6_suspectMetres 21 = .ok (.iconst 0, 1) := by decide +kernel
theorem dX6_suspectMetres_22 : decode cX6_suspectMetres 22 = .ok (.ireturn, 1) := by decide +kernel
theorem dX6_liesAt_0 : decode cX6_liesAt 0 = .ok (.aload_n 0, 1) := by decide +kernel
theorem dX6_liesAt_1 : decode cX6_liesAt 1 = .ok (.getfield 13, 3) := by decide +kernel
theorem dX6_liesAt_4 : decode cX6_liesAt 4 = .ok (.aload_n 1, 1) := by decide +kernel
theorem dX6_liesAt_5 : decode cX6_liesAt 5 = .ok (.if_acmp .ne 23, 3) := by decide +kernel
theorem dX6_liesAt_8 : decode cX6_liesAt 8 = .ok (.aload_n 0, 1) := by decide +kernel
theorem dX6_liesAt_9 : decode cX6_liesAt 9 = .ok (.getfield 17, 3) := by decide +kernel
theorem dX6_liesAt_12 : decode cX6_liesAt 12 = .ok (.iload_n 2, 1) := by decide +kernel
theorem dX6_liesAt_13 : decode cX6_liesAt 13 = .ok (.if_icmp .gt 15, 3) := by decide +kernel
theorem dX6_liesAt_16 : decode cX6_liesAt 16 = .ok (.iload_n 2, 1) := by decide +kernel
theorem dX6_liesAt_17 : decode cX6_liesAt 17 = .ok (.aload_n 0, 1) := by decide +kernel
theorem dX6_liesAt_18 : decode cX6_liesAt 18 = .ok (.getfield 20, 3) := by decide +kernel
theorem dX6_liesAt_21 : decode cX6_liesAt 21 = .ok (.if_icmp .gt 7, 3) := by decide +kernel
theorem dX6_liesAt_24 : decode cX6_liesAt 24 = .ok (.iconst 1, 1) := by decide +kernel
theorem dX6_liesAt_25 : decode cX6_liesAt 25 = .ok (.goto 4, 3) := by decide +kernel
theorem dX6_liesAt_28 : decode cX6_liesAt 28 = .ok (.iconst 0, 1) := by decide +kernel
theorem dX6_liesAt_29 : decode cX6_liesAt 29 = .ok (.ireturn, 1) := by decide +kernel
theorem dX6_liesInSureMetre_0 : decode cX6_liesInSureMetre 0 = .ok (.aload_n 0, 1) := by decide +kernel
theorem dX6_liesInSureMetre_1 : decode cX6_liesInSureMetre 1 = .ok (.getfield 17, 3) := by decide +kernel
theorem dX6_liesInSureMetre_4 : decode cX6_liesInSureMetre 4 = .ok (.istore_n 1, 1) := by decide +kernel
theorem dX6_liesInSureMetre_5 : decode cX6_liesInSureMetre 5 = .ok (.iload_n 1, 1) := by decide +kernel
theorem dX6_liesInSureMetre_6 : decode cX6_liesInSureMetre 6 = .ok (.aload_n 0, 1) := by decide +kernel
theorem dX6_liesInSureMetre_7 : decode cX6_liesInSureMetre 7 = .ok (.getfield 20, 3) := by decide +kernel
theorem dX6_liesInSureMetre_10 : decode cX6_liesInSureMetre 10 = .ok (.if_icmp .gt 31, 3) := by decide +kernel
theorem dX6_liesInSureMetre_13 : decode cX6_liesInSureMetre 13 = .ok (.aload_n 0, 1) := by decide +kernel
theorem dX6_liesInSureMetre_14 : decode cX6_liesInSureMetre 14 = .ok (.getfield 13, 3) := by decide +kernel
theorem dX6_liesInSureMetre_17 : decode cX6_liesInSureMetre 17 = .ok (.iload_n 1, 1) := by decide +kernel
theorem dX6_liesInSureMetre_18 : decode cX6_liesInSureMetre 18 = .ok (.invokevirtual 51, 3) := by decide +kernel
theorem dX6_liesInSureMetre_21 : decode cX6_liesInSureMetre 21 = .ok (.astore_n 2, 1) := by decide +kernel
theorem dX6_liesInSureMetre_22 : decode cX6_liesInSureMetre 22 = .ok (.aload_n 2, 1) := by decide +kernel
theorem dX6_liesInSureMetre_23 : decode cX6_liesInSureMetre 23 = .ok (.ifnull 12, 3) := by decide +kernel
theorem dX6_liesInSureMetre_26 : decode cX6_liesInSureMetre 26 = .ok (.aload_n 2, 1) := by decide +kernel
theorem dX6_liesInSureMetre_27 : decode cX6_liesInSureMetre 27 = .ok (.getfield 55, 3) := by decide +kernel
theorem dX6_liesInSureMetre_30 : decode cX6_liesInSureMetre 30 = .ok (.ifCond .eq 5, 3) := by decide +kernel
theorem dX6_liesInSureMetre_33 : decode cX6_liesInSureMetre 33 = .ok (.iconst 1, 1) := by decide +kernel
theorem dX6_liesInSureMetre_34 : decode cX6_liesInSureMetre 34 = .ok (.ireturn, 1) := by decide +kernel
theorem dX6_liesInSureMetre_35 : decode cX6_liesInSureMetre 35 = .ok (.iinc 1 1, 3) := by decide +kernel
theorem dX6_liesInSureMetre_38 : decode cX6_liesInSureMetre 38 = .ok (.goto (-33), 3) := by decide +kernel
theorem dX6_liesInSureMetre_41 : decode cX6_liesInSureMetre 41 = .ok (.iconst 0, 1) := by decide +kernel
theorem dX6_liesInSureMetre_42 : decode cX6_liesInSureMetre 42 = .ok (.ireturn, 1) := by decide +kernel
theorem dX7_init_0 : decode cX7_init 0 = .ok (.aload_n 0, 1) := by decide +kernel
theorem dX7_init_1 : decode cX7_init 1 = .ok (.invokespecial 3, 3) := by decide +kernel
theorem dX7_init_4 : decode cX7_init 4 = .ok (.aload_n 0, 1) := by decide +kernel
theorem dX7_init_5 : decode cX7_init 5 = .ok (.iload_n 1, 1) := by decide +kernel
theorem dX7_init_6 : decode cX7_init 6 = .ok (.putfield 9, 3) := by decide +kernel
theorem dX7_init_9 : decode cX7_init 9 = .ok (.aload_n 0, 1) := by decide +kernel
theorem dX7_init_10 : decode cX7_init 10 = .ok (.iload_n 2, 1) := by decide +kernel
theorem dX7_init_11 : decode cX7_init 11 = .ok (.putfield 15, 3) := by decide +kernel
theorem dX7_init_14 : decode cX7_init 14 = .ok (.aload_n 0, 1) := by decide +kernel
theorem dX7_init_15 : decode cX7_init 15 = .ok (.aload_n 3, 1) := by decide +kernel
theorem dX7_init_16 : decode cX7_init 16 = .ok (.putfield 18, 3) := by decide +kernel
theorem dX7_init_19 : decode cX7_init 19 = .ok (.aload_n 0, 1) := by decide +kernel
theorem dX7_init_20 : decode cX7_init 20 = .ok (.iload 4, 2) := by decide +kernel
theorem dX7_init_22 : decode cX7_init 22 = .ok (.putfield 22, 3) := by decide +kernel
theorem dX7_init_25 : decode cX7_init 25 = .ok (.aload_n 0, 1) := by decide +kernel
theorem dX7_init_26 : decode cX7_init 26 = .ok (.iload 5, 2) := by decide +kernel
theorem dX7_init_28 : decode cX7_init 28 = .ok (.putfield 25, 3) := by decide +kernel
theorem dX7_init_31 : decode cX7_init 31 = .ok (.aload_n 0, 1) := by decide +kernel
theorem dX7_init_32 : decode cX7_init 32 = .ok (.iload 4, 2) := by decide +kernel
theorem dX7_init_34 : decode cX7_init 34 = .ok (.iconst 3, 1) := by decide +kernel
theorem dX7_init_35 : decode cX7_init 35 = .ok (.if_icmp .ne 7, 3) := by decide +kernel
theorem dX7_init_38 : decode cX7_init 38 = .ok (.iconst 1, 1) := by decide +kernel
theorem dX7_init_39 : decode cX7_init 39 = .ok (.goto 4, 3) := by decide +kernel
theorem dX7_init_42 : decode cX7_init 42 = .ok (.iconst 0, 1) := by decide +kernel
theorem dX7_init_43 : decode cX7_init 43 = .ok (.putfield 28, 3) := by decide +kernel
theorem dX7_init_46 : decode cX7_init 46 = .ok (.return_, 1) := by decide +kernel
theorem dX7_placeAt_0 : decode cX7_placeAt 0 = .ok (.aload_n 0, 1) := by decide +kernel
theorem dX7_placeAt_1 : decode cX7_placeAt 1 = .ok (.iload_n 1, 1) := by decide +kernel
theorem dX7_placeAt_2 : decode cX7_placeAt 2 = .ok (.putfield 31, 3) := by decide +kernel
theorem dX7_placeAt_5 : decode cX7_placeAt 5 = .ok (.aload_n 0, 1) := by decide +kernel
theorem dX7_placeAt_6 : decode cX7_placeAt 6 = .ok (.iload_n 2, 1) := by decide +kernel
theorem dX7_placeAt_7 : decode cX7_placeAt 7 = .ok (.putfield 34, 3) := by decide +kernel
theorem dX7_placeAt_10 : decode cX7_placeAt 10 = .ok (.aload_n 0, 1) := by decide +kernel
theorem dX7_placeAt_11 : decode cX7_placeAt 11 = .ok (.iload_n 3, 1) := by decide +kernel
theorem dX7_placeAt_12 : decode cX7_placeAt 12 = .ok (.putfield 37, 3) := by decide +kernel
theorem dX7_placeAt_15 : decode cX7_placeAt 15 = .ok (.return_, 1) := by decide +kernel
theorem dX7_planFor_0 : decode cX7_planFor 0 = .ok (.aload_n 0, 1) := by decide +kernel
theorem dX7_planFor_1 : decode cX7_planFor 1 = .ok (.iload_n 1, 1) := by decide +kernel
theorem dX7_planFor_2 : decode cX7_planFor 2 = .ok (.putfield 40, 3) := by decide +kernel
theorem dX7_planFor_5 : decode cX7_planFor 5 = .ok (.aload_n 0, 1) := by decide +kernel
theorem dX7_planFor_6 : decode cX7_planFor 6 = .ok (.iload_n 1, 1) := by decide +kernel
theorem dX7_planFor_7 : decode cX7_planFor 7 = .ok (.iload_n 2, 1) := by decide +kernel
theorem dX7_planFor_8 : decode cX7_planFor 8 = .ok (.iadd, 1) := by decide +kernel
theorem dX7_planFor_9 : decode cX7_planFor 9 = .ok (.iconst 1, 1) := by decide +kernel
theorem dX7_planFor_10 : decode cX7_planFor 10 = .ok (.isub, 1) := by decide +kernel
theorem dX7_planFor_11 : decode cX7_planFor 11 = .ok (.putfield 43, 3) := by decide +kernel
theorem dX7_planFor_14 : decode cX7_planFor 14 = .ok (.return_, 1) := by decide +kernel
theorem dX7_bit_0 : decode cX7_bit 0 = .ok (.iconst 1, 1) := by decide +kernel
theorem dX7_bit_1 : decode cX7_bit 1 = .ok (.aload_n 0, 1) := by decide +kernel
theorem dX7_bit_2 : decode cX7_bit 2 = .ok (.getfield 9, 3) := by decide +kernel
theorem dX7_bit_5 : decode cX7_bit 5 = .ok (.ishl, 1) := by decide +kernel
theorem dX7_bit_6 : decode cX7_bit 6 = .ok (.ireturn, 1) := by decide +kernel
theorem dX7_agreesWith_0 : decode cX7_agreesWith 0 = .ok (.aload_n 0, 1) := by decide +kernel
theorem dX7_agreesWith_1 : decode cX7_agreesWith 1 = .ok (.getfield 46, 3) := by decide +kernel
theorem dX7_agreesWith_4 : decode cX7_agreesWith 4 = .ok (.aload_n 1, 1) := by decide +kernel
theorem dX7_agreesWith_5 : decode cX7_agreesWith 5 = .ok (.invokevirtual 49, 3) := by decide +kernel
theorem dX7_agreesWith_8 : decode cX7_agreesWith 8 = .ok (.iand, 1) := by decide +kernel
theorem dX7_agreesWith_9 : decode cX7_agreesWith 9 = .ok (.ifCond .eq 7, 3) := by decide +kernel
theorem dX7_agreesWith_12 : decode cX7_agreesWith 12 = .ok (.iconst 1, 1) := by decide +kernel
theorem dX7_agreesWith_13 : decode cX7_agreesWith 13 = .ok (.goto 4, 3) := by decide +kernel
theorem dX7_agreesWith_16 : decode cX7_agreesWith 16 = .ok (.iconst 0, 1) := by decide +kernel
theorem dX7_agreesWith_17 : decode cX7_agreesWith 17 = .ok (.ireturn, 1) := by decide +kernel
theorem dX7_isStanding_0 : decode cX7_isStanding 0 = .ok (.aload_n 0, 1) := by decide +kernel
theorem dX7_isStanding_1 : decode cX7_isStanding 1 = .ok (.getfield 28, 3) := by decide +kernel
theorem dX7_isStanding_4 : decode cX7_isStanding 4 = .ok (.iconst 1, 1) := by decide +kernel
theorem dX7_isStanding_5 : decode cX7_isStanding 5 = .ok (.if_icmp .eq 11, 3) := by decide +kernel
theorem dX7_isStanding_8 : decode cX7_isStanding 8 = .ok (.aload_n 0, 1) := by decide +kernel
theorem dX7_isStanding_9 : decode cX7_isStanding 9 = .ok (.getfield 28, 3) := by decide +kernel
theorem dX7_isStanding_12 : decode cX7_isStanding 12 = .ok (.iconst 3, 1) := by decide +kernel
theorem dX7_isStanding_13 : decode cX7_isStanding 13 = .ok (.if_icmp .ne 7, 3) := by decide +kernel
theorem dX7_isStanding_16 : decode cX7_isStanding 16 = .ok (.iconst 1, 1) := by decide +kernel
theorem dX7_isStanding_17 : decode cX7_isStanding 17 = .ok (.goto 4, 3) := by decide +kernel
theorem dX7_isStanding_20 : decode cX7_isStanding 20 = .ok (.iconst 0, 1) := by decide +kernel
theorem dX7_isStanding_21 : decode cX7_isStanding 21 = .ok (.ireturn, 1) := by decide +kernel
theorem dX7_isOver_0 : decode cX7_isOver 0 = .ok (.aload_n 0, 1) := by decide +kernel
theorem dX7_isOver_1 : decode cX7_isOver 1 = .ok (.getfield 28, 3) := by decide +kernel
theorem dX7_isOver_4 : decode cX7_isOver 4 = .ok (.iconst 2, 1) := by decide +kernel
theorem dX7_isOver_5 : decode cX7_isOver 5 = .ok (.if_icmp .eq 11, 3) := by decide +kernel
theorem dX7_isOver_8 : decode cX7_isOver 8 = .ok (.aload_n 0, 1) := by decide +kernel
theorem dX7_isOver_9 : decode cX7_isOver 9 = .ok (.getfield 28, 3) := by decide +kernel
theorem dX7_isOver_12 : decode cX7_isOver 12 = .ok (.iconst 4, 1) := by decide +kernel
theorem dX7_isOver_13 : decode cX7_isOver 13 = .ok (.if_icmp .ne 7, 3) := by decide +kernel
theorem dX7_isOver_16 : decode cX7_isOver 16 = .ok (.iconst 1, 1) := by decide +kernel
theorem dX7_isOver_17 : decode cX7_isOver 17 = .ok (.goto 4, 3) := by decide +kernel
theorem dX7_isOver_20 : decode cX7_isOver 20 = .ok (.iconst 0, 1) := by decide +kernel
theorem dX7_isOver_21 : decode cX7_isOver 21 = .ok (.ireturn, 1) := by decide +kernel
theorem dX7_hasCondition_0 : decode cX7_hasCondition 0 = .ok (.aload_n 0, 1) := by decide +kernel
theorem dX7_hasCondition_1 : decode cX7_hasCondition 1 = .ok (.getfield 53, 3) := by decide +kernel
theorem dX7_hasCondition_4 : decode cX7_hasCondition 4 = .ok (.iload_n 1, 1) := by decide +kernel
theorem dX7_hasCondition_5 : decode cX7_hasCondition 5 = .ok (.iand, 1) := by decide +kernel
theorem dX7_hasCondition_6 : decode cX7_hasCondition 6 = .ok (.ifCond .eq 7, 3) := by decide +kernel
theorem dX7_hasCondition_9 : decode cX7_hasCondition 9 = .ok (.iconst 1, 1) := by decide +kernel
theorem dX7_hasCondition_10 : decode cX7_hasCondition 10 = .ok (.goto 4, 3) := by decide +kernel
theorem dX7_hasCondition_13 : decode cX7_hasCondition 13 = .ok (.iconst 0, 1) := by decide +kernel
theorem dX7_hasCondition_14 : decode cX7_hasCondition 14 = .ok (.ireturn, 1) := by decide +kernel
theorem dX7_takesStreet_0 : decode cX7_takesStreet 0 = .ok (.aload_n 0, 1) := by decide +kernel
theorem dX7_takesStreet_1 : decode cX7_takesStreet 1 = .ok (.getfield 28, 3) := by decide +kernel
theorem dX7_takesStreet_4 : decode cX7_takesStreet 4 = .ok (.iconst 3, 1) := by decide +kernel
theorem dX7_takesStreet_5 : decode cX7_takesStreet 5 = .ok (.if_icmp .ne 21, 3) := by decide +kernel
theorem dX7_takesStreet_8 : decode cX7_takesStreet 8 = .ok (.aload_n 0, 1) := by decide +kernel
theorem dX7_takesStreet_9 : decode cX7_takesStreet 9 = .ok (.getfield 56, 3) := by decide +kernel
theorem dX7_takesStreet_12 : decode cX7_takesStreet 12 = .ok (.ifCond .le 14, 3) := by decide +kernel
theorem dX7_takesStreet_15 : decode cX7_takesStreet 15 = .ok (.aload_n 0, 1) := by decide +kernel
theorem dX7_takesStreet_16 : decode cX7_takesStreet 16 = .ok (.getfield 59, 3) := by decide +kernel
theorem dX7_takesStreet_19 : decode cX7_takesStreet 19 = .ok (.ifCond .ne 7, 3) := by decide +kernel
theorem dX7_takesStreet_22 : decode cX7_takesStreet 22 = .ok (.iconst 1, 1) := by decide +kernel
theorem dX7_takesStreet_23 : decode cX7_takesStreet 23 = .ok (.goto 4, 3) := by decide +kernel
theorem dX7_takesStreet_26 : decode cX7_takesStreet 26 = .ok (.iconst 0, 1) := by decide +kernel
theorem dX7_takesStreet_27 : decode cX7_takesStreet 27 = .ok (.ireturn, 1) := by decide +kernel
theorem dX7_endOn_0 : decode cX7_endOn 0 = .ok (.aload_n 0, 1) := by decide +kernel
theorem dX7_endOn_1 : decode cX7_endOn 1 = .ok (.getfield 28, 3) := by decide +kernel
theorem dX7_endOn_4 : decode cX7_endOn 4 = .ok (.iconst 3, 1) := by decide +kernel
theorem dX7_endOn_5 : decode cX7_endOn 5 = .ok (.if_icmp .ne 14, 3) := by decide +kernel
theorem dX7_endOn_8 : decode cX7_endOn 8 = .ok (.aload_n 0, 1) := by decide +kernel
theorem dX7_endOn_9 : decode cX7_endOn 9 = .ok (.getfield 43, 3) := by decide +kernel
theorem dX7_endOn_12 : decode cX7_endOn 12 = .ok (.iload_n 1, 1) := by decide +kernel
theorem dX7_endOn_13 : decode cX7_endOn 13 = .ok (.invokestatic 63, 3) := by decide +kernel
theorem dX7_endOn_16 : decode cX7_endOn 16 = .ok (.goto 7, 3) := by decide +kernel
theorem dX7_endOn_19 : decode cX7_endOn 19 = .ok (.aload_n 0, 1) := by decide +kernel
theorem dX7_endOn_20 : decode cX7_endOn 20 = .ok (.getfield 43, 3) := by decide +kernel
theorem dX7_endOn_23 : decode cX7_endOn 23 = .ok (.ireturn, 1) := by decide +kernel
theorem dX7_settledOn_0 : decode cX7_settledOn 0 = .ok (.aload_n 0, 1) := by decide +kernel
theorem dX7_settledOn_1 : decode cX7_settledOn 1 = .ok (.getfield 25, 3) := by decide +kernel
theorem dX7_settledOn_4 : decode cX7_settledOn 4 = .ok (.aload_n 0, 1) := by decide +kernel
theorem dX7_settledOn_5 : decode cX7_settledOn 5 = .ok (.getfield 22, 3) := by decide +kernel
theorem dX7_settledOn_8 : decode cX7_settledOn 8 = .ok (.iconst 2, 1) := by decide +kernel
theorem dX7_settledOn_9 : decode cX7_settledOn 9 = .ok (.if_icmp .ne 7, 3) := by decide +kernel
theorem dX7_settledOn_12 : decode cX7_settledOn 12 = .ok (.iconst 2, 1) := by decide +kernel
theorem dX7_settledOn_13 : decode cX7_settledOn 13 = .ok (.goto 4, 3) := by decide +kernel
theorem dX7_settledOn_16 : decode cX7_settledOn 16 = .ok (.iconst 5, 1) := by decide +kernel
theorem dX7_settledOn_17 : decode cX7_settledOn 17 = .ok (.iadd, 1) := by decide +kernel
theorem dX7_settledOn_18 : decode cX7_settledOn 18 = .ok (.ireturn, 1) := by decide +kernel
theorem dX7_permitCost_0 : decode cX7_permitCost 0 = .ok (.aload_n 0, 1) := by decide +kernel
theorem dX7_permitCost_1 : decode cX7_permitCost 1 = .ok (.getfield 22, 3) := by decide +kernel
theorem dX7_permitCost_4 : decode cX7_permitCost 4 = .ok (.ifCond .ne 8, 3) := by decide +kernel
theorem dX7_permitCost_7 : decode cX7_permitCost 7 = .ok (.bipush 60, 2) := by decide +kernel
theorem dX7_permitCost_9 : decode cX7_permitCost 9 = .ok (.goto 30, 3) := by decide +kernel
theorem dX7_permitCost_12 : decode cX7_permitCost 12 = .ok (.aload_n 0, 1) := by decide +kernel
theorem dX7_permitCost_13 : decode cX7_permitCost 13 = .ok (.getfield 22, 3) := by decide +kernel
theorem dX7_permitCost_16 : decode cX7_permitCost 16 = .ok (.iconst 1, 1) := by decide +kernel
theorem dX7_permitCost_17 : decode cX7_permitCost 17 = .ok (.if_icmp .ne 8, 3) := by decide +kernel
theorem dX7_permitCost_20 : decode cX7_permitCost 20 = .ok (.bipush 40, 2) := by decide +kernel
theorem dX7_permitCost_22 : decode cX7_permitCost 22 = .ok (.goto 17, 3) := by decide +kernel
theorem dX7_permitCost_25 : decode cX7_permitCost 25 = .ok (.aload_n 0, 1) := by decide +kernel
theorem dX7_permitCost_26 : decode cX7_permitCost 26 = .ok (.getfield 22, 3) := by decide +kernel
theorem dX7_permitCost_29 : decode cX7_permitCost 29 = .ok (.iconst 2, 1) := by decide +kernel
theorem dX7_permitCost_30 : decode cX7_permitCost 30 = .ok (.if_icmp .ne 8, 3) := by decide +kernel
theorem dX7_permitCost_33 : decode cX7_permitCost 33 = .ok (.bipush 20, 2) := by decide +kernel
theorem dX7_permitCost_35 : decode cX7_permitCost 35 = .ok (.goto 4, 3) := by decide +kernel
theorem dX7_permitCost_38 : decode cX7_permitCost 38 = .ok (.iconst 0, 1) := by decide +kernel
theorem dX7_permitCost_39 : decode cX7_permitCost 39 = .ok (.istore_n 1, 1) := by decide +kernel
theorem dX7_permitCost_40 : decode cX7_permitCost 40 = .ok (.iload_n 1, 1) := by decide +kernel
theorem dX7_permitCost_41 : decode cX7_permitCost 41 = .ok (.aload_n 0, 1) := by decide +kernel
theorem dX7_permitCost_42 : decode cX7_permitCost 42 = .ok (.getfield 18, 3) := by decide +kernel
theorem dX7_permitCost_45 : decode cX7_permitCost 45 = .ok (.invokevirtual 69, 3) := by decide +kernel
theorem dX7_permitCost_48 : decode cX7_permitCost 48 = .ok (.imul, 1) := by decide +kernel
theorem dX7_permitCost_49 : decode cX7_permitCost 49 = .ok (.ireturn, 1) := by decide +kernel
theorem dX7_daysLiable_0 : decode cX7_daysLiable 0 = .ok (.aload_n 0, 1) := by decide +kernel
theorem dX7_daysLiable_1 : decode cX7_daysLiable 1 = .ok (.getfield 37, 3) := by decide +kernel
theorem dX7_daysLiable_4 : decode cX7_daysLiable 4 = .ok (.bipush 120, 2) := by decide +kernel
theorem dX7_daysLiable_6 : decode cX7_daysLiable 6 = .ok (.if_icmp .lt 9, 3) := by decide +kernel
theorem dX7_daysLiable_9 : decode cX7_daysLiable 9 = .ok (.sipush 300, 3) := by decide +kernel
theorem dX7_daysLiable_12 : decode cX7_daysLiable 12 = .ok (.goto 6, 3) := by decide +kernel
theorem dX7_daysLiable_15 : decode cX7_daysLiable 15 = .ok (.sipush 200, 3) := by decide +kernel
theorem dX7_daysLiable_18 : decode cX7_daysLiable 18 = .ok (.ireturn, 1) := by decide +kernel
theorem dX7_ownMetreAt_0 : decode cX7_ownMetreAt 0 = .ok (.iload_n 1, 1) := by decide +kernel
theorem dX7_ownMetreAt_1 : decode cX7_ownMetreAt 1 = .ok (.aload_n 0, 1) := by decide +kernel
theorem dX7_ownMetreAt_2 : decode cX7_ownMetreAt 2 = .ok (.getfield 31, 3) := by decide +kernel
theorem dX7_ownMetreAt_5 : decode cX7_ownMetreAt 5 = .ok (.if_icmp .lt 22, 3) := by decide +kernel
theorem dX7_ownMetreAt_8 : decode cX7_ownMetreAt 8 = .ok (.iload_n 1, 1) := by decide +kernel
theorem dX7_ownMetreAt_9 : decode cX7_ownMetreAt 9 = .ok (.aload_n 0, 1) := by decide +kernel
theorem dX7_ownMetreAt_10 : decode cX7_ownMetreAt 10 = .ok (.getfield 34, 3) := by decide +kernel
theorem dX7_ownMetreAt_13 : decode cX7_ownMetreAt 13 = .ok (.if_icmp .gt 14, 3) := by decide +kernel
theorem dX7_ownMetreAt_16 : decode cX7_ownMetreAt 16 = .ok (.aload_n 0, 1) := by decide +kernel
theorem dX7_ownMetreAt_17 : decode cX7_ownMetreAt 17 = .ok (.getfield 18, 3) := by decide +kernel
theorem dX7_ownMetreAt_20 : decode cX7_ownMetreAt 20 = .ok (.iload_n 1, 1) := by decide +kernel
theorem dX7_ownMetreAt_21 : decode cX7_ownMetreAt 21 = .ok (.invokevirtual 74, 3) := by decide +kernel
theorem dX7_ownMetreAt_24 : decode cX7_ownMetreAt 24 = .ok (.goto 4, 3) := by decide +kernel
theorem dX7_ownMetreAt_27 : decode cX7_ownMetreAt 27 = .ok (.aconst_null, 1) := by decide +kernel
theorem dX7_ownMetreAt_28 : decode cX7_ownMetreAt 28 = .ok (.areturn, 1) := by decide +kernel
theorem dX7_mayMeet_0 : decode cX7_mayMeet 0 = .ok (.aload_n 0, 1) := by decide +kernel
theorem dX7_mayMeet_1 : decode cX7_mayMeet 1 = .ok (.invokevirtual 78, 3) := by decide +kernel
theorem dX7_mayMeet_4 : decode cX7_mayMeet 4 = .ok (.ifCond .eq 10, 3) := by decide +kernel
theorem dX7_mayMeet_7 : decode cX7_mayMeet 7 = .ok (.aload_n 1, 1) := by decide +kernel
theorem dX7_mayMeet_8 : decode cX7_mayMeet 8 = .ok (.invokevirtual 82, 3) := by decide +kernel
theorem dX7_mayMeet_11 : decode cX7_mayMeet 11 = .ok (.ifCond .eq 17, 3) := by decide +kernel
theorem dX7_mayMeet_14 : decode cX7_mayMeet 14 = .ok (.aload_n 1, 1) := by decide +kernel
theorem dX7_mayMeet_15 : decode cX7_mayMeet 15 = .ok (.invokevirtual 78, 3) := by decide +kernel
theorem dX7_mayMeet_18 : decode cX7_mayMeet 18 = .ok (.ifCond .eq 14, 3) := by decide +kernel
theorem dX7_mayMeet_21 : decode cX7_mayMeet 21 = .ok (.aload_n 0, 1) := by decide +kernel
theorem dX7_mayMeet_22 : decode cX7_mayMeet 22 = .ok (.invokevirtual 82, 3) := by decide +kernel
theorem dX7_mayMeet_25 : decode cX7_mayMeet 25 = .ok (.ifCond .ne 7, 3) := by decide +kernel
theorem dX7_mayMeet_28 : decode cX7_mayMeet 28 = .ok (.iconst 1, 1) := by decide +kernel
theorem dX7_mayMeet_29 : decode cX7_mayMeet 29 = .ok (.goto 4, 3) := by decide +kernel
theorem dX7_mayMeet_32 : decode cX7_mayMeet 32 = .ok (.iconst 0, 1) := by decide +kernel
theorem dX7_mayMeet_33 : decode cX7_mayMeet 33 = .ok (.ireturn, 1) := by decide +kernel
theorem dX7_areNear_0 : decode cX7_areNear 0 = .ok (.aload_n 0, 1) := by decide +kernel
theorem dX7_areNear_1 : decode cX7_areNear 1 = .ok (.getfield 18, 3) := by decide +kernel
theorem dX7_areNear_4 : decode cX7_areNear 4 = .ok (.aload_n 1, 1) := by decide +kernel
theorem dX7_areNear_5 : decode cX7_areNear 5 = .ok (.getfield 18, 3) := by decide +kernel
theorem dX7_areNear_8 : decode cX7_areNear 8 = .ok (.if_acmp .ne 40, 3) := by decide +kernel
theorem dX7_areNear_11 : decode cX7_areNear 11 = .ok (.aload_n 0, 1) := by decide +kernel
theorem dX7_areNear_12 : decode cX7_areNear 12 = .ok (.getfield 31, 3) := by decide +kernel
theorem dX7_areNear_15 : decode cX7_areNear 15 = .ok (.aload_n 1, 1) := by decide +kernel
theorem dX7_areNear_16 : decode cX7_areNear 16 = .ok (.getfield 31, 3) := by decide +kernel
theorem dX7_areNear_19 : decode cX7_areNear 19 = .ok (.invokestatic 63, 3) := by decide +kernel
theorem dX7_areNear_22 : decode cX7_areNear 22 = .ok (.aload_n 0, 1) := by decide +kernel
theorem dX7_areNear_23 : decode cX7_areNear 23 = .ok (.getfield 34, 3) := by decide +kernel
theorem dX7_areNear_26 : decode cX7_areNear 26 = .ok (.aload_n 1, 1) := by decide +kernel
theorem dX7_areNear_27 : decode cX7_areNear 27 = .ok (.getfield 34, 3) := by decide +kernel
theorem dX7_areNear_30 : decode cX7_areNear 30 = .ok (.invokestatic 85, 3) := by decide +kernel
theorem dX7_areNear_33 : decode cX7_areNear 33 = .ok (.isub, 1) := by decide +kernel
theorem dX7_areNear_34 : decode cX7_areNear 34 = .ok (.iconst 1, 1) := by decide +kernel
theorem dX7_areNear_35 : decode cX7_areNear 35 = .ok (.isub, 1) := by decide +kernel
theorem dX7_areNear_36 : decode cX7_areNear 36 = .ok (.istore_n 2, 1) := by decide +kernel
theorem dX7_areNear_37 : decode cX7_areNear 37 = .ok (.iload_n 2, 1) := by decide +kernel
theorem dX7_areNear_38 : decode cX7_areNear 38 = .ok (.iconst 3, 1) := by decide +kernel
theorem dX7_areNear_39 : decode cX7_areNear 39 = .ok (.if_icmp .ge 7, 3) := by decide +kernel
theorem dX7_areNear_42 : decode cX7_areNear 42 = .ok (.iconst 1, 1) := by decide +kernel
theorem dX7_areNear_43 : decode cX7_areNear 43 = .ok (.goto 4, 3) := by decide +kernel
theorem dX7_areNear_46 : decode cX7_areNear 46 = .ok (.iconst 0, 1) := by decide +kernel
theorem dX7_areNear_47 : decode cX7_areNear 47 = .ok (.ireturn, 1) := by decide +kernel
theorem dX7_areNear_48 : decode cX7_areNear 48 = .ok (.aload_n 0, 1) := by decide +kernel
theorem dX7_areNear_49 : decode cX7_areNear 49 = .ok (.getfield 18, 3) := by decide +kernel
theorem dX7_areNear_52 : decode cX7_areNear 52 = .ok (.getfield 88, 3) := by decide +kernel
theorem dX7_areNear_55 : decode cX7_areNear 55 = .ok (.aload_n 1, 1) := by decide +kernel
theorem dX7_areNear_56 : decode cX7_areNear 56 = .ok (.getfield 18, 3) := by decide +kernel
theorem dX7_areNear_59 : decode cX7_areNear 59 = .ok (.if_acmp .eq 17, 3) := by decide +kernel
theorem dX7_areNear_62 : decode cX7_areNear 62 = .ok (.aload_n 1, 1) := by decide +kernel
theorem dX7_areNear_63 : decode cX7_areNear 63 = .ok (.getfield 18, 3) := by decide +kernel
theorem dX7_areNear_66 : decode cX7_areNear 66 = .ok (.getfield 88, 3) := by decide +kernel
theorem dX7_areNear_69 : decode cX7_areNear 69 = .ok (.aload_n 0, 1) := by decide +kernel
theorem dX7_areNear_70 : decode cX7_areNear 70 = .ok (.getfield 18, 3) := by decide +kernel
theorem dX7_areNear_73 : decode cX7_areNear 73 = .ok (.if_acmp .ne 7, 3) := by decide +kernel
theorem dX7_areNear_76 : decode cX7_areNear 76 = .ok (.iconst 1, 1) := by decide +kernel
theorem dX7_areNear_77 : decode cX7_areNear 77 = .ok (.goto 4, 3) := by decide +kernel
theorem dX7_areNear_80 : decode cX7_areNear 80 = .ok (.iconst 0, 1) := by decide +kernel
theorem dX7_areNear_81 : decode cX7_areNear 81 = .ok (.ireturn, 1) := by decide +kernel
theorem dX8_init_0 : decode cX8_init 0 = .ok (.aload_n 0, 1) := by decide +kernel
theorem dX8_init_1 : decode cX8_init 1 = .ok (.invokespecial 1, 3) := by decide +kernel
theorem dX8_init_4 : decode cX8_init 4 = .ok (.aload_n 0, 1) := by decide +kernel
theorem dX8_init_5 : decode cX8_init 5 = .ok (.bipush 6, 2) := by decide +kernel
theorem dX8_init_7 : decode cX8_init 7 = .ok (.anewarray 9, 3) := by decide +kernel
theorem dX8_init_10 : decode cX8_init 10 = .ok (.putfield 11, 3) := by decide +kernel
theorem dX8_init_13 : decode cX8_init 13 = .ok (.aload_n 0, 1) := by decide +kernel
theorem dX8_init_14 : decode cX8_init 14 = .ok (.bipush 30, 2) := by decide +kernel
theorem dX8_init_16 : decode cX8_init 16 = .ok (.anewarray 15, 3) := by decide +kernel
theorem dX8_init_19 : decode cX8_init 19 = .ok (.putfield 17, 3) := by decide +kernel
theorem dX8_init_22 : decode cX8_init 22 = .ok (.aload_n 0, 1) := by decide +kernel
theorem dX8_init_23 : decode cX8_init 23 = .ok (.bipush 24, 2) := by decide +kernel
theorem dX8_init_25 : decode cX8_init 25 = .ok (.anewarray 21, 3) := by decide +kernel
theorem dX8_init_28 : decode cX8_init 28 = .ok (.putfield 23, 3) := by decide +kernel
theorem dX8_init_31 : decode cX8_init 31 = .ok (.aload_n 0, 1) := by decide +kernel
theorem dX8_init_32 : decode cX8_init 32 = .ok (.bipush 6, 2) := by decide +kernel
theorem dX8_init_34 : decode cX8_init 34 = .ok (.anewarray 27, 3) := by decide +kernel
theorem dX8_init_37 : decode cX8_init 37 = .ok (.putfield 29, 3) := by decide +kernel
theorem dX8_init_40 : decode cX8_init 40 = .ok (.aload_n 0, 1) := by decide +kernel
theorem dX8_init_41 : decode cX8_init 41 = .ok (.new 33, 3) := by decide +kernel
theorem dX8_init_44 : decode cX8_init 44 = .ok (.dup, 1) := by decide +kernel
theorem dX8_init_45 : decode cX8_init 45 = .ok (.invokespecial 35, 3) := by decide +kernel
theorem dX8_init_48 : decode cX8_init 48 = .ok (.putfield 36, 3) := by decide +kernel
theorem dX8_init_51 : decode cX8_init 51 = .ok (.aload_n 0, 1) := by decide +kernel
theorem dX8_init_52 : decode cX8_init 52 = .ok (.new 40, 3) := by decide +kernel
theorem dX8_init_55 : decode cX8_init 55 = .ok (.dup, 1) := by decide +kernel
theorem dX8_init_56 : decode cX8_init 56 = .ok (.invokespecial 42, 3) := by decide +kernel
theorem dX8_init_59 : decode cX8_init 59 = .ok (.putfield 43, 3) := by decide +kernel
theorem dX8_init_62 : decode cX8_init 62 = .ok (.iconst 0, 1) := by decide +kernel
theorem dX8_init_63 : decode cX8_init 63 = .ok (.istore_n 1, 1) := by decide +kernel
theorem dX8_init_64 : decode cX8_init 64 = .ok (.iload_n 1, 1) := by decide +kernel
theorem dX8_init_65 : decode cX8_init 65 = .ok (.aload_n 0, 1) := by decide +kernel
theorem dX8_init_66 : decode cX8_init 66 = .ok (.getfield 29, 3) := by decide +kernel
theorem dX8_init_69 : decode cX8_init 69 = .ok (.arraylength, 1) := by decide +kernel
theorem dX8_init_70 : decode cX8_init 70 = .ok (.if_icmp .ge 22, 3) := by decide +kernel
theorem dX8_init_73 : decode cX8_init 73 = .ok (.aload_n 0, 1) := by decide +kernel
theorem dX8_init_74 : decode cX8_init 74 = .ok (.getfield 29, 3) := by decide +kernel
theorem dX8_init_77 : decode cX8_init 77 = .ok (.iload_n 1, 1) := by decide +kernel
theorem dX8_init_78 : decode cX8_init 78 = .ok (.new 27, 3) := by decide +kernel
theorem dX8_init_81 : decode cX8_init 81 = .ok (.dup, 1) := by decide +kernel
theorem dX8_init_82 : decode cX8_init 82 = .ok (.invokespecial 47, 3) := by decide +kernel
theorem dX8_init_85 : decode cX8_init 85 = .ok (.aastore, 1) := by decide +kernel
theorem dX8_init_86 : decode cX8_init 86 = .ok (.iinc 1 1, 3) := by decide +kernel
theorem dX8_init_89 : decode cX8_init 89 = .ok (.goto (-25), 3) := by decide +kernel
theorem dX8_init_92 : decode cX8_init 92 = .ok (.return_, 1) := by decide +kernel
theorem dX8_street_0 : decode cX8_street 0 = .ok (.aload_n 0, 1) := by decide +kernel
theorem dX8_street_1 : decode cX8_street 1 = .ok (.iload 4, 2) := by decide +kernel
theorem dX8_street_3 : decode cX8_street 3 = .ok (.invokevirtual 48, 3) := by decide +kernel
theorem dX8_street_6 : decode cX8_street 6 = .ok (.astore 5, 2) := by decide +kernel
theorem dX8_street_8 : decode cX8_street 8 = .ok (.aload 5, 2) := by decide +kernel
theorem dX8_street_10 : decode cX8_street 10 = .ok (.ifnonnull 19, 3) := by decide +kernel
theorem dX8_street_13 : decode cX8_street 13 = .ok (.iload 4, 2) := by decide +kernel
theorem dX8_street_15 : decode cX8_street 15 = .ok (.iconst (-1), 1) := by decide +kernel
theorem dX8_street_16 : decode cX8_street 16 = .ok (.if_icmp .eq 13, 3) := by decide +kernel
theorem dX8_street_19 : decode cX8_street 19 = .ok (.new 52, 3) := by decide +kernel
theorem dX8_street_22 : decode cX8_street 22 = .ok (.dup, 1) := by decide +kernel
theorem dX8_street_23 : decode cX8_street 23 = .ok (.ldc 54, 2) := by decide +kernel
theorem dX8_street_25 : decode cX8_street 25 = .ok (.invokespecial 56, 3) := by decide +kernel
theorem dX8_street_28 : decode cX8_street 28 = .ok (.athrow, 1) := by decide +kernel
theorem dX8_street_29 : decode cX8_street 29 = .ok (.iload_n 1, 1) := by decide +kernel
theorem dX8_street_30 : decode cX8_street 30 = .ok (.iconst 1, 1) := by decide +kernel
theorem dX8_street_31 : decode cX8_street 31 = .ok (.if_icmp .lt 29, 3) := by decide +kernel
theorem dX8_street_34 : decode cX8_street 34 = .ok (.iload_n 1, 1) := by decide +kernel
theorem dX8_street_35 : decode cX8_street 35 = .ok (.bipush 40, 2) := by decide +kernel
theorem dX8_street_37 : decode cX8_street 37 = .ok (.if_icmp .gt 23, 3) := by decide +kernel
theorem dX8_street_40 : decode cX8_street 40 = .ok (.iload_n 2, 1) := by decide +kernel
theorem dX8_street_41 : decode cX8_street 41 = .ok (.ifCond .lt 19, 3) := by decide +kernel
theorem dX8_street_44 : decode cX8_street 44 = .ok (.iload_n 2, 1) := by decide +kernel
theorem dX8_street_45 : decode cX8_street 45 = .ok (.iconst 3, 1) := by decide +kernel
theorem dX8_street_46 : decode cX8_street 46 = .ok (.if_icmp .gt 14, 3) := by decide +kernel
theorem dX8_street_49 : decode cX8_street 49 = .ok (.iload_n 3, 1) := by decide +kernel
theorem dX8_street_50 : decode cX8_street 50 = .ok (.ifCond .lt 10, 3) := by decide +kernel
theorem dX8_street_53 : decode cX8_street 53 = .ok (.iload_n 3, 1) := by decide +kernel
theorem dX8_street_54 : decode cX8_street 54 = .ok (.sipush 999, 3) := by decide +kernel
theorem dX8_street_57 : decode cX8_street 57 = .ok (.if_icmp .le 13, 3) := by decide +kernel
theorem dX8_street_60 : decode cX8_street 60 = .ok (.new 59, 3) := by decide +kernel
theorem dX8_street_63 : decode cX8_street 63 = .ok (.dup, 1) := by decide +kernel
theorem dX8_street_64 : decode cX8_street 64 = .ok (.ldc 61, 2) := by decide +kernel
theorem dX8_street_66 : decode cX8_street 66 = .ok (.invokespecial 63, 3) := by decide +kernel
theorem dX8_street_69 : decode cX8_street 69 = .ok (.athrow, 1) := by decide +kernel
theorem dX8_street_70 : decode cX8_street 70 = .ok (.aload_n 0, 1) := by decide +kernel
theorem dX8_street_71 : decode cX8_street 71 = .ok (.getfield 64, 3) := by decide +kernel
theorem dX8_street_74 : decode cX8_street 74 = .ok (.aload_n 0, 1) := by decide +kernel
theorem dX8_street_75 : decode cX8_street 75 = .ok (.getfield 11, 3) := by decide +kernel
theorem dX8_street_78 : decode cX8_street 78 = .ok (.arraylength, 1) := by decide +kernel
theorem dX8_street_79 : decode cX8_street 79 = .ok (.if_icmp .lt 13, 3) := by decide +kernel
theorem dX8_street_82 : decode cX8_street 82 = .ok (.new 68, 3) := by decide +kernel
theorem dX8_street_85 : decode cX8_street 85 = .ok (.dup, 1) := by decide +kernel
theorem dX8_street_86 : decode cX8_street 86 = .ok (.ldc 70, 2) := by decide +kernel
theorem dX8_street_88 : decode cX8_street 88 = .ok (.invokespecial 72, 3) := by decide +kernel
theorem dX8_street_91 : decode cX8_street 91 = .ok (.athrow, 1) := by decide +kernel
theorem dX8_street_92 : decode cX8_street 92 = .ok (.aload_n 0, 1) := by decide +kernel
theorem dX8_street_93 : decode cX8_street 93 = .ok (.getfield 11, 3) := by decide +kernel
theorem dX8_street_96 : decode cX8_street 96 = .ok (.aload_n 0, 1) := by decide +kernel
theorem dX8_street_97 : decode cX8_street 97 = .ok (.getfield 64, 3) := by decide +kernel
theorem dX8_street_100 : decode cX8_street 100 = .ok (.new 9, 3) := by decide +kernel
theorem dX8_street_103 : decode cX8_street 103 = .ok (.dup, 1) := by decide +kernel
theorem dX8_street_104 : decode cX8_street 104 = .ok (.aload_n 0, 1) := by decide +kernel
theorem dX8_street_105 : decode cX8_street 105 = .ok (.getfield 64, 3) := by decide +kernel
theorem dX8_street_108 : decode cX8_street 108 = .ok (.iload_n 1, 1) := by decide +kernel
theorem dX8_street_109 : decode cX8_street 109 = .ok (.iload_n 2, 1) := by decide +kernel
theorem dX8_street_110 : decode cX8_street 110 = .ok (.iload_n 3, 1) := by decide +kernel
theorem dX8_street_111 : decode cX8_street 111 = .ok (.aload 5, 2) := by decide +kernel
theorem dX8_street_113 : decode cX8_street 113 = .ok (.invokespecial 73, 3) := by decide +kernel
theorem dX8_street_116 : decode cX8_street 116 = .ok (.aastore, 1) := by decide +kernel
theorem dX8_street_117 : decode cX8_street 117 = .ok (.aload_n 0, 1) := by decide +kernel
theorem dX8_street_118 : decode cX8_street 118 = .ok (.dup, 1) := by decide +kernel
theorem dX8_street_119 : decode cX8_street 119 = .ok (.getfield 64, 3) := by decide +kernel
theorem dX8_street_122 : decode cX8_street 122 = .ok (.iconst 1, 1) := by decide +kernel
theorem dX8_street_123 : decode cX8_street 123 = .ok (.iadd, 1) := by decide +kernel
theorem dX8_street_124 : decode cX8_street 124 = .ok (.putfield 64, 3) := by decide +kernel
theorem dX8_street_127 : decode cX8_street 127 = .ok (.aload_n 0, 1) := by decide +kernel
theorem dX8_street_128 : decode cX8_street 128 = .ok (.getfield 64, 3) := by decide +kernel
theorem dX8_street_131 : decode cX8_street 131 = .ok (.iconst 1, 1) := by decide +kernel
theorem dX8_street_132 : decode cX8_street 132 = .ok (.isub, 1) := by decide +kernel
theorem dX8_street_133 : decode cX8_street 133 = .ok (.ireturn, 1) := by decide +kernel
theorem dX8_surface_0 : decode cX8_surface 0 = .ok (.aload_n 0, 1) := by decide +kernel
theorem dX8_surface_1 : decode cX8_surface 1 = .ok (.iload_n 1, 1) := by decide +kernel
theorem dX8_surface_2 : decode cX8_surface 2 = .ok (.invokevirtual 48, 3) := by decide +kernel
theorem dX8_surface_5 : decode cX8_surface 5 = .ok (.astore_n 2, 1) := by decide +kernel
theorem dX8_surface_6 : decode cX8_surface 6 = .ok (.aload_n 2, 1) := by decide +kernel
theorem dX8_surface_7 : decode cX8_surface 7 = .ok (.ifnonnull 13, 3) := by decide +kernel
theorem dX8_surface_10 : decode cX8_surface 10 = .ok (.new 52, 3) := by decide +kernel
theorem dX8_surface_13 : decode cX8_surface 13 = .ok (.dup, 1) := by decide +kernel
theorem dX8_surface_14 : decode cX8_surface 14 = .ok (.ldc 76, 2) := by decide +kernel
theorem dX8_surface_16 : decode cX8_surface 16 = .ok (.invokespecial 56, 3) := by decide +kernel
theorem dX8_surface_19 : decode cX8_surface 19 = .ok (.athrow, 1) := by decide +kernel
theorem dX8_surface_20 : decode cX8_surface 20 = .ok (.aload_n 2, 1) := by decide +kernel
theorem dX8_surface_21 : decode cX8_surface 21 = .ok (.invokevirtual 78, 3) := by decide +kernel
theorem dX8_surface_24 : decode cX8_surface 24 = .ok (.ifCond .eq 13, 3) := by decide +kernel
theorem dX8_surface_27 : decode cX8_surface 27 = .ok (.new 68, 3) := by decide +kernel
theorem dX8_surface_30 : decode cX8_surface 30 = .ok (.dup, 1) := by decide +kernel
theorem dX8_surface_31 : decode cX8_surface 31 = .ok (.ldc 82, 2) := by decide +kernel
theorem dX8_surface_33 : decode cX8_surface 33 = .ok (.invokespecial 72, 3) := by decide +kernel
theorem dX8_surface_36 : decode cX8_surface 36 = .ok (.athrow, 1) := by decide +kernel
theorem dX8_surface_37 : decode cX8_surface 37 = .ok (.aload_n 2, 1) := by decide +kernel
theorem dX8_surface_38 : decode cX8_surface 38 = .ok (.aload_n 0, 1) := by decide +kernel
theorem dX8_surface_39 : decode cX8_surface 39 = .ok (.invokevirtual 84, 3) := by decide +kernel
theorem dX8_surface_42 : decode cX8_surface 42 = .ok (.putfield 88, 3) := by decide +kernel
theorem dX8_surface_45 : decode cX8_surface 45 = .ok (.aload_n 2, 1) := by decide +kernel
theorem dX8_surface_46 : decode cX8_surface 46 = .ok (.aload_n 0, 1) := by decide +kernel
theorem dX8_surface_47 : decode cX8_surface 47 = .ok (.getfield 43, 3) := by decide +kernel
theorem dX8_surface_50 : decode cX8_surface 50 = .ok (.invokevirtual 91, 3) := by decide +kernel
theorem dX8_surface_53 : decode cX8_surface 53 = .ok (.putfield 94, 3) := by decide +kernel
theorem dX8_surface_56 : decode cX8_surface 56 = .ok (.aload_n 0, 1) := by decide +kernel
theorem dX8_surface_57 : decode cX8_surface 57 = .ok (.new 97, 3) := by decide +kernel
theorem dX8_surface_60 : decode cX8_surface 60 = .ok (.dup, 1) := by decide +kernel
theorem dX8_surface_61 : decode cX8_surface 61 = .ok (.aload_n 2, 1) := by decide +kernel
theorem dX8_surface_62 : decode cX8_surface 62 = .ok (.iconst (-1), 1) := by decide +kernel
theorem dX8_surface_63 : decode cX8_surface 63 = .ok (.aconst_null, 1) := by decide +kernel
theorem dX8_surface_64 : decode cX8_surface 64 = .ok (.aload_n 2, 1) := by decide +kernel
theorem dX8_surface_65 : decode cX8_surface 65 = .ok (.getfield 88, 3) := by decide +kernel
theorem dX8_surface_68 : decode cX8_surface 68 = .ok (.invokespecial 99, 3) := by decide +kernel
theorem dX8_surface_71 : decode cX8_surface 71 = .ok (.invokevirtual 102, 3) := by decide +kernel
theorem dX8_surface_74 : decode cX8_surface 74 = .ok (.aload_n 2, 1) := by decide +kernel
theorem dX8_surface_75 : decode cX8_surface 75 = .ok (.getfield 88, 3) := by decide +kernel
theorem dX8_surface_78 : decode cX8_surface 78 = .ok (.bipush 99, 2) := by decide +kernel
theorem dX8_surface_80 : decode cX8_surface 80 = .ok (.iadd, 1) := by decide +kernel
theorem dX8_surface_81 : decode cX8_surface 81 = .ok (.ireturn, 1) := by decide +kernel
theorem dX8_embargo_0 : decode cX8_embargo 0 = .ok (.aload_n 0, 1) := by decide +kernel
theorem dX8_embargo_1 : decode cX8_embargo 1 = .ok (.iload_n 1, 1) := by decide +kernel
theorem dX8_embargo_2 : decode cX8_embargo 2 = .ok (.invokevirtual 48, 3) := by decide +kernel
theorem dX8_embargo_5 : decode cX8_embargo 5 = .ok (.astore 4, 2) := by decide +kernel
theorem dX8_embargo_7 : decode cX8_embargo 7 = .ok (.aload 4, 2) := by decide +kernel
theorem dX8_embargo_9 : decode cX8_embargo 9 = .ok (.ifnonnull 13, 3) := by decide +kernel
theorem dX8_embargo_12 : decode cX8_embargo 12 = .ok (.new 52, 3) := by decide +kernel
theorem dX8_embargo_15 : decode cX8_embargo 15 = .ok (.dup, 1) := by decide +kernel
theorem dX8_embargo_16 : decode cX8_embargo 16 = .ok (.ldc 76, 2) := by decide +kernel
theorem dX8_embargo_18 : decode cX8_embargo 18 = .ok (.invokespecial 56, 3) := by decide +kernel
theorem dX8_embargo_21 : decode cX8_embargo 21 = .ok (.athrow, 1) := by decide +kernel
theorem dX8_embargo_22 : decode cX8_embargo 22 = .ok (.iload_n 2, 1) := by decide +kernel
theorem dX8_embargo_23 : decode cX8_embargo 23 = .ok (.ifCond .lt 22, 3) := by decide +kernel
theorem dX8_embargo_26 : decode cX8_embargo 26 = .ok (.iload_n 2, 1) := by decide +kernel
theorem dX8_embargo_27 : decode cX8_embargo 27 = .ok (.sipush 999, 3) := by decide +kernel
theorem dX8_embargo_30 : decode cX8_embargo 30 = .ok (.if_icmp .gt 15, 3) := by decide +kernel
theorem dX8_embargo_33 : decode cX8_embargo 33 = .ok (.iload_n 3, 1) := by decide +kernel
theorem dX8_embargo_34 : decode cX8_embargo 34 = .ok (.iload_n 2, 1) := by decide +kernel
theorem dX8_embargo_35 : decode cX8_embargo 35 = .ok (.if_icmp .lt 10, 3) := by decide +kernel
theorem dX8_embargo_38 : decode cX8_embargo 38 = .ok (.iload_n 3, 1) := by decide +kernel
theorem dX8_embargo_39 : decode cX8_embargo 39 = .ok (.sipush 999, 3) := by decide +kernel
theorem dX8_embargo_42 : decode cX8_embargo 42 = .ok (.if_icmp .le 13, 3) := by decide +kernel
theorem dX8_embargo_45 : decode cX8_embargo 45 = .ok (.new 59, 3) := by decide +kernel
theorem dX8_embargo_48 : decode cX8_embargo 48 = .ok (.dup, 1) := by decide +kernel
theorem dX8_embargo_49 : decode cX8_embargo 49 = .ok (.ldc 106, 2) := by decide +kernel
theorem dX8_embargo_51 : decode cX8_embargo 51 = .ok (.invokespecial 63, 3) := by decide +kernel
theorem dX8_embargo_54 : decode cX8_embargo 54 = .ok (.athrow, 1) := by decide +kernel
theorem dX8_embargo_55 : decode cX8_embargo 55 = .ok (.aload 4, 2) := by decide +kernel
theorem dX8_embargo_57 : decode cX8_embargo 57 = .ok (.iload_n 2, 1) := by decide +kernel
theorem dX8_embargo_58 : decode cX8_embargo 58 = .ok (.putfield 108, 3) := by decide +kernel
theorem dX8_embargo_61 : decode cX8_embargo 61 = .ok (.aload 4, 2) := by decide +kernel
theorem dX8_embargo_63 : decode cX8_embargo 63 = .ok (.iload_n 3, 1) := by decide +kernel
theorem dX8_embargo_64 : decode cX8_embargo 64 = .ok (.putfield 111, 3) := by decide +kernel
theorem dX8_embargo_67 : decode cX8_embargo 67 = .ok (.iconst 0, 1) := by decide +kernel
theorem dX8_embargo_68 : decode cX8_embargo 68 = .ok (.istore 5, 2) := by decide +kernel
theorem dX8_embargo_70 : decode cX8_embargo 70 = .ok (.iconst 0, 1) := by decide +kernel
theorem dX8_embargo_71 : decode cX8_embargo 71 = .ok (.istore 6, 2) := by decide +kernel
theorem dX8_embargo_73 : decode cX8_embargo 73 = .ok (.iload 6, 2) := by decide +kernel
theorem dX8_embargo_75 : decode cX8_embargo 75 = .ok (.aload_n 0, 1) := by decide +kernel
theorem dX8_embargo_76 : decode cX8_embargo 76 = .ok (.getfield 23, 3) := by decide +kernel
theorem dX8_embargo_79 : decode cX8_embargo 79 = .ok (.arraylength, 1) := by decide +kernel
theorem dX8_embargo_80 : decode cX8_embargo 80 = .ok (.if_icmp .ge 63, 3) := by decide +kernel
theorem dX8_embargo_83 : decode cX8_embargo 83 = .ok (.aload_n 0, 1) := by decide +kernel
theorem dX8_embargo_84 : decode cX8_embargo 84 = .ok (.getfield 23, 3) := by decide +kernel
theorem dX8_embargo_87 : decode cX8_embargo 87 = .ok (.iload 6, 2) := by decide +kernel
theorem dX8_embargo_89 : decode cX8_embargo 89 = .ok (.aaload, 1) := by decide +kernel
theorem dX8_embargo_90 : decode cX8_embargo 90 = .ok (.astore 7, 2) := by decide +kernel
theorem dX8_embargo_92 : decode cX8_embargo 92 = .ok (.aload 7, 2) := by decide +kernel
theorem dX8_embargo_94 : decode cX8_embargo 94 = .ok (.ifnull 43, 3) := by decide +kernel
theorem dX8_embargo_97 : decode cX8_embargo 97 = .ok (.aload 7, 2) := by decide +kernel
theorem dX8_embargo_99 : decode cX8_embargo 99 = .ok (.getfield 114, 3) := by decide +kernel
theorem dX8_embargo_102 : decode cX8_embargo 102 = .ok (.aload 4, 2) := by decide +kernel
theorem dX8_embargo_104 : decode cX8_embargo 104 = .ok (.if_acmp .ne 33, 3) := by decide +kernel
theorem dX8_embargo_107 : decode cX8_embargo 107 = .ok (.aload 7, 2) := by decide +kernel
theorem dX8_embargo_109 : decode cX8_embargo 109 = .ok (.getfield 118, 3) := by decide +kernel
theorem dX8_embargo_112 : decode cX8_embargo 112 = .ok (.iconst 1, 1) := by decide +kernel
theorem dX8_embargo_113 : decode cX8_embargo 113 = .ok (.if_icmp .ne 24, 3) := by decide +kernel
theorem dX8_embargo_116 : decode cX8_embargo 116 = .ok (.aload 4, 2) := by decide +kernel
theorem dX8_embargo_118 : decode cX8_embargo 118 = .ok (.aload 7, 2) := by decide +kernel
theorem dX8_embargo_120 : decode cX8_embargo 120 = .ok (.getfield 121, 3) := by decide +kernel
theorem dX8_embargo_123 : decode cX8_embargo 123 = .ok (.aload 7, 2) := by decide +kernel
theorem dX8_embargo_125 : decode cX8_embargo 125 = .ok (.getfield 124, 3) := by decide +kernel
theorem dX8_embargo_128 : decode cX8_embargo 128 = .ok (.invokevirtual 127, 3) := by decide +kernel
theorem dX8_embargo_131 : decode cX8_embargo 131 = .ok (.ifCond .eq 6, 3) := by decide +kernel
theorem dX8_embargo_134 : decode cX8_embargo 134 = .ok (.iinc 5 1, 3) := by decide +kernel
theorem dX8_embargo_137 : decode cX8_embargo 137 = .ok (.iinc 6 1, 3) := by decide +kernel
theorem dX8_embargo_140 : decode cX8_embargo 140 = .ok (.goto (-67), 3) := by decide +kernel
theorem dX8_embargo_143 : decode cX8_embargo 143 = .ok (.iload 5, 2) := by decide +kernel
theorem dX8_embargo_145 : decode cX8_embargo 145 = .ok (.ireturn, 1) := by decide +kernel
theorem dX8_thing_0 : decode cX8_thing 0 = .ok (.aload_n 0, 1) := by decide +kernel
theorem dX8_thing_1 : decode cX8_thing 1 = .ok (.iload_n 2, 1) := by decide +kernel
theorem dX8_thing_2 : decode cX8_thing 2 = .ok (.invokevirtual 48, 3) := by decide +kernel
theorem dX8_thing_5 : decode cX8_thing 5 = .ok (.astore 6, 2) := by decide +kernel
theorem dX8_thing_7 : decode cX8_thing 7 = .ok (.iload_n 1, 1) := by decide +kernel
theorem dX8_thing_8 : decode cX8_thing 8 = .ok (.invokestatic 131, 3) := by decide +kernel
theorem dX8_thing_11 : decode cX8_thing 11 = .ok (.ifCond .eq 27, 3) := by decide +kernel
theorem dX8_thing_14 : decode cX8_thing 14 = .ok (.aload 6, 2) := by decide +kernel
theorem dX8_thing_16 : decode cX8_thing 16 = .ok (.ifnull 22, 3) := by decide +kernel
theorem dX8_thing_19 : decode cX8_thing 19 = .ok (.aload 6, 2) := by decide +kernel
theorem dX8_thing_21 : decode cX8_thing 21 = .ok (.iload_n 3, 1) := by decide +kernel
theorem dX8_thing_22 : decode cX8_thing 22 = .ok (.invokevirtual 135, 3) := by decide +kernel
theorem dX8_thing_25 : decode cX8_thing 25 = .ok (.ifnull 13, 3) := by decide +kernel
theorem dX8_thing_28 : decode cX8_thing 28 = .ok (.aload 6, 2) := by decide +kernel
theorem dX8_thing_30 : decode cX8_thing 30 = .ok (.iload 4, 2) := by decide +kernel
theorem dX8_thing_32 : decode cX8_thing 32 = .ok (.invokevirtual 135, 3) := by decide +kernel
theorem dX8_thing_35 : decode cX8_thing 35 = .ok (.ifnonnull 13, 3) := by decide +kernel
theorem dX8_thing_38 : decode cX8_thing 38 = .ok (.new 52, 3) := by decide +kernel
theorem dX8_thing_41 : decode cX8_thing 41 = .ok (.dup, 1) := by decide +kernel
theorem dX8_thing_42 : decode cX8_thing 42 = .ok (.ldc 139, 2) := by decide +kernel
theorem dX8_thing_44 : decode cX8_thing 44 = .ok (.invokespecial 56, 3) := by decide +kernel
theorem dX8_thing_47 : decode cX8_thing 47 = .ok (.athrow, 1) := by decide +kernel
theorem dX8_thing_48 : decode cX8_thing 48 = .ok (.iload 4, 2) := by decide +kernel
theorem dX8_thing_50 : decode cX8_thing 50 = .ok (.iload_n 3, 1) := by decide +kernel
theorem dX8_thing_51 : decode cX8_thing 51 = .ok (.if_icmp .lt 18, 3) := by decide +kernel
theorem dX8_thing_54 : decode cX8_thing 54 = .ok (.iload 5, 2) := by decide +kernel
theorem dX8_thing_56 : decode cX8_thing 56 = .ok (.bipush 10, 2) := by decide +kernel
theorem dX8_thing_58 : decode cX8_thing 58 = .ok (.if_icmp .lt 11, 3) := by decide +kernel
theorem dX8_thing_61 : decode cX8_thing 61 = .ok (.iload 5, 2) := by decide +kernel
theorem dX8_thing_63 : decode cX8_thing 63 = .ok (.sipush 300, 3) := by decide +kernel
theorem dX8_thing_66 : decode cX8_thing 66 = .ok (.if_icmp .le 13, 3) := by decide +kernel
theorem dX8_thing_69 : decode cX8_thing 69 = .ok (.new 59, 3) := by decide +kernel
theorem dX8_thing_72 : decode cX8_thing 72 = .ok (.dup, 1) := by decide +kernel
theorem dX8_thing_73 : decode cX8_thing 73 = .ok (.ldc 141, 2) := by decide +kernel
theorem dX8_thing_75 : decode cX8_thing 75 = .ok (.invokespecial 63, 3) := by decide +kernel
theorem dX8_thing_78 : decode cX8_thing 78 = .ok (.athrow, 1) := by decide +kernel
theorem dX8_thing_79 : decode cX8_thing 79 = .ok (.aload_n 0, 1) := by decide +kernel
theorem dX8_thing_80 : decode cX8_thing 80 = .ok (.getfield 143, 3) := by decide +kernel
theorem dX8_thing_83 : decode cX8_thing 83 = .ok (.aload_n 0, 1) := by decide +kernel
theorem dX8_thing_84 : decode cX8_thing 84 = .ok (.getfield 17, 3) := by decide +kernel
theorem dX8_thing_87 : decode cX8_thing 87 = .ok (.arraylength, 1) := by decide +kernel
theorem dX8_thing_88 : decode cX8_thing 88 = .ok (.if_icmp .lt 13, 3) := by decide +kernel
theorem dX8_thing_91 : decode cX8_thing 91 = .ok (.new 68, 3) := by decide +kernel
theorem dX8_thing_94 : decode cX8_thing 94 = .ok (.dup, 1) := by decide +kernel
theorem dX8_thing_95 : decode cX8_thing 95 = .ok (.ldc 146, 2) := by decide +kernel
theorem dX8_thing_97 : decode cX8_thing 97 = .ok (.invokespecial 72, 3) := by decide +kernel
theorem dX8_thing_100 : decode cX8_thing 100 = .ok (.athrow, 1) := by decide +kernel
theorem dX8_thing_101 : decode cX8_thing 101 = .ok (.aload_n 0, 1) := by decide +kernel
theorem dX8_thing_102 : decode cX8_thing 102 = .ok (.getfield 17, 3) := by decide +kernel
theorem dX8_thing_105 : decode cX8_thing 105 = .ok (.aload_n 0, 1) := by decide +kernel
theorem dX8_thing_106 : decode cX8_thing 106 = .ok (.getfield 143, 3) := by decide +kernel
theorem dX8_thing_109 : decode cX8_thing 109 = .ok (.new 15, 3) := by decide +kernel
theorem dX8_thing_112 : decode cX8_thing 112 = .ok (.dup, 1) := by decide +kernel
theorem dX8_thing_113 : decode cX8_thing 113 = .ok (.iload_n 1, 1) := by decide +kernel
theorem dX8_thing_114 : decode cX8_thing 114 = .ok (.aload 6, 2) := by decide +kernel
theorem dX8_thing_116 : decode cX8_thing 116 = .ok (.iload_n 3, 1) := by decide +kernel
theorem dX8_thing_117 : decode cX8_thing 117 = .ok (.iload 4, 2) := by decide +kernel
theorem dX8_thing_119 : decode cX8_thing 119 = .ok (.iload 5, 2) := by decide +kernel
theorem dX8_thing_121 : decode cX8_thing 121 = .ok (.invokespecial 148, 3) := by decide +kernel
theorem dX8_thing_124 : decode cX8_thing 124 = .ok (.aastore, 1) := by decide +kernel
theorem dX8_thing_125 : decode cX8_thing 125 = .ok (.aload_n 0, 1) := by decide +kernel
theorem dX8_thing_126 : decode cX8_thing 126 = .ok (.dup, 1) := by decide +kernel
theorem dX8_thing_127 : decode cX8_thing 127 = .ok (.getfield 143, 3) := by decide +kernel
theorem dX8_thing_130 : decode cX8_thing 130 = .ok (.iconst 1, 1) := by decide +kernel
theorem dX8_thing_131 : decode cX8_thing 131 = .ok (.iadd, 1) := by decide +kernel
theorem dX8_thing_132 : decode cX8_thing 132 = .ok (.putfield 143, 3) := by decide +kernel
theorem dX8_thing_135 : decode cX8_thing 135 = .ok (.iload_n 3, 1) := by decide +kernel
theorem dX8_thing_136 : decode cX8_thing 136 = .ok (.istore 7, 2) := by decide +kernel
theorem dX8_thing_138 : decode cX8_thing 138 = .ok (.iload 7, 2) := by decide +kernel
theorem dX8_thing_140 : decode cX8_thing 140 = .ok (.iload 4, 2) := by decide +kernel
theorem dX8_thing_142 : decode cX8_thing 142 = .ok (.if_icmp .gt 29, 3) := by decide +kernel
theorem dX8_thing_145 : decode cX8_thing 145 = .ok (.aload 6, 2) := by decide +kernel
theorem dX8_thing_147 : decode cX8_thing 147 = .ok (.iload 7, 2) := by decide +kernel
theorem dX8_thing_149 : decode cX8_thing 149 = .ok (.invokevirtual 135, 3) := by decide +kernel
theorem dX8_thing_152 : decode cX8_thing 152 = .ok (.astore 8, 2) := by decide +kernel
theorem dX8_thing_154 : decode cX8_thing 154 = .ok (.aload 8, 2) := by decide +kernel
theorem dX8_thing_156 : decode cX8_thing 156 = .ok (.ifnull 9, 3) := by decide +kernel
theorem dX8_thing_159 : decode cX8_thing 159 = .ok (.aload 8, 2) := by decide +kernel
theorem dX8_thing_161 : decode cX8_thing 161 = .ok (.iconst 0, 1) := by decide +kernel
theorem dX8_thing_162 : decode cX8_thing 162 = .ok (.putfield 151, 3) := by decide +kernel
theorem dX8_thing_165 : decode cX8_thing 165 = .ok (.iinc 7 1, 3) := by decide +kernel
theorem dX8_thing_168 : decode cX8_thing 168 = .ok (.goto (-30), 3) := by decide +kernel
theorem dX8_thing_171 : decode cX8_thing 171 = .ok (.aload_n 0, 1) := by decide +kernel
theorem dX8_thing_172 : decode cX8_thing 172 = .ok (.getfield 143, 3) := by decide +kernel
theorem dX8_thing_175 : decode cX8_thing 175 = .ok (.iconst 1, 1) := by decide +kernel
theorem dX8_thing_176 : decode cX8_thing 176 = .ok (.isub, 1) := by decide +kernel
theorem dX8_thing_177 : decode cX8_thing 177 = .ok (.ireturn, 1) := by decide +kernel
theorem dX8_record_0 : decode cX8_record 0 = .ok (.aload_n 0, 1) := by decide +kernel
theorem dX8_record_1 : decode cX8_record 1 = .ok (.iload_n 1, 1) := by decide +kernel
theorem dX8_record_2 : decode cX8_record 2 = .ok (.invokevirtual 157, 3) := by decide +kernel
theorem dX8_record_5 : decode cX8_record 5 = .ok (.astore 5, 2) := by decide +kernel
theorem dX8_record_7 : decode cX8_record 7 = .ok (.aload 5, 2) := by decide +kernel
theorem dX8_record_9 : decode cX8_record 9 = .ok (.ifnull 27, 3) := by decide +kernel
theorem dX8_record_12 : decode cX8_record 12 = .ok (.aload 5, 2) := by decide +kernel
theorem dX8_record_14 : decode cX8_record 14 = .ok (.getfield 161, 3) := by decide +kernel
theorem dX8_record_17 : decode cX8_record 17 = .ok (.iload_n 2, 1) := by decide +kernel
theorem dX8_record_18 : decode cX8_record 18 = .ok (.invokevirtual 135, 3) := by decide +kernel
theorem dX8_record_21 : decode cX8_record 21 = .ok (.ifnull 15, 3) := by decide +kernel
theorem dX8_record_24 : decode cX8_record 24 = .ok (.aload 5, 2) := by decide +kernel
theorem dX8_record_26 : decode cX8_record 26 = .ok (.getfield 161, 3) := by decide +kernel
theorem dX8_record_29 : decode cX8_record 29 = .ok (.iload_n 3, 1) := by decide +kernel
theorem dX8_record_30 : decode cX8_record 30 = .ok (.invokevirtual 135, 3) := by decide +kernel
theorem dX8_record_33 : decode cX8_record 33 = .ok (.ifnonnull 13, 3) := by decide +kernel
theorem dX8_record_36 : decode cX8_record 36 = .ok (.new 52, 3) := by decide +kernel
theorem dX8_record_39 : decode cX8_record 39 = .ok (.dup, 1) := by decide +kernel
theorem dX8_record_40 : decode cX8_record 40 = .ok (.ldc 162, 2) := by decide +kernel
theorem dX8_record_42 : decode cX8_record 42 = .ok (.invokespecial 56, 3) := by decide +kernel
theorem dX8_record_45 : decode cX8_record 45 = .ok (.athrow, 1) := by decide +kernel
theorem dX8_record_46 : decode cX8_record 46 = .ok (.iload_n 3, 1) := by decide +kernel
theorem dX8_record_47 : decode cX8_record 47 = .ok (.iload_n 2, 1) := by decide +kernel
theorem dX8_record_48 : decode cX8_record 48 = .ok (.if_icmp .lt 14, 3) := by decide +kernel
theorem dX8_record_51 : decode cX8_record 51 = .ok (.iload 4, 2) := by decide +kernel
theorem dX8_record_53 : decode cX8_record 53 = .ok (.ifCond .lt 9, 3) := by decide +kernel
theorem dX8_record_56 : decode cX8_record 56 = .ok (.iload 4, 2) := by decide +kernel
theorem dX8_record_58 : decode cX8_record 58 = .ok (.iconst 3, 1) := by decide +kernel
theorem dX8_record_59 : decode cX8_record 59 = .ok (.if_icmp .le 13, 3) := by decide +kernel
theorem dX8_record_62 : decode cX8_record 62 = .ok (.new 59, 3) := by decide +kernel
theorem dX8_record_65 : decode cX8_record 65 = .ok (.dup, 1) := by decide +kernel
theorem dX8_record_66 : decode cX8_record 66 = .ok (.ldc 164, 2) := by decide +kernel
theorem dX8_record_68 : decode cX8_record 68 = .ok (.invokespecial 63, 3) := by decide +kernel
theorem dX8_record_71 : decode cX8_record 71 = .ok (.athrow, 1) := by decide +kernel
theorem dX8_record_72 : decode cX8_record 72 = .ok (.aload 5, 2) := by decide +kernel
theorem dX8_record_74 : decode cX8_record 74 = .ok (.iload_n 2, 1) := by decide +kernel
theorem dX8_record_75 : decode cX8_record 75 = .ok (.iload_n 3, 1) := by decide +kernel
theorem dX8_record_76 : decode cX8_record 76 = .ok (.iload 4, 2) := by decide +kernel
theorem dX8_record_78 : decode cX8_record 78 = .ok (.invokevirtual 166, 3) := by decide +kernel
theorem dX8_record_81 : decode cX8_record 81 = .ok (.aload 5, 2) := by decide +kernel
theorem dX8_record_83 : decode cX8_record 83 = .ok (.invokevirtual 170, 3) := by decide +kernel
theorem dX8_record_86 : decode cX8_record 86 = .ok (.ireturn, 1) := by decide +kernel
theorem dX8_lose_0 : decode cX8_lose 0 = .ok (.aload_n 0, 1) := by decide +kernel
theorem dX8_lose_1 : decode cX8_lose 1 = .ok (.iload_n 1, 1) := by decide +kernel
theorem dX8_lose_2 : decode cX8_lose 2 = .ok (.invokevirtual 157, 3) := by decide +kernel
theorem dX8_lose_5 : decode cX8_lose 5 = .ok (.astore_n 2, 1) := by decide +kernel
theorem dX8_lose_6 : decode cX8_lose 6 = .ok (.aload_n 2, 1) := by decide +kernel
theorem dX8_lose_7 : decode cX8_lose 7 = .ok (.ifnonnull 13, 3) := by decide +kernel
theorem dX8_lose_10 : decode cX8_lose 10 = .ok (.new 52, 3) := by decide +kernel
theorem dX8_lose_13 : decode cX8_lose 13 = .ok (.dup, 1) := by decide +kernel
theorem dX8_lose_14 : decode cX8_lose 14 = .ok (.ldc 173, 2) := by decide +kernel
theorem dX8_lose_16 : decode cX8_lose 16 = .ok (.invokespecial 56, 3) := by decide +kernel
theorem dX8_lose_19 : decode cX8_lose 19 = .ok (.athrow, 1) := by decide +kernel
theorem dX8_lose_20 : decode cX8_lose 20 = .ok (.aload_n 2, 1) := by decide +kernel
theorem dX8_lose_21 : decode cX8_lose 21 = .ok (.getfield 175, 3) := by decide +kernel
theorem dX8_lose_24 : decode cX8_lose 24 = .ok (.istore_n 3, 1) := by decide +kernel
theorem dX8_lose_25 : decode cX8_lose 25 = .ok (.aload_n 2, 1) := by decide +kernel
theorem dX8_lose_26 : decode cX8_lose 26 = .ok (.iconst 0, 1) := by decide +kernel
theorem dX8_lose_27 : decode cX8_lose 27 = .ok (.putfield 175, 3) := by decide +kernel
theorem dX8_lose_30 : decode cX8_lose 30 = .ok (.iload_n 3, 1) := by decide +kernel
theorem dX8_lose_31 : decode cX8_lose 31 = .ok (.ireturn, 1) := by decide +kernel
theorem dX8_survey_0 : decode cX8_survey 0 = .ok (.aload_n 0, 1) := by decide +kernel
theorem dX8_survey_1 : decode cX8_survey 1 = .ok (.iload_n 1, 1) := by decide +kernel
theorem dX8_survey_2 : decode cX8_survey 2 = .ok (.invokevirtual 157, 3) := by decide +kernel
theorem dX8_survey_5 : decode cX8_survey 5 = .ok (.astore_n 2, 1) := by decide +kernel
theorem dX8_survey_6 : decode cX8_survey 6 = .ok (.aload_n 2, 1) := by decide +kernel
theorem dX8_survey_7 : decode cX8_survey 7 = .ok (.ifnonnull 13, 3) := by decide +kernel
theorem dX8_survey_10 : decode cX8_survey 10 = .ok (.new 52, 3) := by decide +kernel
theorem dX8_survey_13 : decode cX8_survey 13 = .ok (.dup, 1) := by decide +kernel
theorem dX8_survey_14 : decode cX8_survey 14 = .ok (.ldc 173, 2) := by decide +kernel
theorem dX8_survey_16 : decode cX8_survey 16 = .ok (.invokespecial 56, 3) := by decide +kernel
theorem dX8_survey_19 : decode cX8_survey 19 = .ok (.athrow, 1) := by decide +kernel
theorem dX8_survey_20 : decode cX8_survey 20 = .ok (.aload_n 2, 1) := by decide +kernel
theorem dX8_survey_21 : decode cX8_survey 21 = .ok (.invokevirtual 178, 3) := by decide +kernel
theorem dX8_survey_24 : decode cX8_survey 24 = .ok (.ifCond .ne 13, 3) := by decide +kernel
theorem dX8_survey_27 : decode cX8_survey 27 = .ok (.new 68, 3) := by decide +kernel
theorem dX8_survey_30 : decode cX8_survey 30 = .ok (.dup, 1) := by decide +kernel
theorem dX8_survey_31 : decode cX8_survey 31 = .ok (.ldc 181, 2) := by decide +kernel
theorem dX8_survey_33 : decode cX8_survey 33 = .ok (.invokespecial 72, 3) := by decide +kernel
theorem dX8_survey_36 : decode cX8_survey 36 = .ok (.athrow, 1) := by decide +kernel
theorem dX8_survey_37 : decode cX8_survey 37 = .ok (.aload_n 2, 1) := by decide +kernel
theorem dX8_survey_38 : decode cX8_survey 38 = .ok (.invokevirtual 170, 3) := by decide +kernel
theorem dX8_survey_41 : decode cX8_survey 41 = .ok (.istore_n 3, 1) := by decide +kernel
theorem dX8_survey_42 : decode cX8_survey 42 = .ok (.aload_n 2, 1) := by decide +kernel
theorem dX8_survey_43 : decode cX8_survey 43 = .ok (.aload_n 2, 1) := by decide +kernel
theorem dX8_survey_44 : decode cX8_survey 44 = .ok (.getfield 183, 3) := by decide +kernel
theorem dX8_survey_47 : decode cX8_survey 47 = .ok (.aload_n 2, 1) := by decide +kernel
theorem dX8_survey_48 : decode cX8_survey 48 = .ok (.getfield 186, 3) := by decide +kernel
theorem dX8_survey_51 : decode cX8_survey 51 = .ok (.iconst 0, 1) := by decide +kernel
theorem dX8_survey_52 : decode cX8_survey 52 = .ok (.invokevirtual 166, 3) := by decide +kernel
theorem dX8_survey_55 : decode cX8_survey 55 = .ok (.iload_n 3, 1) := by decide +kernel
theorem dX8_survey_56 : decode cX8_survey 56 = .ok (.ireturn, 1) := by decide +kernel
theorem dX8_trial_0 : decode cX8_trial 0 = .ok (.aload_n 0, 1) := by decide +kernel
theorem dX8_trial_1 : decode cX8_trial 1 = .ok (.iload_n 1, 1) := by decide +kernel
theorem dX8_trial_2 : decode cX8_trial 2 = .ok (.invokevirtual 48, 3) := by decide +kernel
theorem dX8_trial_5 : decode cX8_trial 5 = .ok (.astore_n 3, 1) := by decide +kernel
theorem dX8_trial_6 : decode cX8_trial 6 = .ok (.aload_n 3, 1) := by decide +kernel
theorem dX8_trial_7 : decode cX8_trial 7 = .ok (.ifnonnull 7, 3) := by decide +kernel
theorem dX8_trial_10 : decode cX8_trial 10 = .ok (.aconst_null, 1) := by decide +kernel
theorem dX8_trial_11 : decode cX8_trial 11 = .ok (.goto 8, 3) := by decide +kernel
theorem dX8_trial_14 : decode cX8_trial 14 = .ok (.aload_n 3, 1) := by decide +kernel
theorem dX8_trial_15 : decode cX8_trial 15 = .ok (.iload_n 2, 1) := by decide +kernel
theorem dX8_trial_16 : decode cX8_trial 16 = .ok (.invokevirtual 135, 3) := by decide +kernel
theorem dX8_trial_19 : decode cX8_trial 19 = .ok (.astore 4, 2) := by decide +kernel
theorem dX8_trial_21 : decode cX8_trial 21 = .ok (.aload_n 3, 1) := by decide +kernel
theorem dX8_trial_22 : decode cX8_trial 22 = .ok (.ifnull 8, 3) := by decide +kernel
theorem dX8_trial_25 : decode cX8_trial 25 = .ok (.aload 4, 2) := by decide +kernel
theorem dX8_trial_27 : decode cX8_trial 27 = .ok (.ifnonnull 13, 3) := by decide +kernel
theorem dX8_trial_30 : decode cX8_trial 30 = .ok (.new 52, 3) := by decide +kernel
theorem dX8_trial_33 : decode cX8_trial 33 = .ok (.dup, 1) := by decide +kernel
theorem dX8_trial_34 : decode cX8_trial 34 = .ok (.ldc 189, 2) := by decide +kernel
theorem dX8_trial_36 : decode cX8_trial 36 = .ok (.invokespecial 56, 3) := by decide +kernel
theorem dX8_trial_39 : decode cX8_trial 39 = .ok (.athrow, 1) := by decide +kernel
theorem dX8_trial_40 : decode cX8_trial 40 = .ok (.aload 4, 2) := by decide +kernel
theorem dX8_trial_42 : decode cX8_trial 42 = .ok (.iconst 1, 1) := by decide +kernel
theorem dX8_trial_43 : decode cX8_trial 43 = .ok (.putfield 151, 3) := by decide +kernel
theorem dX8_trial_46 : decode cX8_trial 46 = .ok (.iconst 0, 1) := by decide +kernel
theorem dX8_trial_47 : decode cX8_trial 47 = .ok (.istore 5, 2) := by decide +kernel
theorem dX8_trial_49 : decode cX8_trial 49 = .ok (.iconst 0, 1) := by decide +kernel
theorem dX8_trial_50 : decode cX8_trial 50 = .ok (.istore 6, 2) := by decide +kernel
theorem dX8_trial_52 : decode cX8_trial 52 = .ok (.iload 6, 2) := by decide +kernel
theorem dX8_trial_54 : decode cX8_trial 54 = .ok (.aload_n 0, 1) := by decide +kernel
theorem dX8_trial_55 : decode cX8_trial 55 = .ok (.getfield 17, 3) := by decide +kernel
theorem dX8_trial_58 : decode cX8_trial 58 = .ok (.arraylength, 1) := by decide +kernel
theorem dX8_trial_59 : decode cX8_trial 59 = .ok (.if_icmp .ge 36, 3) := by decide +kernel
theorem dX8_trial_62 : decode cX8_trial 62 = .ok (.aload_n 0, 1) := by decide +kernel
theorem dX8_trial_63 : decode cX8_trial 63 = .ok (.getfield 17, 3) := by decide +kernel
theorem dX8_trial_66 : decode cX8_trial 66 = .ok (.iload 6, 2) := by decide +kernel
theorem dX8_trial_68 : decode cX8_trial 68 = .ok (.aaload, 1) := by decide +kernel
theorem dX8_trial_69 : decode cX8_trial 69 = .ok (.astore 7, 2) := by decide +kernel
theorem dX8_trial_71 : decode cX8_trial 71 = .ok (.aload 7, 2) := by decide +kernel
theorem dX8_trial_73 : decode cX8_trial 73 = .ok (.ifnull 16, 3) := by decide +kernel
theorem dX8_trial_76 : decode cX8_trial 76 = .ok (.aload 7, 2) := by decide +kernel
theorem dX8_trial_78 : decode cX8_trial 78 = .ok (.aload_n 3, 1) := by decide +kernel
theorem dX8_trial_79 : decode cX8_trial 79 = .ok (.iload_n 2, 1) := by decide +kernel
theorem dX8_trial_80 : decode cX8_trial 80 = .ok (.invokevirtual 191, 3) := by decide +kernel
theorem dX8_trial_83 : decode cX8_trial 83 = .ok (.ifCond .eq 6, 3) := by decide +kernel
theorem dX8_trial_86 : decode cX8_trial 86 = .ok (.iinc 5 1, 3) := by decide +kernel
theorem dX8_trial_89 : decode cX8_trial 89 = .ok (.iinc 6 1, 3) := by decide +kernel
theorem dX8_trial_92 : decode cX8_trial 92 = .ok (.goto (-40), 3) := by decide +kernel
theorem dX8_trial_95 : decode cX8_trial 95 = .ok (.iload 5, 2) := by decide +kernel
theorem dX8_trial_97 : decode cX8_trial 97 = .ok (.ireturn, 1) := by decide +kernel
theorem dX8_ask_0 : decode cX8_ask 0 = .ok (.aload_n 0, 1) := by decide +kernel
theorem dX8_ask_1 : decode cX8_ask 1 = .ok (.iload_n 2, 1) := by decide +kernel
theorem dX8_ask_2 : decode cX8_ask 2 = .ok (.invokevirtual 48, 3) := by decide +kernel
theorem dX8_ask_5 : decode cX8_ask 5 = .ok (.astore 9, 2) := by decide +kernel
theorem dX8_ask_7 : decode cX8_ask 7 = .ok (.iload_n 1, 1) := by decide +kernel
theorem dX8_ask_8 : decode cX8_ask 8 = .ok (.invokestatic 131, 3) := by decide +kernel
theorem dX8_ask_11 : decode cX8_ask 11 = .ok (.ifCond .eq 27, 3) := by decide +kernel
theorem dX8_ask_14 : decode cX8_ask 14 = .ok (.aload 9, 2) := by decide +kernel
theorem dX8_ask_16 : decode cX8_ask 16 = .ok (.ifnull 22, 3) := by decide +kernel
theorem dX8_ask_19 : decode cX8_ask 19 = .ok (.aload 9, 2) := by decide +kernel
theorem dX8_ask_21 : decode cX8_ask 21 = .ok (.iload_n 3, 1) := by decide +kernel
theorem dX8_ask_22 : decode cX8_ask 22 = .ok (.invokevirtual 135, 3) := by decide +kernel
theorem dX8_ask_25 : decode cX8_ask 25 = .ok (.ifnull 13, 3) := by decide +kernel
theorem dX8_ask_28 : decode cX8_ask 28 = .ok (.aload 9, 2) := by decide +kernel
theorem dX8_ask_30 : decode cX8_ask 30 = .ok (.iload 4, 2) := by decide +kernel
theorem dX8_ask_32 : decode cX8_ask 32 = .ok (.invokevirtual 135, 3) := by decide +kernel
theorem dX8_ask_35 : decode cX8_ask 35 = .ok (.ifnonnull 13, 3) := by decide +kernel
theorem dX8_ask_38 : decode cX8_ask 38 = .ok (.new 52, 3) := by decide +kernel
theorem dX8_ask_41 : decode cX8_ask 41 = .ok (.dup, 1) := by decide +kernel
theorem dX8_ask_42 : decode cX8_ask 42 = .ok (.ldc 139, 2) := by decide +kernel
theorem dX8_ask_44 : decode cX8_ask 44 = .ok (.invokespecial 56, 3) := by decide +kernel
theorem dX8_ask_47 : decode cX8_ask 47 = .ok (.athrow, 1) := by decide +kernel
theorem dX8_ask_48 : decode cX8_ask 48 = .ok (.iload 4, 2) := by decide +kernel
theorem dX8_ask_50 : decode cX8_ask 50 = .ok (.iload_n 3, 1) := by decide +kernel
theorem dX8_ask_51 : decode cX8_ask 51 = .ok (.if_icmp .lt 29, 3) := by decide +kernel
theorem dX8_ask_54 : decode cX8_ask 54 = .ok (.iload 5, 2) := by decide +kernel
theorem dX8_ask_56 : decode cX8_ask 56 = .ok (.bipush 10, 2) := by decide +kernel
theorem dX8_ask_58 : decode cX8_ask 58 = .ok (.if_icmp .lt 22, 3) := by decide +kernel
theorem dX8_ask_61 : decode cX8_ask 61 = .ok (.iload 5, 2) := by decide +kernel
theorem dX8_ask_63 : decode cX8_ask 63 = .ok (.sipush 300, 3) := by decide +kernel
theorem dX8_ask_66 : decode cX8_ask 66 = .ok (.if_icmp .gt 14, 3) := by decide +kernel
theorem dX8_ask_69 : decode cX8_ask 69 = .ok (.iload 6, 2) := by decide +kernel
theorem dX8_ask_71 : decode cX8_ask 71 = .ok (.ifCond .lt 9, 3) := by decide +kernel
theorem dX8_ask_74 : decode cX8_ask 74 = .ok (.iload 6, 2) := by decide +kernel
theorem dX8_ask_76 : decode cX8_ask 76 = .ok (.iconst 3, 1) := by decide +kernel
theorem dX8_ask_77 : decode cX8_ask 77 = .ok (.if_icmp .le 13, 3) := by decide +kernel
theorem dX8_ask_80 : decode cX8_ask 80 = .ok (.new 59, 3) := by decide +kernel
theorem dX8_ask_83 : decode cX8_ask 83 = .ok (.dup, 1) := by decide +kernel
theorem dX8_ask_84 : decode cX8_ask 84 = .ok (.ldc 195, 2) := by decide +kernel
theorem dX8_ask_86 : decode cX8_ask 86 = .ok (.invokespecial 63, 3) := by decide +kernel
theorem dX8_ask_89 : decode cX8_ask 89 = .ok (.athrow, 1) := by decide +kernel
theorem dX8_ask_90 : decode cX8_ask 90 = .ok (.iload 7, 2) := by decide +kernel
theorem dX8_ask_92 : decode cX8_ask 92 = .ok (.aload_n 0, 1) := by decide +kernel
theorem dX8_ask_93 : decode cX8_ask 93 = .ok (.invokevirtual 84, 3) := by decide +kernel
theorem dX8_ask_96 : decode cX8_ask 96 = .ok (.aload 9, 2) := by decide +kernel
theorem dX8_ask_98 : decode cX8_ask 98 = .ok (.iload 6, 2) := by decide +kernel
theorem dX8_ask_100 : decode cX8_ask 100 = .ok (.invokevirtual 197, 3) := by decide +kernel
theorem dX8_ask_103 : decode cX8_ask 103 = .ok (.iadd, 1) := by decide +kernel
theorem dX8_ask_104 : decode cX8_ask 104 = .ok (.if_icmp .lt 24, 3) := by decide +kernel
theorem dX8_ask_107 : decode cX8_ask 107 = .ok (.iload 7, 2) := by decide +kernel
theorem dX8_ask_109 : decode cX8_ask 109 = .ok (.sipush 999, 3) := by decide +kernel
theorem dX8_ask_112 : decode cX8_ask 112 = .ok (.if_icmp .gt 16, 3) := by decide +kernel
theorem dX8_ask_115 : decode cX8_ask 115 = .ok (.iload 8, 2) := by decide +kernel
theorem dX8_ask_117 : decode cX8_ask 117 = .ok (.iconst 1, 1) := by decide +kernel
theorem dX8_ask_118 : decode cX8_ask 118 = .ok (.if_icmp .lt 10, 3) := by decide +kernel
theorem dX8_ask_121 : decode cX8_ask 121 = .ok (.iload 8, 2) := by decide +kernel
theorem dX8_ask_123 : decode cX8_ask 123 = .ok (.bipush 60, 2) := by decide +kernel
theorem dX8_ask_125 : decode cX8_ask 125 = .ok (.if_icmp .le 13, 3) := by decide +kernel
theorem dX8_ask_128 : decode cX8_ask 128 = .ok (.new 59, 3) := by decide +kernel
theorem dX8_ask_131 : decode cX8_ask 131 = .ok (.dup, 1) := by decide +kernel
theorem dX8_ask_132 : decode cX8_ask 132 = .ok (.ldc 201, 2) := by decide +kernel
theorem dX8_ask_134 : decode cX8_ask 134 = .ok (.invokespecial 63, 3) := by decide +kernel
theorem dX8_ask_137 : decode cX8_ask 137 = .ok (.athrow, 1) := by decide +kernel
theorem dX8_ask_138 : decode cX8_ask 138 = .ok (.aload_n 0, 1) := by decide +kernel
theorem dX8_ask_139 : decode cX8_ask 139 = .ok (.getfield 203, 3) := by decide +kernel
theorem dX8_ask_142 : decode cX8_ask 142 = .ok (.aload_n 0, 1) := by decide +kernel
theorem dX8_ask_143 : decode cX8_ask 143 = .ok (.getfield 23, 3) := by decide +kernel
theorem dX8_ask_146 : decode cX8_ask 146 = .ok (.arraylength, 1) := by decide +kernel
theorem dX8_ask_147 : decode cX8_ask 147 = .ok (.if_icmp .lt 13, 3) := by decide +kernel
theorem dX8_ask_150 : decode cX8_ask 150 = .ok (.new 68, 3) := by decide +kernel
theorem dX8_ask_153 : decode cX8_ask 153 = .ok (.dup, 1) := by decide +kernel
theorem dX8_ask_154 : decode cX8_ask 154 = .ok (.ldc 206, 2) := by decide +kernel
theorem dX8_ask_156 : decode cX8_ask 156 = .ok (.invokespecial 72, 3) := by decide +kernel
theorem dX8_ask_159 : decode cX8_ask 159 = .ok (.athrow, 1) := by decide +kernel
theorem dX8_ask_160 : decode cX8_ask 160 = .ok (.new 21, 3) := by decide +kernel
theorem dX8_ask_163 : decode cX8_ask 163 = .ok (.dup, 1) := by decide +kernel
theorem dX8_ask_164 : decode cX8_ask 164 = .ok (.aload_n 0, 1) := by decide +kernel
theorem dX8_ask_165 : decode cX8_ask 165 = .ok (.getfield 203, 3) := by decide +kernel
theorem dX8_ask_168 : decode cX8_ask 168 = .ok (.iload_n 1, 1) := by decide +kernel
theorem dX8_ask_169 : decode cX8_ask 169 = .ok (.aload 9, 2) := by decide +kernel
theorem dX8_ask_171 : decode cX8_ask 171 = .ok (.iload 6, 2) := by decide +kernel
theorem dX8_ask_173 : decode cX8_ask 173 = .ok (.aload_n 0, 1) := by decide +kernel
theorem dX8_ask_174 : decode cX8_ask 174 = .ok (.invokevirtual 84, 3) := by decide +kernel
theorem dX8_ask_177 : decode cX8_ask 177 = .ok (.invokespecial 208, 3) := by decide +kernel
theorem dX8_ask_180 : decode cX8_ask 180 = .ok (.astore 10, 2) := by decide +kernel
theorem dX8_ask_182 : decode cX8_ask 182 = .ok (.aload 10, 2) := by decide +kernel
theorem dX8_ask_184 : decode cX8_ask 184 = .ok (.iload_n 3, 1) := by decide +kernel
theorem dX8_ask_185 : decode cX8_ask 185 = .ok (.iload 4, 2) := by decide +kernel
theorem dX8_ask_187 : decode cX8_ask 187 = .ok (.iload 5, 2) := by decide +kernel
theorem dX8_ask_189 : decode cX8_ask 189 = .ok (.invokevirtual 211, 3) := by decide +kernel
theorem dX8_ask_192 : decode cX8_ask 192 = .ok (.aload 10, 2) := by decide +kernel
theorem dX8_ask_194 : decode cX8_ask 194 = .ok (.iload 7, 2) := by decide +kernel
theorem dX8_ask_196 : decode cX8_ask 196 = .ok (.iload 8, 2) := by decide +kernel
theorem dX8_ask_198 : decode cX8_ask 198 = .ok (.invokevirtual 214, 3) := by decide +kernel
theorem dX8_ask_201 : decode cX8_ask 201 = .ok (.aload_n 0, 1) := by decide +kernel
theorem dX8_ask_202 : decode cX8_ask 202 = .ok (.getfield 23, 3) := by decide +kernel
theorem dX8_ask_205 : decode cX8_ask 205 = .ok (.aload_n 0, 1) := by decide +kernel
theorem dX8_ask_206 : decode cX8_ask 206 = .ok (.getfield 203, 3) := by decide +kernel
theorem dX8_ask_209 : decode cX8_ask 209 = .ok (.aload 10, 2) := by decide +kernel
theorem dX8_ask_211 : decode cX8_ask 211 = .ok (.aastore, 1) := by decide +kernel
theorem dX8_ask_212 : decode cX8_ask 212 = .ok (.aload_n 0, 1) := by decide +kernel
theorem dX8_ask_213 : decode cX8_ask 213 = .ok (.dup, 1) := by decide +kernel
theorem dX8_ask_214 : decode cX8_ask 214 = .ok (.getfield 203, 3) := by decide +kernel
theorem dX8_ask_217 : decode cX8_ask 217 = .ok (.iconst 1, 1) := by decide +kernel
theorem dX8_ask_218 : decode cX8_ask 218 = .ok (.iadd, 1) := by decide +kernel
theorem dX8_ask_219 : decode cX8_ask 219 = .ok (.putfield 203, 3) := by decide +kernel
theorem dX8_ask_222 : decode cX8_ask 222 = .ok (.aload 10, 2) := by decide +kernel
theorem dX8_ask_224 : decode cX8_ask 224 = .ok (.getfield 218, 3) := by decide +kernel
theorem dX8_ask_227 : decode cX8_ask 227 = .ok (.ireturn, 1) := by decide +kernel
theorem dX8_grant_0 : decode cX8_grant 0 = .ok (.aload_n 0, 1) := by decide +kernel
theorem dX8_grant_1 : decode cX8_grant 1 = .ok (.iload_n 1, 1) := by decide +kernel
theorem dX8_grant_2 : decode cX8_grant 2 = .ok (.invokevirtual 221, 3) := by decide +kernel
theorem dX8_grant_5 : decode cX8_grant 5 = .ok (.astore_n 3, 1) := by decide +kernel
theorem dX8_grant_6 : decode cX8_grant 6 = .ok (.aload_n 3, 1) := by decide +kernel
theorem dX8_grant_7 : decode cX8_grant 7 = .ok (.ifnonnull 13, 3) := by decide +kernel
theorem dX8_grant_10 : decode cX8_grant 10 = .ok (.new 52, 3) := by decide +kernel
theorem dX8_grant_13 : decode cX8_grant 13 = .ok (.dup, 1) := by decide +kernel
theorem dX8_grant_14 : decode cX8_grant 14 = .ok (.ldc 225, 2) := by decide +kernel
theorem dX8_grant_16 : decode cX8_grant 16 = .ok (.invokespecial 56, 3) := by decide +kernel
theorem dX8_grant_19 : decode cX8_grant 19 = .ok (.athrow, 1) := by decide +kernel
theorem dX8_grant_20 : decode cX8_grant 20 = .ok (.iload_n 2, 1) := by decide +kernel
theorem dX8_grant_21 : decode cX8_grant 21 = .ok (.ifCond .lt 8, 3) := by decide +kernel
theorem dX8_grant_24 : decode cX8_grant 24 = .ok (.iload_n 2, 1) := by decide +kernel
theorem dX8_grant_25 : decode cX8_grant 25 = .ok (.iconst 3, 1) := by decide +kernel
theorem dX8_grant_26 : decode cX8_grant 26 = .ok (.if_icmp .le 13, 3) := by decide +kernel
theorem dX8_grant_29 : decode cX8_grant 29 = .ok (.new 59, 3) := by decide +kernel
theorem dX8_grant_32 : decode cX8_grant 32 = .ok (.dup, 1) := by decide +kernel
theorem dX8_grant_33 : decode cX8_grant 33 = .ok (.ldc 227, 2) := by decide +kernel
theorem dX8_grant_35 : decode cX8_grant 35 = .ok (.invokespecial 63, 3) := by decide +kernel
theorem dX8_grant_38 : decode cX8_grant 38 = .ok (.athrow, 1) := by decide +kernel
theorem dX8_grant_39 : decode cX8_grant 39 = .ok (.aload_n 3, 1) := by decide +kernel
theorem dX8_grant_40 : decode cX8_grant 40 = .ok (.getfield 118, 3) := by decide +kernel
theorem dX8_grant_43 : decode cX8_grant 43 = .ok (.ifCond .ne 11, 3) := by decide +kernel
theorem dX8_grant_46 : decode cX8_grant 46 = .ok (.aload_n 0, 1) := by decide +kernel
theorem dX8_grant_47 : decode cX8_grant 47 = .ok (.aload_n 3, 1) := by decide +kernel
theorem dX8_grant_48 : decode cX8_grant 48 = .ok (.invokevirtual 229, 3) := by decide +kernel
theorem dX8_grant_51 : decode cX8_grant 51 = .ok (.ifCond .eq 13, 3) := by decide +kernel
theorem dX8_grant_54 : decode cX8_grant 54 = .ok (.new 68, 3) := by decide +kernel
theorem dX8_grant_57 : decode cX8_grant 57 = .ok (.dup, 1) := by decide +kernel
theorem dX8_grant_58 : decode cX8_grant 58 = .ok (.ldc 233, 2) := by decide +kernel
theorem dX8_grant_60 : decode cX8_grant 60 = .ok (.invokespecial 72, 3) := by decide +kernel
theorem dX8_grant_63 : decode cX8_grant 63 = .ok (.athrow, 1) := by decide +kernel
theorem dX8_grant_64 : decode cX8_grant 64 = .ok (.aload_n 0, 1) := by decide +kernel
theorem dX8_grant_65 : decode cX8_grant 65 = .ok (.aload_n 3, 1) := by decide +kernel
theorem dX8_grant_66 : decode cX8_grant 66 = .ok (.iload_n 2, 1) := by decide +kernel
theorem dX8_grant_67 : decode cX8_grant 67 = .ok (.invokevirtual 235, 3) := by decide +kernel
theorem dX8_grant_70 : decode cX8_grant 70 = .ok (.aload_n 3, 1) := by decide +kernel
theorem dX8_grant_71 : decode cX8_grant 71 = .ok (.invokevirtual 239, 3) := by decide +kernel
theorem dX8_grant_74 : decode cX8_grant 74 = .ok (.ireturn, 1) := by decide +kernel
theorem dX8_refuse_0 : decode cX8_refuse 0 = .ok (.aload_n 0, 1) := by decide +kernel
theorem dX8_refuse_1 : decode cX8_refuse 1 = .ok (.iload_n 1, 1) := by decide +kernel
theorem dX8_refuse_2 : decode cX8_refuse 2 = .ok (.invokevirtual 221, 3) := by decide +kernel
theorem dX8_refuse_5 : decode cX8_refuse 5 = .ok (.astore_n 2, 1) := by decide +kernel
theorem dX8_refuse_6 : decode cX8_refuse 6 = .ok (.aload_n 2, 1) := by decide +kernel
theorem dX8_refuse_7 : decode cX8_refuse 7 = .ok (.ifnonnull 13, 3) := by decide +kernel
theorem dX8_refuse_10 : decode cX8_refuse 10 = .ok (.new 52, 3) := by decide +kernel
theorem dX8_refuse_13 : decode cX8_refuse 13 = .ok (.dup, 1) := by decide +kernel
theorem dX8_refuse_14 : decode cX8_refuse 14 = .ok (.ldc 225, 2) := by decide +kernel
theorem dX8_refuse_16 : decode cX8_refuse 16 = .ok (.invokespecial 56, 3) := by decide +kernel
theorem dX8_refuse_19 : decode cX8_refuse 19 = .ok (.athrow, 1) := by decide +kernel
theorem dX8_refuse_20 : decode cX8_refuse 20 = .ok (.aload_n 2, 1) := by decide +kernel
theorem dX8_refuse_21 : decode cX8_refuse 21 = .ok (.getfield 118, 3) := by decide +kernel
theorem dX8_refuse_24 : decode cX8_refuse 24 = .ok (.ifCond .eq 21, 3) := by decide +kernel
theorem dX8_refuse_27 : decode cX8_refuse 27 = .ok (.aload_n 2, 1) := by decide +kernel
theorem dX8_refuse_28 : decode cX8_refuse 28 = .ok (.getfield 118, 3) := by decide +kernel
theorem dX8_refuse_31 : decode cX8_refuse 31 = .ok (.iconst 1, 1) := by decide +kernel
theorem dX8_refuse_32 : decode cX8_refuse 32 = .ok (.if_icmp .eq 13, 3) := by decide +kernel
theorem dX8_refuse_35 : decode cX8_refuse 35 = .ok (.new 68, 3) := by decide +kernel
theorem dX8_refuse_38 : decode cX8_refuse 38 = .ok (.dup, 1) := by decide +kernel
theorem dX8_refuse_39 : decode cX8_refuse 39 = .ok (.ldc 242, 2) := by decide +kernel
theorem dX8_refuse_41 : decode cX8_refuse 41 = .ok (.invokespecial 72, 3) := by decide +kernel
theorem dX8_refuse_44 : decode cX8_refuse 44 = .ok (.athrow, 1) := by decide +kernel
theorem dX8_refuse_45 : decode cX8_refuse 45 = .ok (.aload_n 2, 1) := by decide +kernel
theorem dX8_refuse_46 : decode cX8_refuse 46 = .ok (.getfield 118, 3) := by decide +kernel
theorem dX8_refuse_49 : decode cX8_refuse 49 = .ok (.istore_n 3, 1) := by decide +kernel
theorem dX8_refuse_50 : decode cX8_refuse 50 = .ok (.aload_n 2, 1) := by decide +kernel
theorem dX8_refuse_51 : decode cX8_refuse 51 = .ok (.iconst 2, 1) := by decide +kernel
theorem dX8_refuse_52 : decode cX8_refuse 52 = .ok (.putfield 118, 3) := by decide +kernel
theorem dX8_refuse_55 : decode cX8_refuse 55 = .ok (.iload_n 3, 1) := by decide +kernel
theorem dX8_refuse_56 : decode cX8_refuse 56 = .ok (.ireturn, 1) := by decide +kernel
theorem dX8_vary_0 : decode cX8_vary 0 = .ok (.aload_n 0, 1) := by decide +kernel
theorem dX8_vary_1 : decode cX8_vary 1 = .ok (.iload_n 1, 1) := by decide +kernel
theorem dX8_vary_2 : decode cX8_vary 2 = .ok (.invokevirtual 221, 3) := by decide +kernel
theorem dX8_vary_5 : decode cX8_vary 5 = .ok (.astore_n 3, 1) := by decide +kernel
theorem dX8_vary_6 : decode cX8_vary 6 = .ok (.aload_n 3, 1) := by decide +kernel
theorem dX8_vary_7 : decode cX8_vary 7 = .ok (.ifnonnull 13, 3) := by decide +kernel
theorem dX8_vary_10 : decode cX8_vary 10 = .ok (.new 52, 3) := by decide +kernel
theorem dX8_vary_13 : decode cX8_vary 13 = .ok (.dup, 1) := by decide +kernel
theorem dX8_vary_14 : decode cX8_vary 14 = .ok (.ldc 225, 2) := by decide +kernel
theorem dX8_vary_16 : decode cX8_vary 16 = .ok (.invokespecial 56, 3) := by decide +kernel
theorem dX8_vary_19 : decode cX8_vary 19 = .ok (.athrow, 1) := by decide +kernel
theorem dX8_vary_20 : decode cX8_vary 20 = .ok (.iload_n 2, 1) := by decide +kernel
theorem dX8_vary_21 : decode cX8_vary 21 = .ok (.ifCond .lt 8, 3) := by decide +kernel
theorem dX8_vary_24 : decode cX8_vary 24 = .ok (.iload_n 2, 1) := by decide +kernel
theorem dX8_vary_25 : decode cX8_vary 25 = .ok (.iconst 3, 1) := by decide +kernel
theorem dX8_vary_26 : decode cX8_vary 26 = .ok (.if_icmp .le 13, 3) := by decide +kernel
theorem dX8_vary_29 : decode cX8_vary 29 = .ok (.new 59, 3) := by decide +kernel
theorem dX8_vary_32 : decode cX8_vary 32 = .ok (.dup, 1) := by decide +kernel
theorem dX8_vary_33 : decode cX8_vary 33 = .ok (.ldc 227, 2) := by decide +kernel
theorem dX8_vary_35 : decode cX8_vary 35 = .ok (.invokespecial 63, 3) := by decide +kernel
theorem dX8_vary_38 : decode cX8_vary 38 = .ok (.athrow, 1) := by decide +kernel
theorem dX8_vary_39 : decode cX8_vary 39 = .ok (.aload_n 3, 1) := by decide +kernel
theorem dX8_vary_40 : decode cX8_vary 40 = .ok (.invokevirtual 244, 3) := by decide +kernel
theorem dX8_vary_43 : decode cX8_vary 43 = .ok (.ifCond .ne 13, 3) := by decide +kernel
theorem dX8_vary_46 : decode cX8_vary 46 = .ok (.new 68, 3) := by decide +kernel
theorem dX8_vary_49 : decode cX8_vary 49 = .ok (.dup, 1) := by decide +kernel
theorem dX8_vary_50 : decode cX8_vary 50 = .ok (.ldc 247, 2) := by decide +kernel
theorem dX8_vary_52 : decode cX8_vary 52 = .ok (.invokespecial 72, 3) := by decide +kernel
theorem dX8_vary_55 : decode cX8_vary 55 = .ok (.athrow, 1) := by decide +kernel
theorem dX8_vary_56 : decode cX8_vary 56 = .ok (.aload_n 3, 1) := by decide +kernel
theorem dX8_vary_57 : decode cX8_vary 57 = .ok (.iload_n 2, 1) := by decide +kernel
theorem dX8_vary_58 : decode cX8_vary 58 = .ok (.putfield 249, 3) := by decide +kernel
theorem dX8_vary_61 : decode cX8_vary 61 = .ok (.aload_n 3, 1) := by decide +kernel
theorem dX8_vary_62 : decode cX8_vary 62 = .ok (.dup, 1) := by decide +kernel
theorem dX8_vary_63 : decode cX8_vary 63 = .ok (.getfield 252, 3) := by decide +kernel
theorem dX8_vary_66 : decode cX8_vary 66 = .ok (.iconst 1, 1) := by decide +kernel
theorem dX8_vary_67 : decode cX8_vary 67 = .ok (.iadd, 1) := by decide +kernel
theorem dX8_vary_68 : decode cX8_vary 68 = .ok (.putfield 252, 3) := by decide +kernel
theorem dX8_vary_71 : decode cX8_vary 71 = .ok (.aload_n 3, 1) := by decide +kernel
theorem dX8_vary_72 : decode cX8_vary 72 = .ok (.getfield 252, 3) := by decide +kernel
theorem dX8_vary_75 : decode cX8_vary 75 = .ok (.ireturn, 1) := by decide +kernel
theorem dX8_exempt_0 : decode cX8_exempt 0 = .ok (.aload_n 0, 1) := by decide +kernel
theorem dX8_exempt_1 : decode cX8_exempt 1 = .ok (.iload_n 1, 1) := by decide +kernel
theorem dX8_exempt_2 : decode cX8_exempt 2 = .ok (.invokevirtual 221, 3) := by decide +kernel
theorem dX8_exempt_5 : decode cX8_exempt 5 = .ok (.astore_n 2, 1) := by decide +kernel
theorem dX8_exempt_6 : decode cX8_exempt 6 = .ok (.aload_n 2, 1) := by decide +kernel
theorem dX8_exempt_7 : decode cX8_exempt 7 = .ok (.ifnonnull 13, 3) := by decide +kernel
theorem dX8_exempt_10 : decode cX8_exempt 10 = .ok (.new 52, 3) := by decide +kernel
theorem dX8_exempt_13 : decode cX8_exempt 13 = .ok (.dup, 1) := by decide +kernel
theorem dX8_exempt_14 : decode cX8_exempt 14 = .ok (.ldc 225, 2) := by decide +kernel
theorem dX8_exempt_16 : decode cX8_exempt 16 = .ok (.invokespecial 56, 3) := by decide +kernel
theorem dX8_exempt_19 : decode cX8_exempt 19 = .ok (.athrow, 1) := by decide +kernel
theorem dX8_exempt_20 : decode cX8_exempt 20 = .ok (.aload_n 2, 1) := by decide +kernel
theorem dX8_exempt_21 : decode cX8_exempt 21 = .ok (.aload_n 2, 1) := by decide +kernel
theorem dX8_exempt_22 : decode cX8_exempt 22 = .ok (.getfield 255, 3) := by decide +kernel
theorem dX8_exempt_25 : decode cX8_exempt 25 = .ok (.ifCond .ne 7, 3) := by decide +kernel
theorem dX8_exempt_28 : decode cX8_exempt 28 = .ok (.iconst 1, 1) := by decide +kernel
theorem dX8_exempt_29 : decode cX8_exempt 29 = .ok (.goto 4, 3) := by decide +kernel
theorem dX8_exempt_32 : decode cX8_exempt 32 = .ok (.iconst 0, 1) := by decide +kernel
theorem dX8_exempt_33 : decode cX8_exempt 33 = .ok (.putfield 255, 3) := by decide +kernel
theorem dX8_exempt_36 : decode cX8_exempt 36 = .ok (.aload_n 2, 1) := by decide +kernel
theorem dX8_exempt_37 : decode cX8_exempt 37 = .ok (.getfield 255, 3) := by decide +kernel
theorem dX8_exempt_40 : decode cX8_exempt 40 = .ok (.ireturn, 1) := by decide +kernel
theorem dX8_agree_0 : decode cX8_agree 0 = .ok (.aload_n 0, 1) := by decide +kernel
theorem dX8_agree_1 : decode cX8_agree 1 = .ok (.iload_n 1, 1) := by decide +kernel
theorem dX8_agree_2 : decode cX8_agree 2 = .ok (.invokevirtual 221, 3) := by decide +kernel
theorem dX8_agree_5 : decode cX8_agree 5 = .ok (.astore_n 3, 1) := by decide +kernel
theorem dX8_agree_6 : decode cX8_agree 6 = .ok (.aload_n 0, 1) := by decide +kernel
theorem dX8_agree_7 : decode cX8_agree 7 = .ok (.iload_n 2, 1) := by decide +kernel
theorem dX8_agree_8 : decode cX8_agree 8 = .ok (.invokevirtual 221, 3) := by decide +kernel
theorem dX8_agree_11 : decode cX8_agree 11 = .ok (.astore 4, 2) := by decide +kernel
theorem dX8_agree_13 : decode cX8_agree 13 = .ok (.aload_n 3, 1) := by decide +kernel
theorem dX8_agree_14 : decode cX8_agree 14 = .ok (.ifnull 8, 3) := by decide +kernel
theorem dX8_agree_17 : decode cX8_agree 17 = .ok (.aload 4, 2) := by decide +kernel
theorem dX8_agree_19 : decode cX8_agree 19 = .ok (.ifnonnull 13, 3) := by decide +kernel
theorem dX8_agree_22 : decode cX8_agree 22 = .ok (.new 52, 3) := by decide +kernel
theorem dX8_agree_25 : decode cX8_agree 25 = .ok (.dup, 1) := by decide +kernel
theorem dX8_agree_26 : decode cX8_agree 26 = .ok (.ldc 225, 2) := by decide +kernel
theorem dX8_agree_28 : decode cX8_agree 28 = .ok (.invokespecial 56, 3) := by decide +kernel
theorem dX8_agree_31 : decode cX8_agree 31 = .ok (.athrow, 1) := by decide +kernel
theorem dX8_agree_32 : decode cX8_agree 32 = .ok (.iload_n 1, 1) := by decide +kernel
theorem dX8_agree_33 : decode cX8_agree 33 = .ok (.iload_n 2, 1) := by decide +kernel
theorem dX8_agree_34 : decode cX8_agree 34 = .ok (.if_icmp .ne 14, 3) := by decide +kernel
theorem dX8_agree_37 : decode cX8_agree 37 = .ok (.new 59, 3) := by decide +kernel
theorem dX8_agree_40 : decode cX8_agree 40 = .ok (.dup, 1) := by decide +kernel
theorem dX8_agree_41 : decode cX8_agree 41 = .ok (.ldc_w 258, 3) := by decide +kernel
theorem dX8_agree_44 : decode cX8_agree 44 = .ok (.invokespecial 63, 3) := by decide +kernel
theorem dX8_agree_47 : decode cX8_agree 47 = .ok (.athrow, 1) := by decide +kernel
theorem dX8_agree_48 : decode cX8_agree 48 = .ok (.aload_n 3, 1) := by decide +kernel
theorem dX8_agree_49 : decode cX8_agree 49 = .ok (.dup, 1) := by decide +kernel
theorem dX8_agree_50 : decode cX8_agree 50 = .ok (.getfield 260, 3) := by decide +kernel
theorem dX8_agree_53 : decode cX8_agree 53 = .ok (.aload 4, 2) := by decide +kernel
theorem dX8_agree_55 : decode cX8_agree 55 = .ok (.invokevirtual 263, 3) := by decide +kernel
theorem dX8_agree_58 : decode cX8_agree 58 = .ok (.ixor, 1) := by decide +kernel
theorem dX8_agree_59 : decode cX8_agree 59 = .ok (.putfield 260, 3) := by decide +kernel
theorem dX8_agree_62 : decode cX8_agree 62 = .ok (.aload 4, 2) := by decide +kernel
theorem dX8_agree_64 : decode cX8_agree 64 = .ok (.dup, 1) := by decide +kernel
theorem dX8_agree_65 : decode cX8_agree 65 = .ok (.getfield 260, 3) := by decide +kernel
theorem dX8_agree_68 : decode cX8_agree 68 = .ok (.aload_n 3, 1) := by decide +kernel
theorem dX8_agree_69 : decode cX8_agree 69 = .ok (.invokevirtual 263, 3) := by decide +kernel
theorem dX8_agree_72 : decode cX8_agree 72 = .ok (.ixor, 1) := by decide +kernel
theorem dX8_agree_73 : decode cX8_agree 73 = .ok (.putfield 260, 3) := by decide +kernel
theorem dX8_agree_76 : decode cX8_agree 76 = .ok (.aload_n 3, 1) := by decide +kernel
theorem dX8_agree_77 : decode cX8_agree 77 = .ok (.aload 4, 2) := by decide +kernel
theorem dX8_agree_79 : decode cX8_agree 79 = .ok (.invokevirtual 266, 3) := by decide +kernel
theorem dX8_agree_82 : decode cX8_agree 82 = .ok (.ireturn, 1) := by decide +kernel
theorem dX8_start_0 : decode cX8_start 0 = .ok (.aload_n 0, 1) := by decide +kernel
theorem dX8_start_1 : decode cX8_start 1 = .ok (.iload_n 1, 1) := by decide +kernel
theorem dX8_start_2 : decode cX8_start 2 = .ok (.invokevirtual 221, 3) := by decide +kernel
theorem dX8_start_5 : decode cX8_start 5 = .ok (.astore_n 2, 1) := by decide +kernel
theorem dX8_start_6 : decode cX8_start 6 = .ok (.aload_n 2, 1) := by decide +kernel
theorem dX8_start_7 : decode cX8_start 7 = .ok (.ifnonnull 13, 3) := by decide +kernel
theorem dX8_start_10 : decode cX8_start 10 = .ok (.new 52, 3) := by decide +kernel
theorem dX8_start_13 : decode cX8_start 13 = .ok (.dup, 1) := by decide +kernel
theorem dX8_start_14 : decode cX8_start 14 = .ok (.ldc 225, 2) := by decide +kernel
theorem dX8_start_16 : decode cX8_start 16 = .ok (.invokespecial 56, 3) := by decide +kernel
theorem dX8_start_19 : decode cX8_start 19 = .ok (.athrow, 1) := by decide +kernel
theorem dX8_start_20 : decode cX8_start 20 = .ok (.aload_n 2, 1) := by decide +kernel
theorem dX8_start_21 : decode cX8_start 21 = .ok (.getfield 118, 3) := by decide +kernel
theorem dX8_start_24 : decode cX8_start 24 = .ok (.iconst 1, 1) := by decide +kernel
theorem dX8_start_25 : decode cX8_start 25 = .ok (.if_icmp .ne 25, 3) := by decide +kernel
theorem dX8_start_28 : decode cX8_start 28 = .ok (.aload_n 0, 1) := by decide +kernel
theorem dX8_start_29 : decode cX8_start 29 = .ok (.invokevirtual 84, 3) := by decide +kernel
theorem dX8_start_32 : decode cX8_start 32 = .ok (.aload_n 2, 1) := by decide +kernel
theorem dX8_start_33 : decode cX8_start 33 = .ok (.getfield 121, 3) := by decide +kernel
theorem dX8_start_36 : decode cX8_start 36 = .ok (.if_icmp .lt 14, 3) := by decide +kernel
theorem dX8_start_39 : decode cX8_start 39 = .ok (.aload_n 0, 1) := by decide +kernel
theorem dX8_start_40 : decode cX8_start 40 = .ok (.invokevirtual 84, 3) := by decide +kernel
theorem dX8_start_43 : decode cX8_start 43 = .ok (.aload_n 2, 1) := by decide +kernel
theorem dX8_start_44 : decode cX8_start 44 = .ok (.getfield 124, 3) := by decide +kernel
theorem dX8_start_47 : decode cX8_start 47 = .ok (.if_icmp .le 14, 3) := by decide +kernel
theorem dX8_start_50 : decode cX8_start 50 = .ok (.new 68, 3) := by decide +kernel
theorem dX8_start_53 : decode cX8_start 53 = .ok (.dup, 1) := by decide +kernel
theorem dX8_start_54 : decode cX8_start 54 = .ok (.ldc_w 270, 3) := by decide +kernel
theorem dX8_start_57 : decode cX8_start 57 = .ok (.invokespecial 72, 3) := by decide +kernel
theorem dX8_start_60 : decode cX8_start 60 = .ok (.athrow, 1) := by decide +kernel
theorem dX8_start_61 : decode cX8_start 61 = .ok (.aload_n 2, 1) := by decide +kernel
theorem dX8_start_62 : decode cX8_start 62 = .ok (.iconst 3, 1) := by decide +kernel
theorem dX8_start_63 : decode cX8_start 63 = .ok (.putfield 118, 3) := by decide +kernel
theorem dX8_start_66 : decode cX8_start 66 = .ok (.aload_n 2, 1) := by decide +kernel
theorem dX8_start_67 : decode cX8_start 67 = .ok (.getfield 124, 3) := by decide +kernel
theorem dX8_start_70 : decode cX8_start 70 = .ok (.ireturn, 1) := by decide +kernel
theorem dX8_open_0 : decode cX8_open 0 = .ok (.aload_n 0, 1) := by decide +kernel
theorem dX8_open_1 : decode cX8_open 1 = .ok (.iload_n 1, 1) := by decide +kernel
theorem dX8_open_2 : decode cX8_open 2 = .ok (.invokevirtual 221, 3) := by decide +kernel
theorem dX8_open_5 : decode cX8_open 5 = .ok (.astore_n 3, 1) := by decide +kernel
theorem dX8_open_6 : decode cX8_open 6 = .ok (.aload_n 3, 1) := by decide +kernel
theorem dX8_open_7 : decode cX8_open 7 = .ok (.ifnonnull 7, 3) := by decide +kernel
theorem dX8_open_10 : decode cX8_open 10 = .ok (.aconst_null, 1) := by decide +kernel
theorem dX8_open_11 : decode cX8_open 11 = .ok (.goto 8, 3) := by decide +kernel
theorem dX8_open_14 : decode cX8_open 14 = .ok (.aload_n 3, 1) := by decide +kernel
theorem dX8_open_15 : decode cX8_open 15 = .ok (.iload_n 2, 1) := by decide +kernel
theorem dX8_open_16 : decode cX8_open 16 = .ok (.invokevirtual 272, 3) := by decide +kernel
theorem dX8_open_19 : decode cX8_open 19 = .ok (.astore 4, 2) := by decide +kernel
theorem dX8_open_21 : decode cX8_open 21 = .ok (.aload_n 3, 1) := by decide +kernel
theorem dX8_open_22 : decode cX8_open 22 = .ok (.ifnull 8, 3) := by decide +kernel
theorem dX8_open_25 : decode cX8_open 25 = .ok (.aload 4, 2) := by decide +kernel
theorem dX8_open_27 : decode cX8_open 27 = .ok (.ifnonnull 14, 3) := by decide +kernel
theorem dX8_open_30 : decode cX8_open 30 = .ok (.new 52, 3) := by decide +kernel
theorem dX8_open_33 : decode cX8_open 33 = .ok (.dup, 1) := by decide +kernel
theorem dX8_open_34 : decode cX8_open 34 = .ok (.ldc_w 275, 3) := by decide +kernel
theorem dX8_open_37 : decode cX8_open 37 = .ok (.invokespecial 56, 3) := by decide +kernel
theorem dX8_open_40 : decode cX8_open 40 = .ok (.athrow, 1) := by decide +kernel
theorem dX8_open_41 : decode cX8_open 41 = .ok (.aload_n 3, 1) := by decide +kernel
theorem dX8_open_42 : decode cX8_open 42 = .ok (.getfield 118, 3) := by decide +kernel
theorem dX8_open_45 : decode cX8_open 45 = .ok (.iconst 3, 1) := by decide +kernel
theorem dX8_open_46 : decode cX8_open 46 = .ok (.if_icmp .ne 25, 3) := by decide +kernel
theorem dX8_open_49 : decode cX8_open 49 = .ok (.aload_n 3, 1) := by decide +kernel
theorem dX8_open_50 : decode cX8_open 50 = .ok (.getfield 277, 3) := by decide +kernel
theorem dX8_open_53 : decode cX8_open 53 = .ok (.ifCond .ne 18, 3) := by decide +kernel
theorem dX8_open_56 : decode cX8_open 56 = .ok (.aload_n 3, 1) := by decide +kernel
theorem dX8_open_57 : decode cX8_open 57 = .ok (.iconst 1, 1) := by decide +kernel
theorem dX8_open_58 : decode cX8_open 58 = .ok (.invokevirtual 280, 3) := by decide +kernel
theorem dX8_open_61 : decode cX8_open 61 = .ok (.ifCond .eq 21, 3) := by decide +kernel
theorem dX8_open_64 : decode cX8_open 64 = .ok (.aload_n 0, 1) := by decide +kernel
theorem dX8_open_65 : decode cX8_open 65 = .ok (.invokevirtual 283, 3) := by decide +kernel
theorem dX8_open_68 : decode cX8_open 68 = .ok (.ifCond .eq 14, 3) := by decide +kernel
theorem dX8_open_71 : decode cX8_open 71 = .ok (.new 68, 3) := by decide +kernel
theorem dX8_open_74 : decode cX8_open 74 = .ok (.dup, 1) := by decide +kernel
theorem dX8_open_75 : decode cX8_open 75 = .ok (.ldc_w 286, 3) := by decide +kernel
theorem dX8_open_78 : decode cX8_open 78 = .ok (.invokespecial 72, 3) := by decide +kernel
theorem dX8_open_81 : decode cX8_open 81 = .ok (.athrow, 1) := by decide +kernel
theorem dX8_open_82 : decode cX8_open 82 = .ok (.aload 4, 2) := by decide +kernel
theorem dX8_open_84 : decode cX8_open 84 = .ok (.getfield 288, 3) := by decide +kernel
theorem dX8_open_87 : decode cX8_open 87 = .ok (.iconst (-1), 1) := by decide +kernel
theorem dX8_open_88 : decode cX8_open 88 = .ok (.if_icmp .ne 23, 3) := by decide +kernel
theorem dX8_open_91 : decode cX8_open 91 = .ok (.aload 4, 2) := by decide +kernel
theorem dX8_open_93 : decode cX8_open 93 = .ok (.getfield 151, 3) := by decide +kernel
theorem dX8_open_96 : decode cX8_open 96 = .ok (.ifCond .ne 26, 3) := by decide +kernel
theorem dX8_open_99 : decode cX8_open 99 = .ok (.aload_n 0, 1) := by decide +kernel
theorem dX8_open_100 : decode cX8_open 100 = .ok (.aload_n 3, 1) := by decide +kernel
theorem dX8_open_101 : decode cX8_open 101 = .ok (.getfield 114, 3) := by decide +kernel
theorem dX8_open_104 : decode cX8_open 104 = .ok (.iload_n 2, 1) := by decide +kernel
theorem dX8_open_105 : decode cX8_open 105 = .ok (.invokevirtual 291, 3) := by decide +kernel
theorem dX8_open_108 : decode cX8_open 108 = .ok (.ifCond .eq 14, 3) := by decide +kernel
theorem dX8_open_111 : decode cX8_open 111 = .ok (.new 68, 3) := by decide +kernel
theorem dX8_open_114 : decode cX8_open 114 = .ok (.dup, 1) := by decide +kernel
theorem dX8_open_115 : decode cX8_open 115 = .ok (.ldc_w 294, 3) := by decide +kernel
theorem dX8_open_118 : decode cX8_open 118 = .ok (.invokespecial 72, 3) := by decide +kernel
theorem dX8_open_121 : decode cX8_open 121 = .ok (.athrow, 1) := by decide +kernel
theorem dX8_open_122 : decode cX8_open 122 = .ok (.aload 4, 2) := by decide +kernel
theorem dX8_open_124 : decode cX8_open 124 = .ok (.getfield 151, 3) := by decide +kernel
theorem dX8_open_127 : decode cX8_open 127 = .ok (.ifCond .eq 7, 3) := by decide +kernel
theorem dX8_open_130 : decode cX8_open 130 = .ok (.iconst 0, 1) := by decide +kernel
theorem dX8_open_131 : decode cX8_open 131 = .ok (.goto 9, 3) := by decide +kernel
theorem dX8_open_134 : decode cX8_open 134 = .ok (.aload_n 0, 1) := by decide +kernel
theorem dX8_open_135 : decode cX8_open 135 = .ok (.aload_n 3, 1) := by decide +kernel
theorem dX8_open_136 : decode cX8_open 136 = .ok (.iload_n 2, 1) := by decide +kernel
theorem dX8_open_137 : decode cX8_open 137 = .ok (.invokevirtual 296, 3) := by decide +kernel
theorem dX8_open_140 : decode cX8_open 140 = .ok (.istore 5, 2) := by decide +kernel
theorem dX8_open_142 : decode cX8_open 142 = .ok (.aload 4, 2) := by decide +kernel
theorem dX8_open_144 : decode cX8_open 144 = .ok (.iconst 1, 1) := by decide +kernel
theorem dX8_open_145 : decode cX8_open 145 = .ok (.putfield 151, 3) := by decide +kernel
theorem dX8_open_148 : decode cX8_open 148 = .ok (.aload 4, 2) := by decide +kernel
theorem dX8_open_150 : decode cX8_open 150 = .ok (.aload_n 3, 1) := by decide +kernel
theorem dX8_open_151 : decode cX8_open 151 = .ok (.getfield 218, 3) := by decide +kernel
theorem dX8_open_154 : decode cX8_open 154 = .ok (.putfield 288, 3) := by decide +kernel
theorem dX8_open_157 : decode cX8_open 157 = .ok (.aload_n 3, 1) := by decide +kernel
theorem dX8_open_158 : decode cX8_open 158 = .ok (.dup, 1) := by decide +kernel
theorem dX8_open_159 : decode cX8_open 159 = .ok (.getfield 300, 3) := by decide +kernel
theorem dX8_open_162 : decode cX8_open 162 = .ok (.iconst 1, 1) := by decide +kernel
theorem dX8_open_163 : decode cX8_open 163 = .ok (.iadd, 1) := by decide +kernel
theorem dX8_open_164 : decode cX8_open 164 = .ok (.putfield 300, 3) := by decide +kernel
theorem dX8_open_167 : decode cX8_open 167 = .ok (.iload 5, 2) := by decide +kernel
theorem dX8_open_169 : decode cX8_open 169 = .ok (.ireturn, 1) := by decide +kernel
theorem dX8_fill_0 : decode cX8_fill 0 = .ok (.aload_n 0, 1) := by decide +kernel
theorem dX8_fill_1 : decode cX8_fill 1 = .ok (.iload_n 1, 1) := by decide +kernel
theorem dX8_fill_2 : decode cX8_fill 2 = .ok (.invokevirtual 221, 3) := by decide +kernel
theorem dX8_fill_5 : decode cX8_fill 5 = .ok (.astore 4, 2) := by decide +kernel
theorem dX8_fill_7 : decode cX8_fill 7 = .ok (.aload 4, 2) := by decide +kernel
theorem dX8_fill_9 : decode cX8_fill 9 = .ok (.ifnonnull 7, 3) := by decide +kernel
theorem dX8_fill_12 : decode cX8_fill 12 = .ok (.aconst_null, 1) := by decide +kernel
theorem dX8_fill_13 : decode cX8_fill 13 = .ok (.goto 9, 3) := by decide +kernel
theorem dX8_fill_16 : decode cX8_fill 16 = .ok (.aload 4, 2) := by decide +kernel
theorem dX8_fill_18 : decode cX8_fill 18 = .ok (.iload_n 2, 1) := by decide +kernel
theorem dX8_fill_19 : decode cX8_fill 19 = .ok (.invokevirtual 272, 3) := by decide +kernel
theorem dX8_fill_22 : decode cX8_fill 22 = .ok (.astore 5, 2) := by decide +kernel
theorem dX8_fill_24 : decode cX8_fill 24 = .ok (.aload 4, 2) := by decide +kernel
theorem dX8_fill_26 : decode cX8_fill 26 = .ok (.ifnull 8, 3) := by decide +kernel
theorem dX8_fill_29 : decode cX8_fill 29 = .ok (.aload 5, 2) := by decide +kernel
theorem dX8_fill_31 : decode cX8_fill 31 = .ok (.ifnonnull 14, 3) := by decide +kernel
theorem dX8_fill_34 : decode cX8_fill 34 = .ok (.new 52, 3) := by decide +kernel
theorem dX8_fill_37 : decode cX8_fill 37 = .ok (.dup, 1) := by decide +kernel
theorem dX8_fill_38 : decode cX8_fill 38 = .ok (.ldc_w 275, 3) := by decide +kernel
theorem dX8_fill_41 : decode cX8_fill 41 = .ok (.invokespecial 56, 3) := by decide +kernel
theorem dX8_fill_44 : decode cX8_fill 44 = .ok (.athrow, 1) := by decide +kernel
theorem dX8_fill_45 : decode cX8_fill 45 = .ok (.iload_n 3, 1) := by decide +kernel
theorem dX8_fill_46 : decode cX8_fill 46 = .ok (.ifCond .lt 9, 3) := by decide +kernel
theorem dX8_fill_49 : decode cX8_fill 49 = .ok (.iload_n 3, 1) := by decide +kernel
theorem dX8_fill_50 : decode cX8_fill 50 = .ok (.bipush 100, 2) := by decide +kernel
theorem dX8_fill_52 : decode cX8_fill 52 = .ok (.if_icmp .le 14, 3) := by decide +kernel
theorem dX8_fill_55 : decode cX8_fill 55 = .ok (.new 59, 3) := by decide +kernel
theorem dX8_fill_58 : decode cX8_fill 58 = .ok (.dup, 1) := by decide +kernel
theorem dX8_fill_59 : decode cX8_fill 59 = .ok (.ldc_w 303, 3) := by decide +kernel
theorem dX8_fill_62 : decode cX8_fill 62 = .ok (.invokespecial 63, 3) := by decide +kernel
theorem dX8_fill_65 : decode cX8_fill 65 = .ok (.athrow, 1) := by decide +kernel
theorem dX8_fill_66 : decode cX8_fill 66 = .ok (.aload 5, 2) := by decide +kernel
theorem dX8_fill_68 : decode cX8_fill 68 = .ok (.getfield 288, 3) := by decide +kernel
theorem dX8_fill_71 : decode cX8_fill 71 = .ok (.aload 4, 2) := by decide +kernel
theorem dX8_fill_73 : decode cX8_fill 73 = .ok (.getfield 218, 3) := by decide +kernel
theorem dX8_fill_76 : decode cX8_fill 76 = .ok (.if_icmp .eq 14, 3) := by decide +kernel
theorem dX8_fill_79 : decode cX8_fill 79 = .ok (.new 68, 3) := by decide +kernel
theorem dX8_fill_82 : decode cX8_fill 82 = .ok (.dup, 1) := by decide +kernel
theorem dX8_fill_83 : decode cX8_fill 83 = .ok (.ldc_w 305, 3) := by decide +kernel
theorem dX8_fill_86 : decode cX8_fill 86 = .ok (.invokespecial 72, 3) := by decide +kernel
theorem dX8_fill_89 : decode cX8_fill 89 = .ok (.athrow, 1) := by decide +kernel
theorem dX8_fill_90 : decode cX8_fill 90 = .ok (.aload 5, 2) := by decide +kernel
theorem dX8_fill_92 : decode cX8_fill 92 = .ok (.iconst (-1), 1) := by decide +kernel
theorem dX8_fill_93 : decode cX8_fill 93 = .ok (.putfield 288, 3) := by decide +kernel
theorem dX8_fill_96 : decode cX8_fill 96 = .ok (.aload 4, 2) := by decide +kernel
theorem dX8_fill_98 : decode cX8_fill 98 = .ok (.dup, 1) := by decide +kernel
theorem dX8_fill_99 : decode cX8_fill 99 = .ok (.getfield 300, 3) := by decide +kernel
theorem dX8_fill_102 : decode cX8_fill 102 = .ok (.iconst 1, 1) := by decide +kernel
theorem dX8_fill_103 : decode cX8_fill 103 = .ok (.isub, 1) := by decide +kernel
theorem dX8_fill_104 : decode cX8_fill 104 = .ok (.putfield 300, 3) := by decide +kernel
theorem dX8_fill_107 : decode cX8_fill 107 = .ok (.aload_n 0, 1) := by decide +kernel
theorem dX8_fill_108 : decode cX8_fill 108 = .ok (.getfield 43, 3) := by decide +kernel
theorem dX8_fill_111 : decode cX8_fill 111 = .ok (.invokevirtual 91, 3) := by decide +kernel
theorem dX8_fill_114 : decode cX8_fill 114 = .ok (.sipush 512, 3) := by decide +kernel
theorem dX8_fill_117 : decode cX8_fill 117 = .ok (.if_icmp .ge 77, 3) := by decide +kernel
theorem dX8_fill_120 : decode cX8_fill 120 = .ok (.aload 5, 2) := by decide +kernel
theorem dX8_fill_122 : decode cX8_fill 122 = .ok (.new 307, 3) := by decide +kernel
theorem dX8_fill_125 : decode cX8_fill 125 = .ok (.dup, 1) := by decide +kernel
theorem dX8_fill_126 : decode cX8_fill 126 = .ok (.aload 4, 2) := by decide +kernel
theorem dX8_fill_128 : decode cX8_fill 128 = .ok (.aload_n 0, 1) := by decide +kernel
theorem dX8_fill_129 : decode cX8_fill 129 = .ok (.invokevirtual 84, 3) := by decide +kernel
theorem dX8_fill_132 : decode cX8_fill 132 = .ok (.iload_n 3, 1) := by decide +kernel
theorem dX8_fill_133 : decode cX8_fill 133 = .ok (.aload_n 0, 1) := by decide +kernel
theorem dX8_fill_134 : decode cX8_fill 134 = .ok (.getfield 43, 3) := by decide +kernel
theorem dX8_fill_137 : decode cX8_fill 137 = .ok (.invokevirtual 91, 3) := by decide +kernel
theorem dX8_fill_140 : decode cX8_fill 140 = .ok (.aload 5, 2) := by decide +kernel
theorem dX8_fill_142 : decode cX8_fill 142 = .ok (.getfield 309, 3) := by decide +kernel
theorem dX8_fill_145 : decode cX8_fill 145 = .ok (.invokespecial 313, 3) := by decide +kernel
theorem dX8_fill_148 : decode cX8_fill 148 = .ok (.putfield 309, 3) := by decide +kernel
theorem dX8_fill_151 : decode cX8_fill 151 = .ok (.aload 5, 2) := by decide +kernel
theorem dX8_fill_153 : decode cX8_fill 153 = .ok (.dup, 1) := by decide +kernel
theorem dX8_fill_154 : decode cX8_fill 154 = .ok (.getfield 316, 3) := by decide +kernel
theorem dX8_fill_157 : decode cX8_fill 157 = .ok (.iconst 1, 1) := by decide +kernel
theorem dX8_fill_158 : decode cX8_fill 158 = .ok (.iadd, 1) := by decide +kernel
theorem dX8_fill_159 : decode cX8_fill 159 = .ok (.putfield 316, 3) := by decide +kernel
theorem dX8_fill_162 : decode cX8_fill 162 = .ok (.aload_n 0, 1) := by decide +kernel
theorem dX8_fill_163 : decode cX8_fill 163 = .ok (.new 97, 3) := by decide +kernel
theorem dX8_fill_166 : decode cX8_fill 166 = .ok (.dup, 1) := by decide +kernel
theorem dX8_fill_167 : decode cX8_fill 167 = .ok (.aload 4, 2) := by decide +kernel
theorem dX8_fill_169 : decode cX8_fill 169 = .ok (.getfield 114, 3) := by decide +kernel
theorem dX8_fill_172 : decode cX8_fill 172 = .ok (.iload_n 2, 1) := by decide +kernel
theorem dX8_fill_173 : decode cX8_fill 173 = .ok (.aload 4, 2) := by decide +kernel
theorem dX8_fill_175 : decode cX8_fill 175 = .ok (.aload_n 0, 1) := by decide +kernel
theorem dX8_fill_176 : decode cX8_fill 176 = .ok (.invokevirtual 84, 3) := by decide +kernel
theorem dX8_fill_179 : decode cX8_fill 179 = .ok (.invokespecial 99, 3) := by decide +kernel
theorem dX8_fill_182 : decode cX8_fill 182 = .ok (.invokevirtual 102, 3) := by decide +kernel
theorem dX8_fill_185 : decode cX8_fill 185 = .ok (.aload_n 0, 1) := by decide +kernel
theorem dX8_fill_186 : decode cX8_fill 186 = .ok (.aload 4, 2) := by decide +kernel
theorem dX8_fill_188 : decode cX8_fill 188 = .ok (.getfield 319, 3) := by decide +kernel
theorem dX8_fill_191 : decode cX8_fill 191 = .ok (.invokevirtual 322, 3) := by decide +kernel
theorem dX8_fill_194 : decode cX8_fill 194 = .ok (.aload 5, 2) := by decide +kernel
theorem dX8_fill_196 : decode cX8_fill 196 = .ok (.getfield 316, 3) := by decide +kernel
theorem dX8_fill_199 : decode cX8_fill 199 = .ok (.ireturn, 1) := by decide +kernel
theorem dX8_plate_0 : decode cX8_plate 0 = .ok (.aload_n 0, 1) := by decide +kernel
theorem dX8_plate_1 : decode cX8_plate 1 = .ok (.iload_n 1, 1) := by decide +kernel
theorem dX8_plate_2 : decode cX8_plate 2 = .ok (.invokevirtual 221, 3) := by decide +kernel
theorem dX8_plate_5 : decode cX8_plate 5 = .ok (.astore_n 2, 1) := by decide +kernel
theorem dX8_plate_6 : decode cX8_plate 6 = .ok (.aload_n 2, 1) := by decide +kernel
theorem dX8_plate_7 : decode cX8_plate 7 = .ok (.ifnonnull 13, 3) := by decide +kernel
theorem dX8_plate_10 : decode cX8_plate 10 = .ok (.new 52, 3) := by decide +kernel
theorem dX8_plate_13 : decode cX8_plate 13 = .ok (.dup, 1) := by decide +kernel
theorem dX8_plate_14 : decode cX8_plate 14 = .ok (.ldc 225, 2) := by decide +kernel
theorem dX8_plate_16 : decode cX8_plate 16 = .ok (.invokespecial 56, 3) := by decide +kernel
theorem dX8_plate_19 : decode cX8_plate 19 = .ok (.athrow, 1) := by decide +kernel
theorem dX8_plate_20 : decode cX8_plate 20 = .ok (.aload_n 2, 1) := by decide +kernel
theorem dX8_plate_21 : decode cX8_plate 21 = .ok (.getfield 118, 3) := by decide +kernel
theorem dX8_plate_24 : decode cX8_plate 24 = .ok (.iconst 3, 1) := by decide +kernel
theorem dX8_plate_25 : decode cX8_plate 25 = .ok (.if_icmp .eq 14, 3) := by decide +kernel
theorem dX8_plate_28 : decode cX8_plate 28 = .ok (.new 68, 3) := by decide +kernel
theorem dX8_plate_31 : decode cX8_plate 31 = .ok (.dup, 1) := by decide +kernel
theorem dX8_plate_32 : decode cX8_plate 32 = .ok (.ldc_w 326, 3) := by decide +kernel
theorem dX8_plate_35 : decode cX8_plate 35 = .ok (.invokespecial 72, 3) := by decide +kernel
theorem dX8_plate_38 : decode cX8_plate 38 = .ok (.athrow, 1) := by decide +kernel
theorem dX8_plate_39 : decode cX8_plate 39 = .ok (.aload_n 2, 1) := by decide +kernel
theorem dX8_plate_40 : decode cX8_plate 40 = .ok (.aload_n 2, 1) := by decide +kernel
theorem dX8_plate_41 : decode cX8_plate 41 = .ok (.getfield 277, 3) := by decide +kernel
theorem dX8_plate_44 : decode cX8_plate 44 = .ok (.ifCond .ne 7, 3) := by decide +kernel
theorem dX8_plate_47 : decode cX8_plate 47 = .ok (.iconst 1, 1) := by decide +kernel
theorem dX8_plate_48 : decode cX8_plate 48 = .ok (.goto 4, 3) := by decide +kernel
theorem dX8_plate_51 : decode cX8_plate 51 = .ok (.iconst 0, 1) := by decide +kernel
theorem dX8_plate_52 : decode cX8_plate 52 = .ok (.putfield 277, 3) := by decide +kernel
theorem dX8_plate_55 : decode cX8_plate 55 = .ok (.aload_n 2, 1) := by decide +kernel
theorem dX8_plate_56 : decode cX8_plate 56 = .ok (.getfield 277, 3) := by decide +kernel
theorem dX8_plate_59 : decode cX8_plate 59 = .ok (.ireturn, 1) := by decide +kernel
theorem dX8_extend_0 : decode cX8_extend 0 = .ok (.aload_n 0, 1) := by decide +kernel
theorem dX8_extend_1 : decode cX8_extend 1 = .ok (.iload_n 1, 1) := by decide +kernel
theorem dX8_extend_2 : decode cX8_extend 2 = .ok (.invokevirtual 221, 3) := by decide +kernel
theorem dX8_extend_5 : decode cX8_extend 5 = .ok (.astore_n 2, 1) := by decide +kernel
theorem dX8_extend_6 : decode cX8_extend 6 = .ok (.aload_n 2, 1) := by decide +kernel
theorem dX8_extend_7 : decode cX8_extend 7 = .ok (.ifnonnull 13, 3) := by decide +kernel
theorem dX8_extend_10 : decode cX8_extend 10 = .ok (.new 52, 3) := by decide +kernel
theorem dX8_extend_13 : decode cX8_extend 13 = .ok (.dup, 1) := by decide +kernel
theorem dX8_extend_14 : decode cX8_extend 14 = .ok (.ldc 225, 2) := by decide +kernel
theorem dX8_extend_16 : decode cX8_extend 16 = .ok (.invokespecial 56, 3) := by decide +kernel
theorem dX8_extend_19 : decode cX8_extend 19 = .ok (.athrow, 1) := by decide +kernel
theorem dX8_extend_20 : decode cX8_extend 20 = .ok (.aload_n 2, 1) := by decide +kernel
theorem dX8_extend_21 : decode cX8_extend 21 = .ok (.getfield 118, 3) := by decide +kernel
theorem dX8_extend_24 : decode cX8_extend 24 = .ok (.iconst 3, 1) := by decide +kernel
theorem dX8_extend_25 : decode cX8_extend 25 = .ok (.if_icmp .ne 11, 3) := by decide +kernel
theorem dX8_extend_28 : decode cX8_extend 28 = .ok (.aload_n 2, 1) := by decide +kernel
theorem dX8_extend_29 : decode cX8_extend 29 = .ok (.getfield 328, 3) := by decide +kernel
theorem dX8_extend_32 : decode cX8_extend 32 = .ok (.iconst 1, 1) := by decide +kernel
theorem dX8_extend_33 : decode cX8_extend 33 = .ok (.if_icmp .ge 14, 3) := by decide +kernel
theorem dX8_extend_36 : decode cX8_extend 36 = .ok (.new 68, 3) := by decide +kernel
theorem dX8_extend_39 : decode cX8_extend 39 = .ok (.dup, 1) := by decide +kernel
theorem dX8_extend_40 : decode cX8_extend 40 = .ok (.ldc_w 331, 3) := by decide +kernel
theorem dX8_extend_43 : decode cX8_extend 43 = .ok (.invokespecial 72, 3) := by decide +kernel
theorem dX8_extend_46 : decode cX8_extend 46 = .ok (.athrow, 1) := by decide +kernel
theorem dX8_extend_47 : decode cX8_extend 47 = .ok (.aload_n 2, 1) := by decide +kernel
theorem dX8_extend_48 : decode cX8_extend 48 = .ok (.getfield 124, 3) := by decide +kernel
theorem dX8_extend_51 : decode cX8_extend 51 = .ok (.iconst 2, 1) := by decide +kernel
theorem dX8_extend_52 : decode cX8_extend 52 = .ok (.iadd, 1) := by decide +kernel
theorem dX8_extend_53 : decode cX8_extend 53 = .ok (.aload_n 0, 1) := by decide +kernel
theorem dX8_extend_54 : decode cX8_extend 54 = .ok (.invokevirtual 84, 3) := by decide +kernel
theorem dX8_extend_57 : decode cX8_extend 57 = .ok (.invokestatic 333, 3) := by decide +kernel
theorem dX8_extend_60 : decode cX8_extend 60 = .ok (.istore_n 3, 1) := by decide +kernel
theorem dX8_extend_61 : decode cX8_extend 61 = .ok (.aload_n 0, 1) := by decide +kernel
theorem dX8_extend_62 : decode cX8_extend 62 = .ok (.aload_n 2, 1) := by decide +kernel
theorem dX8_extend_63 : decode cX8_extend 63 = .ok (.iload_n 3, 1) := by decide +kernel
theorem dX8_extend_64 : decode cX8_extend 64 = .ok (.iconst 0, 1) := by decide +kernel
theorem dX8_extend_65 : decode cX8_extend 65 = .ok (.iconst 1, 1) := by decide +kernel
theorem dX8_extend_66 : decode cX8_extend 66 = .ok (.invokevirtual 339, 3) := by decide +kernel
theorem dX8_extend_69 : decode cX8_extend 69 = .ok (.iconst (-1), 1) := by decide +kernel
theorem dX8_extend_70 : decode cX8_extend 70 = .ok (.if_icmp .eq 14, 3) := by decide +kernel
theorem dX8_extend_73 : decode cX8_extend 73 = .ok (.new 68, 3) := by decide +kernel
theorem dX8_extend_76 : decode cX8_extend 76 = .ok (.dup, 1) := by decide +kernel
theorem dX8_extend_77 : decode cX8_extend 77 = .ok (.ldc_w 343, 3) := by decide +kernel
theorem dX8_extend_80 : decode cX8_extend 80 = .ok (.invokespecial 72, 3) := by decide +kernel
theorem dX8_extend_83 : decode cX8_extend 83 = .ok (.athrow, 1) := by decide +kernel
theorem dX8_extend_84 : decode cX8_extend 84 = .ok (.aload_n 2, 1) := by decide +kernel
theorem dX8_extend_85 : decode cX8_extend 85 = .ok (.dup, 1) := by decide +kernel
theorem dX8_extend_86 : decode cX8_extend 86 = .ok (.getfield 328, 3) := by decide +kernel
theorem dX8_extend_89 : decode cX8_extend 89 = .ok (.iconst 1, 1) := by decide +kernel
theorem dX8_extend_90 : decode cX8_extend 90 = .ok (.isub, 1) := by decide +kernel
theorem dX8_extend_91 : decode cX8_extend 91 = .ok (.putfield 328, 3) := by decide +kernel
theorem dX8_extend_94 : decode cX8_extend 94 = .ok (.aload_n 2, 1) := by decide +kernel
theorem dX8_extend_95 : decode cX8_extend 95 = .ok (.dup, 1) := by decide +kernel
theorem dX8_extend_96 : decode cX8_extend 96 = .ok (.getfield 124, 3) := by decide +kernel
theorem dX8_extend_99 : decode cX8_extend 99 = .ok (.iconst 2, 1) := by decide +kernel
theorem dX8_extend_100 : decode cX8_extend 100 = .ok (.iadd, 1) := by decide +kernel
theorem dX8_extend_101 : decode cX8_extend 101 = .ok (.putfield 124, 3) := by decide +kernel
theorem dX8_extend_104 : decode cX8_extend 104 = .ok (.aload_n 2, 1) := by decide +kernel
theorem dX8_extend_105 : decode cX8_extend 105 = .ok (.getfield 124, 3) := by decide +kernel
theorem dX8_extend_108 : decode cX8_extend 108 = .ok (.ireturn, 1) := by decide +kernel
theorem dX8_stop_0 : decode cX8_stop 0 = .ok (.aload_n 0, 1) := by decide +kernel
theorem dX8_stop_1 : decode cX8_stop 1 = .ok (.iload_n 1, 1) := by decide +kernel
theorem dX8_stop_2 : decode cX8_stop 2 = .ok (.invokevirtual 221, 3) := by decide +kernel
theorem dX8_stop_5 : decode cX8_stop 5 = .ok (.astore_n 2, 1) := by decide +kernel
theorem dX8_stop_6 : decode cX8_stop 6 = .ok (.aload_n 2, 1) := by decide +kernel
theorem dX8_stop_7 : decode cX8_stop 7 = .ok (.ifnonnull 13, 3) := by decide +kernel
theorem dX8_stop_10 : decode cX8_stop 10 = .ok (.new 52, 3) := by decide +kernel
theorem dX8_stop_13 : decode cX8_stop 13 = .ok (.dup, 1) := by decide +kernel
theorem dX8_stop_14 : decode cX8_stop 14 = .ok (.ldc 225, 2) := by decide +kernel
theorem dX8_stop_16 : decode cX8_stop 16 = .ok (.invokespecial 56, 3) := by decide +kernel
theorem dX8_stop_19 : decode cX8_stop 19 = .ok (.athrow, 1) := by decide +kernel
theorem dX8_stop_20 : decode cX8_stop 20 = .ok (.aload_n 2, 1) := by decide +kernel
theorem dX8_stop_21 : decode cX8_stop 21 = .ok (.getfield 118, 3) := by decide +kernel
theorem dX8_stop_24 : decode cX8_stop 24 = .ok (.iconst 3, 1) := by decide +kernel
theorem dX8_stop_25 : decode cX8_stop 25 = .ok (.if_icmp .ne 10, 3) := by decide +kernel
theorem dX8_stop_28 : decode cX8_stop 28 = .ok (.aload_n 2, 1) := by decide +kernel
theorem dX8_stop_29 : decode cX8_stop 29 = .ok (.getfield 300, 3) := by decide +kernel
theorem dX8_stop_32 : decode cX8_stop 32 = .ok (.ifCond .le 14, 3) := by decide +kernel
theorem dX8_stop_35 : decode cX8_stop 35 = .ok (.new 68, 3) := by decide +kernel
theorem dX8_stop_38 : decode cX8_stop 38 = .ok (.dup, 1) := by decide +kernel
theorem dX8_stop_39 : decode cX8_stop 39 = .ok (.ldc_w 345, 3) := by decide +kernel
theorem dX8_stop_42 : decode cX8_stop 42 = .ok (.invokespecial 72, 3) := by decide +kernel
theorem dX8_stop_45 : decode cX8_stop 45 = .ok (.athrow, 1) := by decide +kernel
theorem dX8_stop_46 : decode cX8_stop 46 = .ok (.aload_n 2, 1) := by decide +kernel
theorem dX8_stop_47 : decode cX8_stop 47 = .ok (.aload_n 0, 1) := by decide +kernel
theorem dX8_stop_48 : decode cX8_stop 48 = .ok (.invokevirtual 84, 3) := by decide +kernel
theorem dX8_stop_51 : decode cX8_stop 51 = .ok (.invokevirtual 347, 3) := by decide +kernel
theorem dX8_stop_54 : decode cX8_stop 54 = .ok (.aload_n 2, 1) := by decide +kernel
theorem dX8_stop_55 : decode cX8_stop 55 = .ok (.getfield 124, 3) := by decide +kernel
theorem dX8_stop_58 : decode cX8_stop 58 = .ok (.isub, 1) := by decide +kernel
theorem dX8_stop_59 : decode cX8_stop 59 = .ok (.istore_n 3, 1) := by decide +kernel
theorem dX8_stop_60 : decode cX8_stop 60 = .ok (.aload_n 2, 1) := by decide +kernel
theorem dX8_stop_61 : decode cX8_stop 61 = .ok (.iconst 4, 1) := by decide +kernel
theorem dX8_stop_62 : decode cX8_stop 62 = .ok (.putfield 118, 3) := by decide +kernel
theorem dX8_stop_65 : decode cX8_stop 65 = .ok (.aload_n 2, 1) := by decide +kernel
theorem dX8_stop_66 : decode cX8_stop 66 = .ok (.iconst 0, 1) := by decide +kernel
theorem dX8_stop_67 : decode cX8_stop 67 = .ok (.putfield 277, 3) := by decide +kernel
theorem dX8_stop_70 : decode cX8_stop 70 = .ok (.iload_n 3, 1) := by decide +kernel
theorem dX8_stop_71 : decode cX8_stop 71 = .ok (.ireturn, 1) := by decide +kernel
theorem dX8_pass_0 : decode cX8_pass 0 = .ok (.iload_n 1, 1) := by decide +kernel
theorem dX8_pass_1 : decode cX8_pass 1 = .ok (.iconst 1, 1) := by decide +kernel
theorem dX8_pass_2 : decode cX8_pass 2 = .ok (.if_icmp .lt 10, 3) := by decide +kernel
theorem dX8_pass_5 : decode cX8_pass 5 = .ok (.iload_n 1, 1) := by decide +kernel
theorem dX8_pass_6 : decode cX8_pass 6 = .ok (.sipush 200, 3) := by decide +kernel
theorem dX8_pass_9 : decode cX8_pass 9 = .ok (.if_icmp .le 14, 3) := by decide +kernel
theorem dX8_pass_12 : decode cX8_pass 12 = .ok (.new 59, 3) := by decide +kernel
theorem dX8_pass_15 : decode cX8_pass 15 = .ok (.dup, 1) := by decide +kernel
theorem dX8_pass_16 : decode cX8_pass 16 = .ok (.ldc_w 350, 3) := by decide +kernel
theorem dX8_pass_19 : decode cX8_pass 19 = .ok (.invokespecial 63, 3) := by decide +kernel
theorem dX8_pass_22 : decode cX8_pass 22 = .ok (.athrow, 1) := by decide +kernel
theorem dX8_pass_23 : decode cX8_pass 23 = .ok (.aload_n 0, 1) := by decide +kernel
theorem dX8_pass_24 : decode cX8_pass 24 = .ok (.getfield 352, 3) := by decide +kernel
theorem dX8_pass_27 : decode cX8_pass 27 = .ok (.iload_n 1, 1) := by decide +kernel
theorem dX8_pass_28 : decode cX8_pass 28 = .ok (.iadd, 1) := by decide +kernel
theorem dX8_pass_29 : decode cX8_pass 29 = .ok (.sipush 9999, 3) := by decide +kernel
theorem dX8_pass_32 : decode cX8_pass 32 = .ok (.if_icmp .le 14, 3) := by decide +kernel
theorem dX8_pass_35 : decode cX8_pass 35 = .ok (.new 68, 3) := by decide +kernel
theorem dX8_pass_38 : decode cX8_pass 38 = .ok (.dup, 1) := by decide +kernel
theorem dX8_pass_39 : decode cX8_pass 39 = .ok (.ldc_w 355, 3) := by decide +kernel
theorem dX8_pass_42 : decode cX8_pass 42 = .ok (.invokespecial 72, 3) := by decide +kernel
theorem dX8_pass_45 : decode cX8_pass 45 = .ok (.athrow, 1) := by decide +kernel
theorem dX8_pass_46 : decode cX8_pass 46 = .ok (.iconst 0, 1) := by decide +kernel
theorem dX8_pass_47 : decode cX8_pass 47 = .ok (.istore_n 2, 1) := by decide +kernel
theorem dX8_pass_48 : decode cX8_pass 48 = .ok (.iload_n 2, 1) := by decide +kernel
theorem dX8_pass_49 : decode cX8_pass 49 = .ok (.iload_n 1, 1) := by decide +kernel
theorem dX8_pass_50 : decode cX8_pass 50 = .ok (.if_icmp .ge 13, 3) := by decide +kernel
theorem dX8_pass_53 : decode cX8_pass 53 = .ok (.aload_n 0, 1) := by decide +kernel
theorem dX8_pass_54 : decode cX8_pass 54 = .ok (.invokevirtual 357, 3) := by decide +kernel
theorem dX8_pass_57 : decode cX8_pass 57 = .ok (.iinc 2 1, 3) := by decide +kernel
theorem dX8_pass_60 : decode cX8_pass 60 = .ok (.goto (-12), 3) := by decide +kernel
theorem dX8_pass_63 : decode cX8_pass 63 = .ok (.aload_n 0, 1) := by decide +kernel
theorem dX8_pass_64 : decode cX8_pass 64 = .ok (.getfield 352, 3) := by decide +kernel
theorem dX8_pass_67 : decode cX8_pass 67 = .ok (.ireturn, 1) := by decide +kernel
theorem dX8_defect_0 : decode cX8_defect 0 = .ok (.aload_n 0, 1) := by decide +kernel
theorem dX8_defect_1 : decode cX8_defect 1 = .ok (.iload_n 1, 1) := by decide +kernel
theorem dX8_defect_2 : decode cX8_defect 2 = .ok (.invokevirtual 48, 3) := by decide +kernel
theorem dX8_defect_5 : decode cX8_defect 5 = .ok (.astore 4, 2) := by decide +kernel
theorem dX8_defect_7 : decode cX8_defect 7 = .ok (.aload 4, 2) := by decide +kernel
theorem dX8_defect_9 : decode cX8_defect 9 = .ok (.ifnonnull 7, 3) := by decide +kernel
theorem dX8_defect_12 : decode cX8_defect 12 = .ok (.aconst_null, 1) := by decide +kernel
theorem dX8_defect_13 : decode cX8_defect 13 = .ok (.goto 9, 3) := by decide +kernel
theorem dX8_defect_16 : decode cX8_defect 16 = .ok (.aload 4, 2) := by decide +kernel
theorem dX8_defect_18 : decode cX8_defect 18 = .ok (.iload_n 2, 1) := by decide +kernel
theorem dX8_defect_19 : decode cX8_defect 19 = .ok (.invokevirtual 135, 3) := by decide +kernel
theorem dX8_defect_22 : decode cX8_defect 22 = .ok (.astore 5, 2) := by decide +kernel
theorem dX8_defect_24 : decode cX8_defect 24 = .ok (.aload 4, 2) := by decide +kernel
theorem dX8_defect_26 : decode cX8_defect 26 = .ok (.ifnull 8, 3) := by decide +kernel
theorem dX8_defect_29 : decode cX8_defect 29 = .ok (.aload 5, 2) := by decide +kernel
theorem dX8_defect_31 : decode cX8_defect 31 = .ok (.ifnonnull 13, 3) := by decide +kernel
theorem dX8_defect_34 : decode cX8_defect 34 = .ok (.new 52, 3) := by decide +kernel
theorem dX8_defect_37 : decode cX8_defect 37 = .ok (.dup, 1) := by decide +kernel
theorem dX8_defect_38 : decode cX8_defect 38 = .ok (.ldc 189, 2) := by decide +kernel
theorem dX8_defect_40 : decode cX8_defect 40 = .ok (.invokespecial 56, 3) := by decide +kernel
theorem dX8_defect_43 : decode cX8_defect 43 = .ok (.athrow, 1) := by decide +kernel
theorem dX8_defect_44 : decode cX8_defect 44 = .ok (.iload_n 3, 1) := by decide +kernel
theorem dX8_defect_45 : decode cX8_defect 45 = .ok (.ifCond .lt 10, 3) := by decide +kernel
theorem dX8_defect_48 : decode cX8_defect 48 = .ok (.iload_n 3, 1) := by decide +kernel
theorem dX8_defect_49 : decode cX8_defect 49 = .ok (.sipush 300, 3) := by decide +kernel
theorem dX8_defect_52 : decode cX8_defect 52 = .ok (.if_icmp .le 14, 3) := by decide +kernel
theorem dX8_defect_55 : decode cX8_defect 55 = .ok (.new 59, 3) := by decide +kernel
theorem dX8_defect_58 : decode cX8_defect 58 = .ok (.dup, 1) := by decide +kernel
theorem dX8_defect_59 : decode cX8_defect 59 = .ok (.ldc_w 360, 3) := by decide +kernel
theorem dX8_defect_62 : decode cX8_defect 62 = .ok (.invokespecial 63, 3) := by decide +kernel
theorem dX8_defect_65 : decode cX8_defect 65 = .ok (.athrow, 1) := by decide +kernel
theorem dX8_defect_66 : decode cX8_defect 66 = .ok (.aload_n 0, 1) := by decide +kernel
theorem dX8_defect_67 : decode cX8_defect 67 = .ok (.aload 4, 2) := by decide +kernel
theorem dX8_defect_69 : decode cX8_defect 69 = .ok (.aload 5, 2) := by decide +kernel
theorem dX8_defect_71 : decode cX8_defect 71 = .ok (.iload_n 3, 1) := by decide +kernel
theorem dX8_defect_72 : decode cX8_defect 72 = .ok (.invokevirtual 362, 3) := by decide +kernel
theorem dX8_defect_75 : decode cX8_defect 75 = .ok (.astore 6, 2) := by decide +kernel
theorem dX8_defect_77 : decode cX8_defect 77 = .ok (.aload 6, 2) := by decide +kernel
theorem dX8_defect_79 : decode cX8_defect 79 = .ok (.ifnonnull 5, 3) := by decide +kernel
theorem dX8_defect_82 : decode cX8_defect 82 = .ok (.iconst (-1), 1) := by decide +kernel
theorem dX8_defect_83 : decode cX8_defect 83 = .ok (.ireturn, 1) := by decide +kernel
theorem dX8_defect_84 : decode cX8_defect 84 = .ok (.aload_n 0, 1) := by decide +kernel
theorem dX8_defect_85 : decode cX8_defect 85 = .ok (.aload 6, 2) := by decide +kernel
theorem dX8_defect_87 : decode cX8_defect 87 = .ok (.getfield 319, 3) := by decide +kernel
theorem dX8_defect_90 : decode cX8_defect 90 = .ok (.iconst 5, 1) := by decide +kernel
theorem dX8_defect_91 : decode cX8_defect 91 = .ok (.sipush 300, 3) := by decide +kernel
theorem dX8_defect_94 : decode cX8_defect 94 = .ok (.invokevirtual 366, 3) := by decide +kernel
theorem dX8_defect_97 : decode cX8_defect 97 = .ok (.aload_n 0, 1) := by decide +kernel
theorem dX8_defect_98 : decode cX8_defect 98 = .ok (.aload 6, 2) := by decide +kernel
theorem dX8_defect_100 : decode cX8_defect 100 = .ok (.getfield 319, 3) := by decide +kernel
theorem dX8_defect_103 : decode cX8_defect 103 = .ok (.invokevirtual 369, 3) := by decide +kernel
theorem dX8_defect_106 : decode cX8_defect 106 = .ok (.aload 6, 2) := by decide +kernel
theorem dX8_defect_108 : decode cX8_defect 108 = .ok (.getfield 218, 3) := by decide +kernel
theorem dX8_defect_111 : decode cX8_defect 111 = .ok (.ireturn, 1) := by decide +kernel
theorem dX8_core_0 : decode cX8_core 0 = .ok (.aload_n 0, 1) := by decide +kernel
theorem dX8_core_1 : decode cX8_core 1 = .ok (.iload_n 1, 1) := by decide +kernel
theorem dX8_core_2 : decode cX8_core 2 = .ok (.invokevirtual 48, 3) := by decide +kernel
theorem dX8_core_5 : decode cX8_core 5 = .ok (.astore_n 3, 1) := by decide +kernel
theorem dX8_core_6 : decode cX8_core 6 = .ok (.aload_n 3, 1) := by decide +kernel
theorem dX8_core_7 : decode cX8_core 7 = .ok (.ifnonnull 7, 3) := by decide +kernel
theorem dX8_core_10 : decode cX8_core 10 = .ok (.aconst_null, 1) := by decide +kernel
theorem dX8_core_11 : decode cX8_core 11 = .ok (.goto 8, 3) := by decide +kernel
theorem dX8_core_14 : decode cX8_core 14 = .ok (.aload_n 3, 1) := by decide +kernel
theorem dX8_core_15 : decode cX8_core 15 = .ok (.iload_n 2, 1) := by decide +kernel
theorem dX8_core_16 : decode cX8_core 16 = .ok (.invokevirtual 135, 3) := by decide +kernel
theorem dX8_core_19 : decode cX8_core 19 = .ok (.astore 4, 2) := by decide +kernel
theorem dX8_core_21 : decode cX8_core 21 = .ok (.aload_n 3, 1) := by decide +kernel
theorem dX8_core_22 : decode cX8_core 22 = .ok (.ifnull 8, 3) := by decide +kernel
theorem dX8_core_25 : decode cX8_core 25 = .ok (.aload 4, 2) := by decide +kernel
theorem dX8_core_27 : decode cX8_core 27 = .ok (.ifnonnull 13, 3) := by decide +kernel
theorem dX8_core_30 : decode cX8_core 30 = .ok (.new 52, 3) := by decide +kernel
theorem dX8_core_33 : decode cX8_core 33 = .ok (.dup, 1) := by decide +kernel
theorem dX8_core_34 : decode cX8_core 34 = .ok (.ldc 189, 2) := by decide +kernel
theorem dX8_core_36 : decode cX8_core 36 = .ok (.invokespecial 56, 3) := by decide +kernel
theorem dX8_core_39 : decode cX8_core 39 = .ok (.athrow, 1) := by decide +kernel
theorem dX8_core_40 : decode cX8_core 40 = .ok (.aload 4, 2) := by decide +kernel
theorem dX8_core_42 : decode cX8_core 42 = .ok (.getfield 309, 3) := by decide +kernel
theorem dX8_core_45 : decode cX8_core 45 = .ok (.astore 5, 2) := by decide +kernel
theorem dX8_core_47 : decode cX8_core 47 = .ok (.aload 5, 2) := by decide +kernel
theorem dX8_core_49 : decode cX8_core 49 = .ok (.ifnull 11, 3) := by decide +kernel
theorem dX8_core_52 : decode cX8_core 52 = .ok (.aload 5, 2) := by decide +kernel
theorem dX8_core_54 : decode cX8_core 54 = .ok (.getfield 372, 3) := by decide +kernel
theorem dX8_core_57 : decode cX8_core 57 = .ok (.ifCond .eq 14, 3) := by decide +kernel
theorem dX8_core_60 : decode cX8_core 60 = .ok (.new 68, 3) := by decide +kernel
theorem dX8_core_63 : decode cX8_core 63 = .ok (.dup, 1) := by decide +kernel
theorem dX8_core_64 : decode cX8_core 64 = .ok (.ldc_w 375, 3) := by decide +kernel
theorem dX8_core_67 : decode cX8_core 67 = .ok (.invokespecial 72, 3) := by decide +kernel
theorem dX8_core_70 : decode cX8_core 70 = .ok (.athrow, 1) := by decide +kernel
theorem dX8_core_71 : decode cX8_core 71 = .ok (.aload 5, 2) := by decide +kernel
theorem dX8_core_73 : decode cX8_core 73 = .ok (.iconst 1, 1) := by decide +kernel
theorem dX8_core_74 : decode cX8_core 74 = .ok (.putfield 372, 3) := by decide +kernel
theorem dX8_core_77 : decode cX8_core 77 = .ok (.aload_n 0, 1) := by decide +kernel
theorem dX8_core_78 : decode cX8_core 78 = .ok (.aload 5, 2) := by decide +kernel
theorem dX8_core_80 : decode cX8_core 80 = .ok (.getfield 377, 3) := by decide +kernel
theorem dX8_core_83 : decode cX8_core 83 = .ok (.getfield 319, 3) := by decide +kernel
theorem dX8_core_86 : decode cX8_core 86 = .ok (.invokevirtual 381, 3) := by decide +kernel
theorem dX8_core_89 : decode cX8_core 89 = .ok (.aload 5, 2) := by decide +kernel
theorem dX8_core_91 : decode cX8_core 91 = .ok (.getfield 384, 3) := by decide +kernel
theorem dX8_core_94 : decode cX8_core 94 = .ok (.bipush 80, 2) := by decide +kernel
theorem dX8_core_96 : decode cX8_core 96 = .ok (.if_icmp .ge 15, 3) := by decide +kernel
theorem dX8_core_99 : decode cX8_core 99 = .ok (.aload_n 0, 1) := by decide +kernel
theorem dX8_core_100 : decode cX8_core 100 = .ok (.aload 5, 2) := by decide +kernel
theorem dX8_core_102 : decode cX8_core 102 = .ok (.getfield 377, 3) := by decide +kernel
theorem dX8_core_105 : decode cX8_core 105 = .ok (.getfield 319, 3) := by decide +kernel
theorem dX8_core_108 : decode cX8_core 108 = .ok (.invokevirtual 369, 3) := by decide +kernel
theorem dX8_core_111 : decode cX8_core 111 = .ok (.aload 5, 2) := by decide +kernel
theorem dX8_core_113 : decode cX8_core 113 = .ok (.getfield 384, 3) := by decide +kernel
theorem dX8_core_116 : decode cX8_core 116 = .ok (.ireturn, 1) := by decide +kernel
theorem dX8_liable_0 : decode cX8_liable 0 = .ok (.aload_n 0, 1) := by decide +kernel
theorem dX8_liable_1 : decode cX8_liable 1 = .ok (.iload_n 1, 1) := by decide +kernel
theorem dX8_liable_2 : decode cX8_liable 2 = .ok (.invokevirtual 48, 3) := by decide +kernel
theorem dX8_liable_5 : decode cX8_liable 5 = .ok (.astore 4, 2) := by decide +kernel
theorem dX8_liable_7 : decode cX8_liable 7 = .ok (.aload 4, 2) := by decide +kernel
theorem dX8_liable_9 : decode cX8_liable 9 = .ok (.ifnonnull 7, 3) := by decide +kernel
theorem dX8_liable_12 : decode cX8_liable 12 = .ok (.aconst_null, 1) := by decide +kernel
theorem dX8_liable_13 : decode cX8_liable 13 = .ok (.goto 9, 3) := by decide +kernel
theorem dX8_liable_16 : decode cX8_liable 16 = .ok (.aload 4, 2) := by decide +kernel
theorem dX8_liable_18 : decode cX8_liable 18 = .ok (.iload_n 2, 1) := by decide +kernel
theorem dX8_liable_19 : decode cX8_liable 19 = .ok (.invokevirtual 135, 3) := by decide +kernel
theorem dX8_liable_22 : decode cX8_liable 22 = .ok (.astore 5, 2) := by decide +kernel
theorem dX8_liable_24 : decode cX8_liable 24 = .ok (.aload 4, 2) := by decide +kernel
theorem dX8_liable_26 : decode cX8_liable 26 = .ok (.ifnull 8, 3) := by decide +kernel
theorem dX8_liable_29 : decode cX8_liable 29 = .ok (.aload 5, 2) := by decide +kernel
theorem dX8_liable_31 : decode cX8_liable 31 = .ok (.ifnonnull 13, 3) := by decide +kernel
theorem dX8_liable_34 : decode cX8_liable 34 = .ok (.new 52, 3) := by decide +kernel
theorem dX8_liable_37 : decode cX8_liable 37 = .ok (.dup, 1) := by decide +kernel
theorem dX8_liable_38 : decode cX8_liable 38 = .ok (.ldc 189, 2) := by decide +kernel
theorem dX8_liable_40 : decode cX8_liable 40 = .ok (.invokespecial 56, 3) := by decide +kernel
theorem dX8_liable_43 : decode cX8_liable 43 = .ok (.athrow, 1) := by decide +kernel
theorem dX8_liable_44 : decode cX8_liable 44 = .ok (.iload_n 3, 1) := by decide +kernel
theorem dX8_liable_45 : decode cX8_liable 45 = .ok (.ifCond .lt 10, 3) := by decide +kernel
theorem dX8_liable_48 : decode cX8_liable 48 = .ok (.iload_n 3, 1) := by decide +kernel
theorem dX8_liable_49 : decode cX8_liable 49 = .ok (.sipush 300, 3) := by decide +kernel
theorem dX8_liable_52 : decode cX8_liable 52 = .ok (.if_icmp .le 14, 3) := by decide +kernel
theorem dX8_liable_55 : decode cX8_liable 55 = .ok (.new 59, 3) := by decide +kernel
theorem dX8_liable_58 : decode cX8_liable 58 = .ok (.dup, 1) := by decide +kernel
theorem dX8_liable_59 : decode cX8_liable 59 = .ok (.ldc_w 360, 3) := by decide +kernel
theorem dX8_liable_62 : decode cX8_liable 62 = .ok (.invokespecial 63, 3) := by decide +kernel
theorem dX8_liable_65 : decode cX8_liable 65 = .ok (.athrow, 1) := by decide +kernel
theorem dX8_liable_66 : decode cX8_liable 66 = .ok (.aload_n 0, 1) := by decide +kernel
theorem dX8_liable_67 : decode cX8_liable 67 = .ok (.aload 4, 2) := by decide +kernel
theorem dX8_liable_69 : decode cX8_liable 69 = .ok (.aload 5, 2) := by decide +kernel
theorem dX8_liable_71 : decode cX8_liable 71 = .ok (.iload_n 3, 1) := by decide +kernel
theorem dX8_liable_72 : decode cX8_liable 72 = .ok (.invokevirtual 362, 3) := by decide +kernel
theorem dX8_liable_75 : decode cX8_liable 75 = .ok (.invokestatic 387, 3) := by decide +kernel
theorem dX8_liable_78 : decode cX8_liable 78 = .ok (.ireturn, 1) := by decide +kernel
theorem dX8_liableAnew_0 : decode cX8_liableAnew 0 = .ok (.aload_n 0, 1) := by decide +kernel
theorem dX8_liableAnew_1 : decode cX8_liableAnew 1 = .ok (.iload_n 1, 1) := by decide +kernel
theorem dX8_liableAnew_2 : decode cX8_liableAnew 2 = .ok (.invokevirtual 48, 3) := by decide +kernel
theorem dX8_liableAnew_5 : decode cX8_liableAnew 5 = .ok (.astore 4, 2) := by decide +kernel
theorem dX8_liableAnew_7 : decode cX8_liableAnew 7 = .ok (.aload 4, 2) := by decide +kernel
theorem dX8_liableAnew_9 : decode cX8_liableAnew 9 = .ok (.ifnonnull 7, 3) := by decide +kernel
theorem dX8_liableAnew_12 : decode cX8_liableAnew 12 = .ok (.aconst_null, 1) := by decide +kernel
theorem dX8_liableAnew_13 : decode cX8_liableAnew 13 = .ok (.goto 9, 3) := by decide +kernel
theorem dX8_liableAnew_16 : decode cX8_liableAnew 16 = .ok (.aload 4, 2) := by decide +kernel
theorem dX8_liableAnew_18 : decode cX8_liableAnew 18 = .ok (.iload_n 2, 1) := by decide +kernel
theorem dX8_liableAnew_19 : decode cX8_liableAnew 19 = .ok (.invokevirtual 135, 3) := by decide +kernel
theorem dX8_liableAnew_22 : decode cX8_liableAnew 22 = .ok (.astore 5, 2) := by decide +kernel
theorem dX8_liableAnew_24 : decode cX8_liableAnew 24 = .ok (.aload 4, 2) := by decide +kernel
theorem dX8_liableAnew_26 : decode cX8_liableAnew 26 = .ok (.ifnull 8, 3) := by decide +kernel
theorem dX8_liableAnew_29 : decode cX8_liableAnew 29 = .ok (.aload 5, 2) := by decide +kernel
theorem dX8_liableAnew_31 : decode cX8_liableAnew 31 = .ok (.ifnonnull 13, 3) := by decide +kernel
theorem dX8_liableAnew_34 : decode cX8_liableAnew 34 = .ok (.new 52, 3) := by decide +kernel
theorem dX8_liableAnew_37 : decode cX8_liableAnew 37 = .ok (.dup, 1) := by decide +kernel
theorem dX8_liableAnew_38 : decode cX8_liableAnew 38 = .ok (.ldc 189, 2) := by decide +kernel
theorem dX8_liableAnew_40 : decode cX8_liableAnew 40 = .ok (.invokespecial 56, 3) := by decide +kernel
theorem dX8_liableAnew_43 : decode cX8_liableAnew 43 = .ok (.athrow, 1) := by decide +kernel
theorem dX8_liableAnew_44 : decode cX8_liableAnew 44 = .ok (.iload_n 3, 1) := by decide +kernel
theorem dX8_liableAnew_45 : decode cX8_liableAnew 45 = .ok (.ifCond .lt 10, 3) := by decide +kernel
theorem dX8_liableAnew_48 : decode cX8_liableAnew 48 = .ok (.iload_n 3, 1) := by decide +kernel
theorem dX8_liableAnew_49 : decode cX8_liableAnew 49 = .ok (.sipush 300, 3) := by decide +kernel
theorem dX8_liableAnew_52 : decode cX8_liableAnew 52 = .ok (.if_icmp .le 14, 3) := by decide +kernel
theorem dX8_liableAnew_55 : decode cX8_liableAnew 55 = .ok (.new 59, 3) := by decide +kernel
theorem dX8_liableAnew_58 : decode cX8_liableAnew 58 = .ok (.dup, 1) := by decide +kernel
theorem dX8_liableAnew_59 : decode cX8_liableAnew 59 = .ok (.ldc_w 360, 3) := by decide +kernel
theorem dX8_liableAnew_62 : decode cX8_liableAnew 62 = .ok (.invokespecial 63, 3) := by decide +kernel
theorem dX8_liableAnew_65 : decode cX8_liableAnew 65 = .ok (.athrow, 1) := by decide +kernel
theorem dX8_liableAnew_66 : decode cX8_liableAnew 66 = .ok (.aconst_null, 1) := by decide +kernel
theorem dX8_liableAnew_67 : decode cX8_liableAnew 67 = .ok (.astore 6, 2) := by decide +kernel
theorem dX8_liableAnew_69 : decode cX8_liableAnew 69 = .ok (.iconst 0, 1) := by decide +kernel
theorem dX8_liableAnew_70 : decode cX8_liableAnew 70 = .ok (.istore 7, 2) := by decide +kernel
theorem dX8_liableAnew_72 : decode cX8_liableAnew 72 = .ok (.iconst 0, 1) := by decide +kernel
theorem dX8_liableAnew_73 : decode cX8_liableAnew 73 = .ok (.istore 8, 2) := by decide +kernel
theorem dX8_liableAnew_75 : decode cX8_liableAnew 75 = .ok (.iconst 0, 1) := by decide +kernel
theorem dX8_liableAnew_76 : decode cX8_liableAnew 76 = .ok (.istore 9, 2) := by decide +kernel
theorem dX8_liableAnew_78 : decode cX8_liableAnew 78 = .ok (.iload 9, 2) := by decide +kernel
theorem dX8_liableAnew_80 : decode cX8_liableAnew 80 = .ok (.aload_n 0, 1) := by decide +kernel
theorem dX8_liableAnew_81 : decode cX8_liableAnew 81 = .ok (.getfield 43, 3) := by decide +kernel
theorem dX8_liableAnew_84 : decode cX8_liableAnew 84 = .ok (.invokevirtual 91, 3) := by decide +kernel
theorem dX8_liableAnew_87 : decode cX8_liableAnew 87 = .ok (.if_icmp .ge 79, 3) := by decide +kernel
theorem dX8_liableAnew_90 : decode cX8_liableAnew 90 = .ok (.aload_n 0, 1) := by decide +kernel
theorem dX8_liableAnew_91 : decode cX8_liableAnew 91 = .ok (.getfield 43, 3) := by decide +kernel
theorem dX8_liableAnew_94 : decode cX8_liableAnew 94 = .ok (.iload 9, 2) := by decide +kernel
theorem dX8_liableAnew_96 : decode cX8_liableAnew 96 = .ok (.invokevirtual 390, 3) := by decide +kernel
theorem dX8_liableAnew_99 : decode cX8_liableAnew 99 = .ok (.checkcast 97, 3) := by decide +kernel
theorem dX8_liableAnew_102 : decode cX8_liableAnew 102 = .ok (.astore 10, 2) := by decide +kernel
theorem dX8_liableAnew_104 : decode cX8_liableAnew 104 = .ok (.aload 10, 2) := by decide +kernel
theorem dX8_liableAnew_106 : decode cX8_liableAnew 106 = .ok (.aload 4, 2) := by decide +kernel
theorem dX8_liableAnew_108 : decode cX8_liableAnew 108 = .ok (.iload_n 2, 1) := by decide +kernel
theorem dX8_liableAnew_109 : decode cX8_liableAnew 109 = .ok (.invokevirtual 394, 3) := by decide +kernel
theorem dX8_liableAnew_112 : decode cX8_liableAnew 112 = .ok (.ifCond .eq 35, 3) := by decide +kernel
theorem dX8_liableAnew_115 : decode cX8_liableAnew 115 = .ok (.aload 10, 2) := by decide +kernel
theorem dX8_liableAnew_117 : decode cX8_liableAnew 117 = .ok (.getfield 397, 3) := by decide +kernel
theorem dX8_liableAnew_120 : decode cX8_liableAnew 120 = .ok (.getfield 398, 3) := by decide +kernel
theorem dX8_liableAnew_123 : decode cX8_liableAnew 123 = .ok (.iload_n 3, 1) := by decide +kernel
theorem dX8_liableAnew_124 : decode cX8_liableAnew 124 = .ok (.if_icmp .lt 23, 3) := by decide +kernel
theorem dX8_liableAnew_127 : decode cX8_liableAnew 127 = .ok (.aload 10, 2) := by decide +kernel
theorem dX8_liableAnew_129 : decode cX8_liableAnew 129 = .ok (.getfield 397, 3) := by decide +kernel
theorem dX8_liableAnew_132 : decode cX8_liableAnew 132 = .ok (.astore 6, 2) := by decide +kernel
theorem dX8_liableAnew_134 : decode cX8_liableAnew 134 = .ok (.aload 10, 2) := by decide +kernel
theorem dX8_liableAnew_136 : decode cX8_liableAnew 136 = .ok (.getfield 401, 3) := by decide +kernel
theorem dX8_liableAnew_139 : decode cX8_liableAnew 139 = .ok (.istore 7, 2) := by decide +kernel
theorem dX8_liableAnew_141 : decode cX8_liableAnew 141 = .ok (.iconst 0, 1) := by decide +kernel
theorem dX8_liableAnew_142 : decode cX8_liableAnew 142 = .ok (.istore 8, 2) := by decide +kernel
theorem dX8_liableAnew_144 : decode cX8_liableAnew 144 = .ok (.goto 16, 3) := by decide +kernel
theorem dX8_liableAnew_147 : decode cX8_liableAnew 147 = .ok (.aload 10, 2) := by decide +kernel
theorem dX8_liableAnew_149 : decode cX8_liableAnew 149 = .ok (.aload 4, 2) := by decide +kernel
theorem dX8_liableAnew_151 : decode cX8_liableAnew 151 = .ok (.invokevirtual 404, 3) := by decide +kernel
theorem dX8_liableAnew_154 : decode cX8_liableAnew 154 = .ok (.ifCond .eq 6, 3) := by decide +kernel
theorem dX8_liableAnew_157 : decode cX8_liableAnew 157 = .ok (.iconst 1, 1) := by decide +kernel
theorem dX8_liableAnew_158 : decode cX8_liableAnew 158 = .ok (.istore 8, 2) := by decide +kernel
theorem dX8_liableAnew_160 : decode cX8_liableAnew 160 = .ok (.iinc 9 1, 3) := by decide +kernel
theorem dX8_liableAnew_163 : decode cX8_liableAnew 163 = .ok (.goto (-85), 3) := by decide +kernel
theorem dX8_liableAnew_166 : decode cX8_liableAnew 166 = .ok (.aload 6, 2) := by decide +kernel
theorem dX8_liableAnew_168 : decode cX8_liableAnew 168 = .ok (.ifnull 29, 3) := by decide +kernel
theorem dX8_liableAnew_171 : decode cX8_liableAnew 171 = .ok (.aload_n 0, 1) := by decide +kernel
theorem dX8_liableAnew_172 : decode cX8_liableAnew 172 = .ok (.invokevirtual 84, 3) := by decide +kernel
theorem dX8_liableAnew_175 : decode cX8_liableAnew 175 = .ok (.iload 7, 2) := by decide +kernel
theorem dX8_liableAnew_177 : decode cX8_liableAnew 177 = .ok (.isub, 1) := by decide +kernel
theorem dX8_liableAnew_178 : decode cX8_liableAnew 178 = .ok (.aload 6, 2) := by decide +kernel
theorem dX8_liableAnew_180 : decode cX8_liableAnew 180 = .ok (.invokevirtual 408, 3) := by decide +kernel
theorem dX8_liableAnew_183 : decode cX8_liableAnew 183 = .ok (.if_icmp .gt 14, 3) := by decide +kernel
theorem dX8_liableAnew_186 : decode cX8_liableAnew 186 = .ok (.iload 8, 2) := by decide +kernel
theorem dX8_liableAnew_188 : decode cX8_liableAnew 188 = .ok (.ifCond .eq 11, 3) := by decide +kernel
theorem dX8_liableAnew_191 : decode cX8_liableAnew 191 = .ok (.iload_n 3, 1) := by decide +kernel
theorem dX8_liableAnew_192 : decode cX8_liableAnew 192 = .ok (.bipush 10, 2) := by decide +kernel
theorem dX8_liableAnew_194 : decode cX8_liableAnew 194 = .ok (.if_icmp .ge 5, 3) := by decide +kernel
theorem dX8_liableAnew_197 : decode cX8_liableAnew 197 = .ok (.iconst (-1), 1) := by decide +kernel
theorem dX8_liableAnew_198 : decode cX8_liableAnew 198 = .ok (.ireturn, 1) := by decide +kernel
theorem dX8_liableAnew_199 : decode cX8_liableAnew 199 = .ok (.aload 6, 2) := by decide +kernel
theorem dX8_liableAnew_201 : decode cX8_liableAnew 201 = .ok (.getfield 218, 3) := by decide +kernel
theorem dX8_liableAnew_204 : decode cX8_liableAnew 204 = .ok (.ireturn, 1) := by decide +kernel
theorem dX8_bars_0 : decode cX8_bars 0 = .ok (.aload_n 0, 1) := by decide +kernel
theorem dX8_bars_1 : decode cX8_bars 1 = .ok (.iload_n 1, 1) := by decide +kernel
theorem dX8_bars_2 : decode cX8_bars 2 = .ok (.invokevirtual 221, 3) := by decide +kernel
theorem dX8_bars_5 : decode cX8_bars 5 = .ok (.astore_n 2, 1) := by decide +kernel
theorem dX8_bars_6 : decode cX8_bars 6 = .ok (.aload_n 2, 1) := by decide +kernel
theorem dX8_bars_7 : decode cX8_bars 7 = .ok (.ifnonnull 13, 3) := by decide +kernel
theorem dX8_bars_10 : decode cX8_bars 10 = .ok (.new 52, 3) := by decide +kernel
theorem dX8_bars_13 : decode cX8_bars 13 = .ok (.dup, 1) := by decide +kernel
theorem dX8_bars_14 : decode cX8_bars 14 = .ok (.ldc 225, 2) := by decide +kernel
theorem dX8_bars_16 : decode cX8_bars 16 = .ok (.invokespecial 56, 3) := by decide +kernel
theorem dX8_bars_19 : decode cX8_bars 19 = .ok (.athrow, 1) := by decide +kernel
theorem dX8_bars_20 : decode cX8_bars 20 = .ok (.aload_n 0, 1) := by decide +kernel
theorem dX8_bars_21 : decode cX8_bars 21 = .ok (.aload_n 2, 1) := by decide +kernel
theorem dX8_bars_22 : decode cX8_bars 22 = .ok (.invokevirtual 229, 3) := by decide +kernel
theorem dX8_bars_25 : decode cX8_bars 25 = .ok (.ireturn, 1) := by decide +kernel
theorem dX8_meets_0 : decode cX8_meets 0 = .ok (.aload_n 0, 1) := by decide +kernel
theorem dX8_meets_1 : decode cX8_meets 1 = .ok (.iload_n 1, 1) := by decide +kernel
theorem dX8_meets_2 : decode cX8_meets 2 = .ok (.invokevirtual 221, 3) := by decide +kernel
theorem dX8_meets_5 : decode cX8_meets 5 = .ok (.astore_n 3, 1) := by decide +kernel
theorem dX8_meets_6 : decode cX8_meets 6 = .ok (.aload_n 3, 1) := by decide +kernel
theorem dX8_meets_7 : decode cX8_meets 7 = .ok (.ifnonnull 13, 3) := by decide +kernel
theorem dX8_meets_10 : decode cX8_meets 10 = .ok (.new 52, 3) := by decide +kernel
theorem dX8_meets_13 : decode cX8_meets 13 = .ok (.dup, 1) := by decide +kernel
theorem dX8_meets_14 : decode cX8_meets 14 = .ok (.ldc 225, 2) := by decide +kernel
theorem dX8_meets_16 : decode cX8_meets 16 = .ok (.invokespecial 56, 3) := by decide +kernel
theorem dX8_meets_19 : decode cX8_meets 19 = .ok (.athrow, 1) := by decide +kernel
theorem dX8_meets_20 : decode cX8_meets 20 = .ok (.iload_n 2, 1) := by decide +kernel
theorem dX8_meets_21 : decode cX8_meets 21 = .ok (.ifCond .ge 14, 3) := by decide +kernel
theorem dX8_meets_24 : decode cX8_meets 24 = .ok (.new 59, 3) := by decide +kernel
theorem dX8_meets_27 : decode cX8_meets 27 = .ok (.dup, 1) := by decide +kernel
theorem dX8_meets_28 : decode cX8_meets 28 = .ok (.ldc_w 411, 3) := by decide +kernel
theorem dX8_meets_31 : decode cX8_meets 31 = .ok (.invokespecial 63, 3) := by decide +kernel
theorem dX8_meets_34 : decode cX8_meets 34 = .ok (.athrow, 1) := by decide +kernel
theorem dX8_meets_35 : decode cX8_meets 35 = .ok (.aload_n 0, 1) := by decide +kernel
theorem dX8_meets_36 : decode cX8_meets 36 = .ok (.aload_n 3, 1) := by decide +kernel
theorem dX8_meets_37 : decode cX8_meets 37 = .ok (.aload_n 3, 1) := by decide +kernel
theorem dX8_meets_38 : decode cX8_meets 38 = .ok (.aload_n 0, 1) := by decide +kernel
theorem dX8_meets_39 : decode cX8_meets 39 = .ok (.invokevirtual 84, 3) := by decide +kernel
theorem dX8_meets_42 : decode cX8_meets 42 = .ok (.invokevirtual 347, 3) := by decide +kernel
theorem dX8_meets_45 : decode cX8_meets 45 = .ok (.iload_n 2, 1) := by decide +kernel
theorem dX8_meets_46 : decode cX8_meets 46 = .ok (.iconst 0, 1) := by decide +kernel
theorem dX8_meets_47 : decode cX8_meets 47 = .ok (.invokevirtual 339, 3) := by decide +kernel
theorem dX8_meets_50 : decode cX8_meets 50 = .ok (.ireturn, 1) := by decide +kernel
theorem dX8_of_0 : decode cX8_of 0 = .ok (.aload_n 0, 1) := by decide +kernel
theorem dX8_of_1 : decode cX8_of 1 = .ok (.iload_n 1, 1) := by decide +kernel
theorem dX8_of_2 : decode cX8_of 2 = .ok (.invokevirtual 221, 3) := by decide +kernel
theorem dX8_of_5 : decode cX8_of 5 = .ok (.astore_n 3, 1) := by decide +kernel
theorem dX8_of_6 : decode cX8_of 6 = .ok (.aload_n 3, 1) := by decide +kernel
theorem dX8_of_7 : decode cX8_of 7 = .ok (.ifnonnull 13, 3) := by decide +kernel
theorem dX8_of_10 : decode cX8_of 10 = .ok (.new 52, 3) := by decide +kernel
theorem dX8_of_13 : decode cX8_of 13 = .ok (.dup, 1) := by decide +kernel
theorem dX8_of_14 : decode cX8_of 14 = .ok (.ldc 225, 2) := by decide +kernel
theorem dX8_of_16 : decode cX8_of 16 = .ok (.invokespecial 56, 3) := by decide +kernel
theorem dX8_of_19 : decode cX8_of 19 = .ok (.athrow, 1) := by decide +kernel
theorem dX8_of_20 : decode cX8_of 20 = .ok (.iload_n 2, 1) := by decide +kernel
theorem dX8_of_21 : decode cX8_of 21 = .ok (.tableswitch 103 0 7 #[47, 52, 57, 62, 67, 72, 77, 90], 47) := by decide +kernel
theorem dX8_of_68 : decode cX8_of 68 = .ok (.aload_n 3, 1) := by decide +kernel
theorem dX8_of_69 : decode cX8_of 69 = .ok (.getfield 118, 3) := by decide +kernel
theorem dX8_of_72 : decode cX8_of 72 = .ok (.ireturn, 1) := by decide +kernel
theorem dX8_of_73 : decode cX8_of 73 = .ok (.aload_n 3, 1) := by decide +kernel
theorem dX8_of_74 : decode cX8_of 74 = .ok (.getfield 124, 3) := by decide +kernel
theorem dX8_of_77 : decode cX8_of 77 = .ok (.ireturn, 1) := by decide +kernel
theorem dX8_of_78 : decode cX8_of 78 = .ok (.aload_n 3, 1) := by decide +kernel
theorem dX8_of_79 : decode cX8_of 79 = .ok (.getfield 249, 3) := by decide +kernel
theorem dX8_of_82 : decode cX8_of 82 = .ok (.ireturn, 1) := by decide +kernel
theorem dX8_of_83 : decode cX8_of 83 = .ok (.aload_n 3, 1) := by decide +kernel
theorem dX8_of_84 : decode cX8_of 84 = .ok (.getfield 252, 3) := by decide +kernel
theorem dX8_of_87 : decode cX8_of 87 = .ok (.ireturn, 1) := by decide +kernel
theorem dX8_of_88 : decode cX8_of 88 = .ok (.aload_n 3, 1) := by decide +kernel
theorem dX8_of_89 : decode cX8_of 89 = .ok (.getfield 328, 3) := by decide +kernel
theorem dX8_of_92 : decode cX8_of 92 = .ok (.ireturn, 1) := by decide +kernel
theorem dX8_of_93 : decode cX8_of 93 = .ok (.aload_n 3, 1) := by decide +kernel
theorem dX8_of_94 : decode cX8_of 94 = .ok (.getfield 300, 3) := by decide +kernel
theorem dX8_of_97 : decode cX8_of 97 = .ok (.ireturn, 1) := by decide +kernel
theorem dX8_of_98 : decode cX8_of 98 = .ok (.aload_n 3, 1) := by decide +kernel
theorem dX8_of_99 : decode cX8_of 99 = .ok (.getfield 277, 3) := by decide +kernel
theorem dX8_of_102 : decode cX8_of 102 = .ok (.ifCond .eq 7, 3) := by decide +kernel
theorem dX8_of_105 : decode cX8_of 105 = .ok (.iconst 1, 1) := by decide +kernel
theorem dX8_of_106 : decode cX8_of 106 = .ok (.goto 4, 3) := by decide +kernel
theorem dX8_of_109 : decode cX8_of 109 = .ok (.iconst 0, 1) := by decide +kernel
theorem dX8_of_110 : decode cX8_of 110 = .ok (.ireturn, 1) := by decide +kernel
theorem dX8_of_111 : decode cX8_of 111 = .ok (.aload_n 3, 1) := by decide +kernel
theorem dX8_of_112 : decode cX8_of 112 = .ok (.getfield 255, 3) := by decide +kernel
theorem dX8_of_115 : decode cX8_of 115 = .ok (.ifCond .eq 7, 3) := by decide +kernel
theorem dX8_of_118 : decode cX8_of 118 = .ok (.iconst 1, 1) := by decide +kernel
