theorem dX8_exempt_2 : decode cX8_exempt 2 = .ok (.invokevirtual 221, 3) := by decide +kernel
theorem dX8_exempt_5 : decode cX8_exempt 5 = .ok (.astore_n 2, 1) := by decide +kernel
theorem dX8_exempt_6 : decode cX8_exempt 6 = .ok (.aload_n 2, 1) := by decide +kernel
theorem dX8_exempt_7 : decode cX8_exempt 7 = .ok (.ifnonnull 13, 3) := by decide +kernel
theorem dX8_exempt_10 : decode cX8_exempt 10 = .ok (.new 52, 3) := by decide +kernel
theorem dX8_exempt_13 : decode cX8_exempt 13 = .ok (.dup, 1) := by decide +kernel
theorem dX8_exempt_14 : decode cX8_exempt 14 = .ok (.ldc 225, 2) := by decide +kernel
theorem dX8_exempt_16 : decode cX8_exempt 16 = .ok (.invokespecial 56, 3) := by decide +kernel
theorem dX8_exempt_19 : decode cX8_exempt 19 = .ok (.athrow, 1) := by decide +kernel
theorem dX8_exempt_20 : decode cX8_exempt 20 = .ok (.aload_n 2, 1) := by decide +kernel
theorem dX8_exempt_21 : decode cX8_exempt 21 = .ok (.aload_n 2, 1) := by decide +kernel
theorem dX8_exempt_22 : decode cX8_exempt 22 = .ok (.getfield 255, 3) := by decide +kernel
theorem dX8_exempt_25 : decode cX8_exempt 25 = .ok (.ifCond .ne 7, 3) := by decide +kernel
theorem dX8_exempt_28 : decode cX8_exempt 28 = .ok (.iconst 1, 1) := by decide +kernel
theorem dX8_exempt_29 : decode cX8_exempt 29 = .ok (.goto 4, 3) := by decide +kernel
theorem dX8_exempt_32 : decode cX8_exempt 32 = .ok (.iconst 0, 1) := by decide +kernel
theorem dX8_exempt_33 : decode cX8_exempt 33 = .ok (.putfield 255, 3) := by decide +kernel
theorem dX8_exempt_36 : decode cX8_exempt 36 = .ok (.aload_n 2, 1) := by decide +kernel
theorem dX8_exempt_37 : decode cX8_exempt 37 = .ok (.getfield 255, 3) := by decide +kernel
theorem dX8_exempt_40 : decode cX8_exempt 40 = .ok (.ireturn, 1) := by decide +kernel
theorem dX8_agree_0 : decode cX8_agree 0 = .ok (.aload_n 0, 1) := by decide +kernel
theorem dX8_agree_1 : decode cX8_agree 1 = .ok (.iload_n 1, 1) := by decide +kernel
theorem dX8_agree_2 : decode cX8_agree 2 = .ok (.invokevirtual 221, 3) := by decide +kernel
theorem dX8_agree_5 : decode cX8_agree 5 = .ok (.astore_n 3, 1) := by decide +kernel
theorem dX8_agree_6 : decode cX8_agree 6 = .ok (.aload_n 0, 1) := by decide +kernel
theorem dX8_agree_7 : decode cX8_agree 7 = .ok (.iload_n 2, 1) := by decide +kernel
theorem dX8_agree_8 : decode cX8_agree 8 = .ok (.invokevirtual 221, 3) := by decide +kernel
theorem dX8_agree_11 : decode cX8_agree 11 = .ok (.astore 4, 2) := by decide +kernel
theorem dX8_agree_13 : decode cX8_agree 13 = .ok (.aload_n 3, 1) := by decide +kernel
theorem dX8_agree_14 : decode cX8_agree 14 = .ok (.ifnull 8, 3) := by decide +kernel
theorem dX8_agree_17 : decode cX8_agree 17 = .ok (.aload 4, 2) := by decide +kernel
theorem dX8_agree_19 : decode cX8_agree 19 = .ok (.ifnonnull 13, 3) := by decide +kernel
theorem dX8_agree_22 : decode cX8_agree 22 = .ok (.new 52, 3) := by decide +kernel
theorem dX8_agree_25 : decode cX8_agree 25 = .ok (.dup, 1) := by decide +kernel
theorem dX8_agree_26 : decode cX8_agree 26 = .ok (.ldc 225, 2) := by decide +kernel
theorem dX8_agree_28 : decode cX8_agree 28 = .ok (.invokespecial 56, 3) := by decide +kernel
theorem dX8_agree_31 : decode cX8_agree 31 = .ok (.athrow, 1) := by decide +kernel
theorem dX8_agree_32 : decode cX8_agree 32 = .ok (.iload_n 1, 1) := by decide +kernel
theorem dX8_agree_33 : decode cX8_agree 33 = .ok (.iload_n 2, 1) := by decide +kernel
theorem dX8_agree_34 : decode cX8_agree 34 = .ok (.if_icmp .ne 14, 3) := by decide +kernel
theorem dX8_agree_37 : decode cX8_agree 37 = .ok (.new 59, 3) := by decide +kernel
theorem dX8_agree_40 : decode cX8_agree 40 = .ok (.dup, 1) := by decide +kernel
theorem dX8_agree_41 : decode cX8_agree 41 = .ok (.ldc_w 258, 3) := by decide +kernel
theorem dX8_agree_44 : decode cX8_agree 44 = .ok (.invokespecial 63, 3) := by decide +kernel
theorem dX8_agree_47 : decode cX8_agree 47 = .ok (.athrow, 1) := by decide +kernel
theorem dX8_agree_48 : decode cX8_agree 48 = .ok (.aload_n 3, 1) := by decide +kernel
theorem dX8_agree_49 : decode cX8_agree 49 = .ok (.dup, 1) := by decide +kernel
theorem dX8_agree_50 : decode cX8_agree 50 = .ok (.getfield 260, 3) := by decide +kernel
theorem dX8_agree_53 : decode cX8_agree 53 = .ok (.aload 4, 2) := by decide +kernel
theorem dX8_agree_55 : decode cX8_agree 55 = .ok (.invokevirtual 263, 3) := by decide +kernel
theorem dX8_agree_58 : decode cX8_agree 58 = .ok (.ixor, 1) := by decide +kernel
theorem dX8_agree_59 : decode cX8_agree 59 = .ok (.putfield 260, 3) := by decide +kernel
theorem dX8_agree_62 : decode cX8_agree 62 = .ok (.aload 4, 2) := by decide +kernel
theorem dX8_agree_64 : decode cX8_agree 64 = .ok (.dup, 1) := by decide +kernel
theorem dX8_agree_65 : decode cX8_agree 65 = .ok (.getfield 260, 3) := by decide +kernel
theorem dX8_agree_68 : decode cX8_agree 68 = .ok (.aload_n 3, 1) := by decide +kernel
theorem dX8_agree_69 : decode cX8_agree 69 = .ok (.invokevirtual 263, 3) := by decide +kernel
theorem dX8_agree_72 : decode cX8_agree 72 = .ok (.ixor, 1) := by decide +kernel
theorem dX8_agree_73 : decode cX8_agree 73 = .ok (.putfield 260, 3) := by decide +kernel
theorem dX8_agree_76 : decode cX8_agree 76 = .ok (.aload_n 3, 1) := by decide +kernel
theorem dX8_agree_77 : decode cX8_agree 77 = .ok (.aload 4, 2) := by decide +kernel
theorem dX8_agree_79 : decode cX8_agree 79 = .ok (.invokevirtual 266, 3) := by decide +kernel
theorem dX8_agree_82 : decode cX8_agree 82 = .ok (.ireturn, 1) := by decide +kernel
theorem dX8_start_0 : decode cX8_start 0 = .ok (.aload_n 0, 1) := by decide +kernel
theorem dX8_start_1 : decode cX8_start 1 = .ok (.iload_n 1, 1) := by decide +kernel
theorem dX8_start_2 : decode cX8_start 2 = .ok (.invokevirtual 221, 3) := by decide +kernel
theorem dX8_start_5 : decode cX8_start 5 = .ok (.astore_n 2, 1) := by decide +kernel
theorem dX8_start_6 : decode cX8_start 6 = .ok (.aload_n 2, 1) := by decide +kernel
theorem dX8_start_7 : decode cX8_start 7 = .ok (.ifnonnull 13, 3) := by decide +kernel
theorem dX8_start_10 : decode cX8_start 10 = .ok (.new 52, 3) := by decide +kernel
theorem dX8_start_13 : decode cX8_start 13 = .ok (.dup, 1) := by decide +kernel
theorem dX8_start_14 : decode cX8_start 14 = .ok (.ldc 225, 2) := by decide +kernel
theorem dX8_start_16 : decode cX8_start 16 = .ok (.invokespecial 56, 3) := by decide +kernel
theorem dX8_start_19 : decode cX8_start 19 = .ok (.athrow, 1) := by decide +kernel
theorem dX8_start_20 : decode cX8_start 20 = .ok (.aload_n 2, 1) := by decide +kernel
theorem dX8_start_21 : decode cX8_start 21 = .ok (.getfield 118, 3) := by decide +kernel
theorem dX8_start_24 : decode cX8_start 24 = .ok (.iconst 1, 1) := by decide +kernel
theorem dX8_start_25 : decode cX8_start 25 = .ok (.if_icmp .ne 25, 3) := by decide +kernel
theorem dX8_start_28 : decode cX8_start 28 = .ok (.aload_n 0, 1) := by decide +kernel
theorem dX8_start_29 : decode cX8_start 29 = .ok (.invokevirtual 84, 3) := by decide +kernel
theorem dX8_start_32 : decode cX8_start 32 = .ok (.aload_n 2, 1) := by decide +kernel
theorem dX8_start_33 : decode cX8_start 33 = .ok (.getfield 121, 3) := by decide +kernel
theorem dX8_start_36 : decode cX8_start 36 = .ok (.if_icmp .lt 14, 3) := by decide +kernel
theorem dX8_start_39 : decode cX8_start 39 = .ok (.aload_n 0, 1) := by decide +kernel
theorem dX8_start_40 : decode cX8_start 40 = .ok (.invokevirtual 84, 3) := by decide +kernel
theorem dX8_start_43 : decode cX8_start 43 = .ok (.aload_n 2, 1) := by decide +kernel
theorem dX8_start_44 : decode cX8_start 44 = .ok (.getfield 124, 3) := by decide +kernel
theorem dX8_start_47 : decode cX8_start 47 = .ok (.if_icmp .le 14, 3) := by decide +kernel
theorem dX8_start_50 : decode cX8_start 50 = .ok (.new 68, 3) := by decide +kernel
theorem dX8_start_53 : decode cX8_start 53 = .ok (.dup, 1) := by decide +kernel
theorem dX8_start_54 : decode cX8_start 54 = .ok (.ldc_w 270, 3) := by decide +kernel
theorem dX8_start_57 : decode cX8_start 57 = .ok (.invokespecial 72, 3) := by decide +kernel
theorem dX8_start_60 : decode cX8_start 60 = .ok (.athrow, 1) := by decide +kernel
theorem dX8_start_61 : decode cX8_start 61 = .ok (.aload_n 2, 1) := by decide +kernel
theorem dX8_start_62 : decode cX8_start 62 = .ok (.iconst 3, 1) := by decide +kernel
theorem dX8_start_63 : decode cX8_start 63 = .ok (.putfield 118, 3) := by decide +kernel
theorem dX8_start_66 : decode cX8_start 66 = .ok (.aload_n 2, 1) := by decide +kernel
theorem dX8_start_67 : decode cX8_start 67 = .ok (.getfield 124, 3) := by decide +kernel
theorem dX8_start_70 : decode cX8_start 70 = .ok (.ireturn, 1) := by decide +kernel
theorem dX8_open_0 : decode cX8_open 0 = .ok (.aload_n 0, 1) := by decide +kernel
theorem dX8_open_1 : decode cX8_open 1 = .ok (.iload_n 1, 1) := by decide +kernel
theorem dX8_open_2 : decode cX8_open 2 = .ok (.invokevirtual 221, 3) := by decide +kernel
theorem dX8_open_5 : decode cX8_open 5 = .ok (.astore_n 3, 1) := by decide +kernel
theorem dX8_open_6 : decode cX8_open 6 = .ok (.aload_n 3, 1) := by decide +kernel
theorem dX8_open_7 : decode cX8_open 7 = .ok (.ifnonnull 7, 3) := by decide +kernel
theorem dX8_open_10 : decode cX8_open 10 = .ok (.aconst_null, 1) := by decide +kernel
theorem dX8_open_11 : decode cX8_open 11 = .ok (.goto 8, 3) := by decide +kernel
theorem dX8_open_14 : decode cX8_open 14 = .ok (.aload_n 3, 1) := by decide +kernel
theorem dX8_open_15 : decode cX8_open 15 = .ok (.iload_n 2, 1) := by decide +kernel
theorem dX8_open_16 : decode cX8_open 16 = .ok (.invokevirtual 272, 3) := by decide +kernel
theorem dX8_open_19 : decode cX8_open 19 = .ok (.astore 4, 2) := by decide +kernel
theorem dX8_open_21 : decode cX8_open 21 = .ok (.aload_n 3, 1) := by decide +kernel
theorem dX8_open_22 : decode cX8_open 22 = .ok (.ifnull 8, 3) := by decide +kernel
theorem dX8_open_25 : decode cX8_open 25 = .ok (.aload 4, 2) := by decide +kernel
theorem dX8_open_27 : decode cX8_open 27 = .ok (.ifnonnull 14, 3) := by decide +kernel
theorem dX8_open_30 : decode cX8_open 30 = .ok (.new 52, 3) := by decide +kernel
theorem dX8_open_33 : decode cX8_open 33 = .ok (.dup, 1) := by decide +kernel
theorem dX8_open_34 : decode cX8_open 34 = .ok (.ldc_w 275, 3) := by decide +kernel
theorem dX8_open_37 : decode cX8_open 37 = .ok (.invokespecial 56, 3) := by decide +kernel
theorem dX8_open_40 : decode cX8_open 40 = .ok (.athrow, 1) := by decide +kernel
theorem dX8_open_41 : decode cX8_open 41 = .ok (.aload_n 3, 1) := by decide +kernel
theorem dX8_open_42 : decode cX8_open 42 = .ok (.getfield 118, 3) := by decide +kernel
theorem dX8_open_45 : decode cX8_open 45 = .ok (.iconst 3, 1) := by decide +kernel
theorem dX8_open_46 : decode cX8_open 46 = .ok (.if_icmp .ne 25, 3) := by decide +kernel
theorem dX8_open_49 : decode cX8_open 49 = .ok (.aload_n 3, 1) := by decide +kernel
theorem dX8_open_50 : decode cX8_open 50 = .ok (.getfield 277, 3) := by decide +kernel
theorem dX8_open_53 : decode cX8_open 53 = .ok (.ifCond .ne 18, 3) := by decide +kernel
theorem dX8_open_56 : decode cX8_open 56 = .ok (.aload_n 3, 1) := by decide +kernel
theorem dX8_open_57 : decode cX8_open 57 = .ok (.iconst 1, 1) := by decide +kernel
theorem dX8_open_58 : decode cX8_open 58 = .ok (.invokevirtual 280, 3) := by decide +kernel
theorem dX8_open_61 : decode cX8_open 61 = .ok (.ifCond .eq 21, 3) := by decide +kernel
theorem dX8_open_64 : decode cX8_open 64 = .ok (.aload_n 0, 1) := by decide +kernel
theorem dX8_open_65 : decode cX8_open 65 = .ok (.invokevirtual 283, 3) := by decide +kernel
theorem dX8_open_68 : decode cX8_open 68 = .ok (.ifCond .eq 14, 3) := by decide +kernel
theorem dX8_open_71 : decode cX8_open 71 = .ok (.new 68, 3) := by decide +kernel
theorem dX8_open_74 : decode cX8_open 74 = .ok (.dup, 1) := by decide +kernel
theorem dX8_open_75 : decode cX8_open 75 = .ok (.ldc_w 286, 3) := by decide +kernel
theorem dX8_open_78 : decode cX8_open 78 = .ok (.invokespecial 72, 3) := by decide +kernel
theorem dX8_open_81 : decode cX8_open 81 = .ok (.athrow, 1) := by decide +kernel
theorem dX8_open_82 : decode cX8_open 82 = .ok (.aload 4, 2) := by decide +kernel
theorem dX8_open_84 : decode cX8_open 84 = .ok (.getfield 288, 3) := by decide +kernel
theorem dX8_open_87 : decode cX8_open 87 = .ok (.iconst (-1), 1) := by decide +kernel
theorem dX8_open_88 : decode cX8_open 88 = .ok (.if_icmp .ne 23, 3) := by decide +kernel
theorem dX8_open_91 : decode cX8_open 91 = .ok (.aload 4, 2) := by decide +kernel
theorem dX8_open_93 : decode cX8_open 93 = .ok (.getfield 151, 3) := by decide +kernel
theorem dX8_open_96 : decode cX8_open 96 = .ok (.ifCond .ne 26, 3) := by decide +kernel
theorem dX8_open_99 : decode cX8_open 99 = .ok (.aload_n 0, 1) := by decide +kernel
theorem dX8_open_100 : decode cX8_open 100 = .ok (.aload_n 3, 1) := by decide +kernel
theorem dX8_open_101 : decode cX8_open 101 = .ok (.getfield 114, 3) := by decide +kernel
theorem dX8_open_104 : decode cX8_open 104 = .ok (.iload_n 2, 1) := by decide +kernel
theorem dX8_open_105 : decode cX8_open 105 = .ok (.invokevirtual 291, 3) := by decide +kernel
theorem dX8_open_108 : decode cX8_open 108 = .ok (.ifCond .eq 14, 3) := by decide +kernel
theorem dX8_open_111 : decode cX8_open 111 = .ok (.new 68, 3) := by decide +kernel
theorem dX8_open_114 : decode cX8_open 114 = .ok (.dup, 1) := by decide +kernel
theorem dX8_open_115 : decode cX8_open 115 = .ok (.ldc_w 294, 3) := by decide +kernel
theorem dX8_open_118 : decode cX8_open 118 = .ok (.invokespecial 72, 3) := by decide +kernel
theorem dX8_open_121 : decode cX8_open 121 = .ok (.athrow, 1) := by decide +kernel
theorem dX8_open_122 : decode cX8_open 122 = .ok (.aload 4, 2) := by decide +kernel
theorem dX8_open_124 : decode cX8_open 124 = .ok (.getfield 151, 3) := by decide +kernel
theorem dX8_open_127 : decode cX8_open 127 = .ok (.ifCond .eq 7, 3) := by decide +kernel
theorem dX8_open_130 : decode cX8_open 130 = .ok (.iconst 0, 1) := by decide +kernel
theorem dX8_open_131 : decode cX8_open 131 = .ok (.goto 9, 3) := by decide +kernel
theorem dX8_open_134 : decode cX8_open 134 = .ok (.aload_n 0, 1) := by decide +kernel
theorem dX8_open_135 : decode cX8_open 135 = .ok (.aload_n 3, 1) := by decide +kernel
theorem dX8_open_136 : decode cX8_open 136 = .ok (.iload_n 2, 1) := by decide +kernel
theorem dX8_open_137 : decode cX8_open 137 = .ok (.invokevirtual 296, 3) := by decide +kernel
theorem dX8_open_140 : decode cX8_open 140 = .ok (.istore 5, 2) := by decide +kernel
theorem dX8_open_142 : decode cX8_open 142 = .ok (.aload 4, 2) := by decide +kernel
theorem dX8_open_144 : decode cX8_open 144 = .ok (.iconst 1, 1) := by decide +kernel
theorem dX8_open_145 : decode cX8_open 145 = .ok (.putfield 151, 3) := by decide +kernel
theorem dX8_open_148 : decode cX8_open 148 = .ok (.aload 4, 2) := by decide +kernel
theorem dX8_open_150 : decode cX8_open 150 = .ok (.aload_n 3, 1) := by decide +kernel
theorem dX8_open_151 : decode cX8_open 151 = .ok (.getfield 218, 3) := by decide +kernel
theorem dX8_open_154 : decode cX8_open 154 = .ok (.putfield 288, 3) := by decide +kernel
theorem dX8_open_157 : decode cX8_open 157 = .ok (.aload_n 3, 1) := by decide +kernel
theorem dX8_open_158 : decode cX8_open 158 = .ok (.dup, 1) := by decide +kernel
theorem dX8_open_159 : decode cX8_open 159 = .ok (.getfield 300, 3) := by decide +kernel
theorem dX8_open_162 : decode cX8_open 162 = .ok (.iconst 1, 1) := by decide +kernel
theorem dX8_open_163 : decode cX8_open 163 = .ok (.iadd, 1) := by decide +kernel
theorem dX8_open_164 : decode cX8_open 164 = .ok (.putfield 300, 3) := by decide +kernel
theorem dX8_open_167 : decode cX8_open 167 = .ok (.iload 5, 2) := by decide +kernel
theorem dX8_open_169 : decode cX8_open 169 = .ok (.ireturn, 1) := by decide +kernel
theorem dX8_fill_0 : decode cX8_fill 0 = .ok (.aload_n 0, 1) := by decide +kernel
theorem dX8_fill_1 : decode cX8_fill 1 = .ok (.iload_n 1, 1) := by decide +kernel
theorem dX8_fill_2 : decode cX8_fill 2 = .ok (.invokevirtual 221, 3) := by decide +kernel
theorem dX8_fill_5 : decode cX8_fill 5 = .ok (.astore 4, 2) := by decide +kernel
theorem dX8_fill_7 : decode cX8_fill 7 = .ok (.aload 4, 2) := by decide +kernel
theorem dX8_fill_9 : decode cX8_fill 9 = .ok (.ifnonnull 7, 3) := by decide +kernel
theorem dX8_fill_12 : decode cX8_fill 12 = .ok (.aconst_null, 1) := by decide +kernel
theorem dX8_fill_13 : decode cX8_fill 13 = .ok (.goto 9, 3) := by decide +kernel
theorem dX8_fill_16 : decode cX8_fill 16 = .ok (.aload 4, 2) := by decide +kernel
theorem dX8_fill_18 : decode cX8_fill 18 = .ok (.iload_n 2, 1) := by decide +kernel
theorem dX8_fill_19 : decode cX8_fill 19 = .ok (.invokevirtual 272, 3) := by decide +kernel
theorem dX8_fill_22 : decode cX8_fill 22 = .ok (.astore 5, 2) := by decide +kernel
theorem dX8_fill_24 : decode cX8_fill 24 = .ok (.aload 4, 2) := by decide +kernel
theorem dX8_fill_26 : decode cX8_fill 26 = .ok (.ifnull 8, 3) := by decide +kernel
theorem dX8_fill_29 : decode cX8_fill 29 = .ok (.aload 5, 2) := by decide +kernel
theorem dX8_fill_31 : decode cX8_fill 31 = .ok (.ifnonnull 14, 3) := by decide +kernel
theorem dX8_fill_34 : decode cX8_fill 34 = .ok (.new 52, 3) := by decide +kernel
theorem dX8_fill_37 : decode cX8_fill 37 = .ok (.dup, 1) := by decide +kernel
theorem dX8_fill_38 : decode cX8_fill 38 = .ok (.ldc_w 275, 3) := by decide +kernel
theorem dX8_fill_41 : decode cX8_fill 41 = .ok (.invokespecial 56, 3) := by decide +kernel
theorem dX8_fill_44 : decode cX8_fill 44 = .ok (.athrow, 1) := by decide +kernel
theorem dX8_fill_45 : decode cX8_fill 45 = .ok (.iload_n 3, 1) := by decide +kernel
theorem dX8_fill_46 : decode cX8_fill 46 = .ok (.ifCond .lt 9, 3) := by decide +kernel
theorem dX8_fill_49 : decode cX8_fill 49 = .ok (.iload_n 3, 1) := by decide +kernel
theorem dX8_fill_50 : decode cX8_fill 50 = .ok (.bipush 100, 2) := by decide +kernel
theorem dX8_fill_52 : decode cX8_fill 52 = .ok (.if_icmp .le 14, 3) := by decide +kernel
theorem dX8_fill_55 : decode cX8_fill 55 = .ok (.new 59, 3) := by decide +kernel
theorem dX8_fill_58 : decode cX8_fill 58 = .ok (.dup, 1) := by decide +kernel
theorem dX8_fill_59 : decode cX8_fill 59 = .ok (.ldc_w 303, 3) := by decide +kernel
theorem dX8_fill_62 : decode cX8_fill 62 = .ok (.invokespecial 63, 3) := by decide +kernel
theorem dX8_fill_65 : decode cX8_fill 65 = .ok (.athrow, 1) := by decide +kernel
theorem dX8_fill_66 : decode cX8_fill 66 = .ok (.aload 5, 2) := by decide +kernel
theorem dX8_fill_68 : decode cX8_fill 68 = .ok (.getfield 288, 3) := by decide +kernel
theorem dX8_fill_71 : decode cX8_fill 71 = .ok (.aload 4, 2) := by decide +kernel
theorem dX8_fill_73 : decode cX8_fill 73 = .ok (.getfield 218, 3) := by decide +kernel
theorem dX8_fill_76 : decode cX8_fill 76 = .ok (.if_icmp .eq 14, 3) := by decide +kernel
theorem dX8_fill_79 : decode cX8_fill 79 = .ok (.new 68, 3) := by decide +kernel
theorem dX8_fill_82 : decode cX8_fill 82 = .ok (.dup, 1) := by decide +kernel
theorem dX8_fill_83 : decode cX8_fill 83 = .ok (.ldc_w 305, 3) := by decide +kernel
theorem dX8_fill_86 : decode cX8_fill 86 = .ok (.invokespecial 72, 3) := by decide +kernel
theorem dX8_fill_89 : decode cX8_fill 89 = .ok (.athrow, 1) := by decide +kernel
theorem dX8_fill_90 : decode cX8_fill 90 = .ok (.aload 5, 2) := by decide +kernel
theorem dX8_fill_92 : decode cX8_fill 92 = .ok (.iconst (-1), 1) := by decide +kernel
theorem dX8_fill_93 : decode cX8_fill 93 = .ok (.putfield 288, 3) := by decide +kernel
theorem dX8_fill_96 : decode cX8_fill 96 = .ok (.aload 4, 2) := by decide +kernel
theorem dX8_fill_98 : decode cX8_fill 98 = .ok (.dup, 1) := by decide +kernel
theorem dX8_fill_99 : decode cX8_fill 99 = .ok (.getfield 300, 3) := by decide +kernel
theorem dX8_fill_102 : decode cX8_fill 102 = .ok (.iconst 1, 1) := by decide +kernel
theorem dX8_fill_103 : decode cX8_fill 103 = .ok (.isub, 1) := by decide +kernel
theorem dX8_fill_104 : decode cX8_fill 104 = .ok (.putfield 300, 3) := by decide +kernel
theorem dX8_fill_107 : decode cX8_fill 107 = .ok (.aload_n 0, 1) := by decide +kernel
theorem dX8_fill_108 : decode cX8_fill 108 = .ok (.getfield 43, 3) := by decide +kernel
theorem dX8_fill_111 : decode cX8_fill 111 = .ok (.invokevirtual 91, 3) := by decide +kernel
theorem dX8_fill_114 : decode cX8_fill 114 = .ok (.sipush 512, 3) := by decide +kernel
theorem dX8_fill_117 : decode cX8_fill 117 = .ok (.if_icmp .ge 77, 3) := by decide +kernel
theorem dX8_fill_120 : decode cX8_fill 120 = .ok (.aload 5, 2) := by decide +kernel
theorem dX8_fill_122 : decode cX8_fill 122 = .ok (.new 307, 3) := by decide +kernel
theorem dX8_fill_125 : decode cX8_fill 125 = .ok (.dup, 1) := by decide +kernel
theorem dX8_fill_126 : decode cX8_fill 126 = .ok (.aload 4, 2) := by decide +kernel
theorem dX8_fill_128 : decode cX8_fill 128 = .ok (.aload_n 0, 1) := by decide +kernel
theorem dX8_fill_129 : decode cX8_fill 129 = .ok (.invokevirtual 84, 3) := by decide +kernel
theorem dX8_fill_132 : decode cX8_fill 132 = .ok (.iload_n 3, 1) := by decide +kernel
theorem dX8_fill_133 : decode cX8_fill 133 = .ok (.aload_n 0, 1) := by decide +kernel
theorem dX8_fill_134 : decode cX8_fill 134 = .ok (.getfield 43, 3) := by decide +kernel
theorem dX8_fill_137 : decode cX8_fill 137 = .ok (.invokevirtual 91, 3) := by decide +kernel
theorem dX8_fill_140 : decode cX8_fill 140 = .ok (.aload 5, 2) := by decide +kernel
theorem dX8_fill_142 : decode cX8_fill 142 = .ok (.getfield 309, 3) := by decide +kernel
theorem dX8_fill_145 : decode cX8_fill 145 = .ok (.invokespecial 313, 3) := by decide +kernel
theorem dX8_fill_148 : decode cX8_fill 148 = .ok (.putfield 309, 3) := by decide +kernel
theorem dX8_fill_151 : decode cX8_fill 151 = .ok (.aload 5, 2) := by decide +kernel
theorem dX8_fill_153 : decode cX8_fill 153 = .ok (.dup, 1) := by decide +kernel
theorem dX8_fill_154 : decode cX8_fill 154 = .ok (.getfield 316, 3) := by decide +kernel
theorem dX8_fill_157 : decode cX8_fill 157 = .ok (.iconst 1, 1) := by decide +kernel
theorem dX8_fill_158 : decode cX8_fill 158 = .ok (.iadd, 1) := by decide +kernel
theorem dX8_fill_159 : decode cX8_fill 159 = .ok (.putfield 316, 3) := by decide +kernel
theorem dX8_fill_162 : decode cX8_fill 162 = .ok (.aload_n 0, 1) := by decide +kernel
theorem dX8_fill_163 : decode cX8_fill 163 = .ok (.new 97, 3) := by decide +kernel
theorem dX8_fill_166 : decode cX8_fill 166 = .ok (.dup, 1) := by decide +kernel
theorem dX8_fill_167 : decode cX8_fill 167 = .ok (.aload 4, 2) := by decide +kernel
theorem dX8_fill_169 : decode cX8_fill 169 = .ok (.getfield 114, 3) := by decide +kernel
theorem dX8_fill_172 : decode cX8_fill 172 = .ok (.iload_n 2, 1) := by decide +kernel
theorem dX8_fill_173 : decode cX8_fill 173 = .ok (.aload 4, 2) := by decide +kernel
theorem dX8_fill_175 : decode cX8_fill 175 = .ok (.aload_n 0, 1) := by decide +kernel
theorem dX8_fill_176 : decode cX8_fill 176 = .ok (.invokevirtual 84, 3) := by decide +kernel
theorem dX8_fill_179 : decode cX8_fill 179 = .ok (.invokespecial 99, 3) := by decide +kernel
theorem dX8_fill_182 : decode cX8_fill 182 = .ok (.invokevirtual 102, 3) := by decide +kernel
theorem dX8_fill_185 : decode cX8_fill 185 = .ok (.aload_n 0, 1) := by decide +kernel
theorem dX8_fill_186 : decode cX8_fill 186 = .ok (.aload 4, 2) := by decide +kernel
theorem dX8_fill_188 : decode cX8_fill 188 = .ok (.getfield 319, 3) := by decide +kernel
theorem dX8_fill_191 : decode cX8_fill 191 = .ok (.invokevirtual 322, 3) := by decide +kernel
theorem dX8_fill_194 : decode cX8_fill 194 = .ok (.aload 5, 2) := by decide +kernel
theorem dX8_fill_196 : decode cX8_fill 196 = .ok (.getfield 316, 3) := by decide +kernel
theorem dX8_fill_199 : decode cX8_fill 199 = .ok (.ireturn, 1) := by decide +kernel
theorem dX8_plate_0 : decode cX8_plate 0 = .ok (.aload_n 0, 1) := by decide +kernel
theorem dX8_plate_1 : decode cX8_plate 1 = .ok (.iload_n 1, 1) := by decide +kernel
theorem dX8_plate_2 : decode cX8_plate 2 = .ok (.invokevirtual 221, 3) := by decide +kernel
theorem dX8_plate_5 : decode cX8_plate 5 = .ok (.astore_n 2, 1) := by decide +kernel
theorem dX8_plate_6 : decode cX8_plate 6 = .ok (.aload_n 2, 1) := by decide +kernel
theorem dX8_plate_7 : decode cX8_plate 7 = .ok (.ifnonnull 13, 3) := by decide +kernel
theorem dX8_plate_10 : decode cX8_plate 10 = .ok (.new 52, 3) := by decide +kernel
theorem dX8_plate_13 : decode cX8_plate 13 = .ok (.dup, 1) := by decide +kernel
