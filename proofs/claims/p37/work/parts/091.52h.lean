theorem dX8_liable_40 : decode cX8_liable 40 = .ok (.invokespecial 56, 3) := by decide +kernel
theorem dX8_liable_43 : decode cX8_liable 43 = .ok (.athrow, 1) := by decide +kernel
theorem dX8_liable_44 : decode cX8_liable 44 = .ok (.iload_n 3, 1) := by decide +kernel
theorem dX8_liable_45 : decode cX8_liable 45 = .ok (.ifCond .lt 10, 3) := by decide +kernel
theorem dX8_liable_48 : decode cX8_liable 48 = .ok (.iload_n 3, 1) := by decide +kernel
theorem dX8_liable_49 : decode cX8_liable 49 = .ok (.sipush 300, 3) := by decide +kernel
theorem dX8_liable_52 : decode cX8_liable 52 = .ok (.if_icmp .le 14, 3) := by decide +kernel
theorem dX8_liable_55 : decode cX8_liable 55 = .ok (.new 59, 3) := by decide +kernel
theorem dX8_liable_58 : decode cX8_liable 58 = .ok (.dup, 1) := by decide +kernel
theorem dX8_liable_59 : decode cX8_liable 59 = .ok (.ldc_w 360, 3) := by decide +kernel
theorem dX8_liable_62 : decode cX8_liable 62 = .ok (.invokespecial 63, 3) := by decide +kernel
theorem dX8_liable_65 : decode cX8_liable 65 = .ok (.athrow, 1) := by decide +kernel
theorem dX8_liable_66 : decode cX8_liable 66 = .ok (.aload_n 0, 1) := by decide +kernel
theorem dX8_liable_67 : decode cX8_liable 67 = .ok (.aload 4, 2) := by decide +kernel
theorem dX8_liable_69 : decode cX8_liable 69 = .ok (.aload 5, 2) := by decide +kernel
theorem dX8_liable_71 : decode cX8_liable 71 = .ok (.iload_n 3, 1) := by decide +kernel
theorem dX8_liable_72 : decode cX8_liable 72 = .ok (.invokevirtual 362, 3) := by decide +kernel
theorem dX8_liable_75 : decode cX8_liable 75 = .ok (.invokestatic 387, 3) := by decide +kernel
theorem dX8_liable_78 : decode cX8_liable 78 = .ok (.ireturn, 1) := by decide +kernel
theorem dX8_liableAnew_0 : decode cX8_liableAnew 0 = .ok (.aload_n 0, 1) := by decide +kernel
theorem dX8_liableAnew_1 : decode cX8_liableAnew 1 = .ok (.iload_n 1, 1) := by decide +kernel
theorem dX8_liableAnew_2 : decode cX8_liableAnew 2 = .ok (.invokevirtual 48, 3) := by decide +kernel
theorem dX8_liableAnew_5 : decode cX8_liableAnew 5 = .ok (.astore 4, 2) := by decide +kernel
theorem dX8_liableAnew_7 : decode cX8_liableAnew 7 = .ok (.aload 4, 2) := by decide +kernel
theorem dX8_liableAnew_9 : decode cX8_liableAnew 9 = .ok (.ifnonnull 7, 3) := by decide +kernel
theorem dX8_liableAnew_12 : decode cX8_liableAnew 12 = .ok (.aconst_null, 1) := by decide +kernel
theorem dX8_liableAnew_13 : decode cX8_liableAnew 13 = .ok (.goto 9, 3) := by decide +kernel
theorem dX8_liableAnew_16 : decode cX8_liableAnew 16 = .ok (.aload 4, 2) := by decide +kernel
theorem dX8_liableAnew_18 : decode cX8_liableAnew 18 = .ok (.iload_n 2, 1) := by decide +kernel
theorem dX8_liableAnew_19 : decode cX8_liableAnew 19 = .ok (.invokevirtual 135, 3) := by decide +kernel
theorem dX8_liableAnew_22 : decode cX8_liableAnew 22 = .ok (.astore 5, 2) := by decide +kernel
theorem dX8_liableAnew_24 : decode cX8_liableAnew 24 = .ok (.aload 4, 2) := by decide +kernel
theorem dX8_liableAnew_26 : decode cX8_liableAnew 26 = .ok (.ifnull 8, 3) := by decide +kernel
theorem dX8_liableAnew_29 : decode cX8_liableAnew 29 = .ok (.aload 5, 2) := by decide +kernel
theorem dX8_liableAnew_31 : decode cX8_liableAnew 31 = .ok (.ifnonnull 13, 3) := by decide +kernel
theorem dX8_liableAnew_34 : decode cX8_liableAnew 34 = .ok (.new 52, 3) := by decide +kernel
theorem dX8_liableAnew_37 : decode cX8_liableAnew 37 = .ok (.dup, 1) := by decide +kernel
theorem dX8_liableAnew_38 : decode cX8_liableAnew 38 = .ok (.ldc 189, 2) := by decide +kernel
theorem dX8_liableAnew_40 : decode cX8_liableAnew 40 = .ok (.invokespecial 56, 3) := by decide +kernel
theorem dX8_liableAnew_43 : decode cX8_liableAnew 43 = .ok (.athrow, 1) := by decide +kernel
theorem dX8_liableAnew_44 : decode cX8_liableAnew 44 = .ok (.iload_n 3, 1) := by decide +kernel
theorem dX8_liableAnew_45 : decode cX8_liableAnew 45 = .ok (.ifCond .lt 10, 3) := by decide +kernel
theorem dX8_liableAnew_48 : decode cX8_liableAnew 48 = .ok (.iload_n 3, 1) := by decide +kernel
theorem dX8_liableAnew_49 : decode cX8_liableAnew 49 = .ok (.sipush 300, 3) := by decide +kernel
theorem dX8_liableAnew_52 : decode cX8_liableAnew 52 = .ok (.if_icmp .le 14, 3) := by decide +kernel
theorem dX8_liableAnew_55 : decode cX8_liableAnew 55 = .ok (.new 59, 3) := by decide +kernel
theorem dX8_liableAnew_58 : decode cX8_liableAnew 58 = .ok (.dup, 1) := by decide +kernel
theorem dX8_liableAnew_59 : decode cX8_liableAnew 59 = .ok (.ldc_w 360, 3) := by decide +kernel
theorem dX8_liableAnew_62 : decode cX8_liableAnew 62 = .ok (.invokespecial 63, 3) := by decide +kernel
theorem dX8_liableAnew_65 : decode cX8_liableAnew 65 = .ok (.athrow, 1) := by decide +kernel
theorem dX8_liableAnew_66 : decode cX8_liableAnew 66 = .ok (.aconst_null, 1) := by decide +kernel
theorem dX8_liableAnew_67 : decode cX8_liableAnew 67 = .ok (.astore 6, 2) := by decide +kernel
theorem dX8_liableAnew_69 : decode cX8_liableAnew 69 = .ok (.iconst 0, 1) := by decide +kernel
theorem dX8_liableAnew_70 : decode cX8_liableAnew 70 = .ok (.istore 7, 2) := by decide +kernel
theorem dX8_liableAnew_72 : decode cX8_liableAnew 72 = .ok (.iconst 0, 1) := by decide +kernel
theorem dX8_liableAnew_73 : decode cX8_liableAnew 73 = .ok (.istore 8, 2) := by decide +kernel
theorem dX8_liableAnew_75 : decode cX8_liableAnew 75 = .ok (.iconst 0, 1) := by decide +kernel
theorem dX8_liableAnew_76 : decode cX8_liableAnew 76 = .ok (.istore 9, 2) := by decide +kernel
theorem dX8_liableAnew_78 : decode cX8_liableAnew 78 = .ok (.iload 9, 2) := by decide +kernel
theorem dX8_liableAnew_80 : decode cX8_liableAnew 80 = .ok (.aload_n 0, 1) := by decide +kernel
theorem dX8_liableAnew_81 : decode cX8_liableAnew 81 = .ok (.getfield 43, 3) := by decide +kernel
theorem dX8_liableAnew_84 : decode cX8_liableAnew 84 = .ok (.invokevirtual 91, 3) := by decide +kernel
theorem dX8_liableAnew_87 : decode cX8_liableAnew 87 = .ok (.if_icmp .ge 79, 3) := by decide +kernel
theorem dX8_liableAnew_90 : decode cX8_liableAnew 90 = .ok (.aload_n 0, 1) := by decide +kernel
theorem dX8_liableAnew_91 : decode cX8_liableAnew 91 = .ok (.getfield 43, 3) := by decide +kernel
theorem dX8_liableAnew_94 : decode cX8_liableAnew 94 = .ok (.iload 9, 2) := by decide +kernel
theorem dX8_liableAnew_96 : decode cX8_liableAnew 96 = .ok (.invokevirtual 390, 3) := by decide +kernel
theorem dX8_liableAnew_99 : decode cX8_liableAnew 99 = .ok (.checkcast 97, 3) := by decide +kernel
theorem dX8_liableAnew_102 : decode cX8_liableAnew 102 = .ok (.astore 10, 2) := by decide +kernel
theorem dX8_liableAnew_104 : decode cX8_liableAnew 104 = .ok (.aload 10, 2) := by decide +kernel
theorem dX8_liableAnew_106 : decode cX8_liableAnew 106 = .ok (.aload 4, 2) := by decide +kernel
theorem dX8_liableAnew_108 : decode cX8_liableAnew 108 = .ok (.iload_n 2, 1) := by decide +kernel
theorem dX8_liableAnew_109 : decode cX8_liableAnew 109 = .ok (.invokevirtual 394, 3) := by decide +kernel
theorem dX8_liableAnew_112 : decode cX8_liableAnew 112 = .ok (.ifCond .eq 35, 3) := by decide +kernel
theorem dX8_liableAnew_115 : decode cX8_liableAnew 115 = .ok (.aload 10, 2) := by decide +kernel
theorem dX8_liableAnew_117 : decode cX8_liableAnew 117 = .ok (.getfield 397, 3) := by decide +kernel
theorem dX8_liableAnew_120 : decode cX8_liableAnew 120 = .ok (.getfield 398, 3) := by decide +kernel
theorem dX8_liableAnew_123 : decode cX8_liableAnew 123 = .ok (.iload_n 3, 1) := by decide +kernel
theorem dX8_liableAnew_124 : decode cX8_liableAnew 124 = .ok (.if_icmp .lt 23, 3) := by decide +kernel
theorem dX8_liableAnew_127 : decode cX8_liableAnew 127 = .ok (.aload 10, 2) := by decide +kernel
theorem dX8_liableAnew_129 : decode cX8_liableAnew 129 = .ok (.getfield 397, 3) := by decide +kernel
theorem dX8_liableAnew_132 : decode cX8_liableAnew 132 = .ok (.astore 6, 2) := by decide +kernel
theorem dX8_liableAnew_134 : decode cX8_liableAnew 134 = .ok (.aload 10, 2) := by decide +kernel
theorem dX8_liableAnew_136 : decode cX8_liableAnew 136 = .ok (.getfield 401, 3) := by decide +kernel
theorem dX8_liableAnew_139 : decode cX8_liableAnew 139 = .ok (.istore 7, 2) := by decide +kernel
theorem dX8_liableAnew_141 : decode cX8_liableAnew 141 = .ok (.iconst 0, 1) := by decide +kernel
theorem dX8_liableAnew_142 : decode cX8_liableAnew 142 = .ok (.istore 8, 2) := by decide +kernel
theorem dX8_liableAnew_144 : decode cX8_liableAnew 144 = .ok (.goto 16, 3) := by decide +kernel
theorem dX8_liableAnew_147 : decode cX8_liableAnew 147 = .ok (.aload 10, 2) := by decide +kernel
theorem dX8_liableAnew_149 : decode cX8_liableAnew 149 = .ok (.aload 4, 2) := by decide +kernel
theorem dX8_liableAnew_151 : decode cX8_liableAnew 151 = .ok (.invokevirtual 404, 3) := by decide +kernel
theorem dX8_liableAnew_154 : decode cX8_liableAnew 154 = .ok (.ifCond .eq 6, 3) := by decide +kernel
theorem dX8_liableAnew_157 : decode cX8_liableAnew 157 = .ok (.iconst 1, 1) := by decide +kernel
theorem dX8_liableAnew_158 : decode cX8_liableAnew 158 = .ok (.istore 8, 2) := by decide +kernel
theorem dX8_liableAnew_160 : decode cX8_liableAnew 160 = .ok (.iinc 9 1, 3) := by decide +kernel
theorem dX8_liableAnew_163 : decode cX8_liableAnew 163 = .ok (.goto (-85), 3) := by decide +kernel
theorem dX8_liableAnew_166 : decode cX8_liableAnew 166 = .ok (.aload 6, 2) := by decide +kernel
theorem dX8_liableAnew_168 : decode cX8_liableAnew 168 = .ok (.ifnull 29, 3) := by decide +kernel
theorem dX8_liableAnew_171 : decode cX8_liableAnew 171 = .ok (.aload_n 0, 1) := by decide +kernel
theorem dX8_liableAnew_172 : decode cX8_liableAnew 172 = .ok (.invokevirtual 84, 3) := by decide +kernel
theorem dX8_liableAnew_175 : decode cX8_liableAnew 175 = .ok (.iload 7, 2) := by decide +kernel
theorem dX8_liableAnew_177 : decode cX8_liableAnew 177 = .ok (.isub, 1) := by decide +kernel
theorem dX8_liableAnew_178 : decode cX8_liableAnew 178 = .ok (.aload 6, 2) := by decide +kernel
theorem dX8_liableAnew_180 : decode cX8_liableAnew 180 = .ok (.invokevirtual 408, 3) := by decide +kernel
theorem dX8_liableAnew_183 : decode cX8_liableAnew 183 = .ok (.if_icmp .gt 14, 3) := by decide +kernel
theorem dX8_liableAnew_186 : decode cX8_liableAnew 186 = .ok (.iload 8, 2) := by decide +kernel
theorem dX8_liableAnew_188 : decode cX8_liableAnew 188 = .ok (.ifCond .eq 11, 3) := by decide +kernel
theorem dX8_liableAnew_191 : decode cX8_liableAnew 191 = .ok (.iload_n 3, 1) := by decide +kernel
theorem dX8_liableAnew_192 : decode cX8_liableAnew 192 = .ok (.bipush 10, 2) := by decide +kernel
theorem dX8_liableAnew_194 : decode cX8_liableAnew 194 = .ok (.if_icmp .ge 5, 3) := by decide +kernel
theorem dX8_liableAnew_197 : decode cX8_liableAnew 197 = .ok (.iconst (-1), 1) := by decide +kernel
theorem dX8_liableAnew_198 : decode cX8_liableAnew 198 = .ok (.ireturn, 1) := by decide +kernel
theorem dX8_liableAnew_199 : decode cX8_liableAnew 199 = .ok (.aload 6, 2) := by decide +kernel
theorem dX8_liableAnew_201 : decode cX8_liableAnew 201 = .ok (.getfield 218, 3) := by decide +kernel
theorem dX8_liableAnew_204 : decode cX8_liableAnew 204 = .ok (.ireturn, 1) := by decide +kernel
theorem dX8_bars_0 : decode cX8_bars 0 = .ok (.aload_n 0, 1) := by decide +kernel
theorem dX8_bars_1 : decode cX8_bars 1 = .ok (.iload_n 1, 1) := by decide +kernel
theorem dX8_bars_2 : decode cX8_bars 2 = .ok (.invokevirtual 221, 3) := by decide +kernel
theorem dX8_bars_5 : decode cX8_bars 5 = .ok (.astore_n 2, 1) := by decide +kernel
theorem dX8_bars_6 : decode cX8_bars 6 = .ok (.aload_n 2, 1) := by decide +kernel
theorem dX8_bars_7 : decode cX8_bars 7 = .ok (.ifnonnull 13, 3) := by decide +kernel
theorem dX8_bars_10 : decode cX8_bars 10 = .ok (.new 52, 3) := by decide +kernel
theorem dX8_bars_13 : decode cX8_bars 13 = .ok (.dup, 1) := by decide +kernel
theorem dX8_bars_14 : decode cX8_bars 14 = .ok (.ldc 225, 2) := by decide +kernel
theorem dX8_bars_16 : decode cX8_bars 16 = .ok (.invokespecial 56, 3) := by decide +kernel
theorem dX8_bars_19 : decode cX8_bars 19 = .ok (.athrow, 1) := by decide +kernel
theorem dX8_bars_20 : decode cX8_bars 20 = .ok (.aload_n 0, 1) := by decide +kernel
theorem dX8_bars_21 : decode cX8_bars 21 = .ok (.aload_n 2, 1) := by decide +kernel
theorem dX8_bars_22 : decode cX8_bars 22 = .ok (.invokevirtual 229, 3) := by decide +kernel
theorem dX8_bars_25 : decode cX8_bars 25 = .ok (.ireturn, 1) := by decide +kernel
theorem dX8_meets_0 : decode cX8_meets 0 = .ok (.aload_n 0, 1) := by decide +kernel
theorem dX8_meets_1 : decode cX8_meets 1 = .ok (.iload_n 1, 1) := by decide +kernel
theorem dX8_meets_2 : decode cX8_meets 2 = .ok (.invokevirtual 221, 3) := by decide +kernel
theorem dX8_meets_5 : decode cX8_meets 5 = .ok (.astore_n 3, 1) := by decide +kernel
theorem dX8_meets_6 : decode cX8_meets 6 = .ok (.aload_n 3, 1) := by decide +kernel
theorem dX8_meets_7 : decode cX8_meets 7 = .ok (.ifnonnull 13, 3) := by decide +kernel
theorem dX8_meets_10 : decode cX8_meets 10 = .ok (.new 52, 3) := by decide +kernel
theorem dX8_meets_13 : decode cX8_meets 13 = .ok (.dup, 1) := by decide +kernel
theorem dX8_meets_14 : decode cX8_meets 14 = .ok (.ldc 225, 2) := by decide +kernel
theorem dX8_meets_16 : decode cX8_meets 16 = .ok (.invokespecial 56, 3) := by decide +kernel
theorem dX8_meets_19 : decode cX8_meets 19 = .ok (.athrow, 1) := by decide +kernel
theorem dX8_meets_20 : decode cX8_meets 20 = .ok (.iload_n 2, 1) := by decide +kernel
theorem dX8_meets_21 : decode cX8_meets 21 = .ok (.ifCond .ge 14, 3) := by decide +kernel
theorem dX8_meets_24 : decode cX8_meets 24 = .ok (.new 59, 3) := by decide +kernel
theorem dX8_meets_27 : decode cX8_meets 27 = .ok (.dup, 1) := by decide +kernel
theorem dX8_meets_28 : decode cX8_meets 28 = .ok (.ldc_w 411, 3) := by decide +kernel
theorem dX8_meets_31 : decode cX8_meets 31 = .ok (.invokespecial 63, 3) := by decide +kernel
theorem dX8_meets_34 : decode cX8_meets 34 = .ok (.athrow, 1) := by decide +kernel
theorem dX8_meets_35 : decode cX8_meets 35 = .ok (.aload_n 0, 1) := by decide +kernel
theorem dX8_meets_36 : decode cX8_meets 36 = .ok (.aload_n 3, 1) := by decide +kernel
theorem dX8_meets_37 : decode cX8_meets 37 = .ok (.aload_n 3, 1) := by decide +kernel
theorem dX8_meets_38 : decode cX8_meets 38 = .ok (.aload_n 0, 1) := by decide +kernel
theorem dX8_meets_39 : decode cX8_meets 39 = .ok (.invokevirtual 84, 3) := by decide +kernel
theorem dX8_meets_42 : decode cX8_meets 42 = .ok (.invokevirtual 347, 3) := by decide +kernel
theorem dX8_meets_45 : decode cX8_meets 45 = .ok (.iload_n 2, 1) := by decide +kernel
theorem dX8_meets_46 : decode cX8_meets 46 = .ok (.iconst 0, 1) := by decide +kernel
theorem dX8_meets_47 : decode cX8_meets 47 = .ok (.invokevirtual 339, 3) := by decide +kernel
theorem dX8_meets_50 : decode cX8_meets 50 = .ok (.ireturn, 1) := by decide +kernel
theorem dX8_of_0 : decode cX8_of 0 = .ok (.aload_n 0, 1) := by decide +kernel
theorem dX8_of_1 : decode cX8_of 1 = .ok (.iload_n 1, 1) := by decide +kernel
theorem dX8_of_2 : decode cX8_of 2 = .ok (.invokevirtual 221, 3) := by decide +kernel
theorem dX8_of_5 : decode cX8_of 5 = .ok (.astore_n 3, 1) := by decide +kernel
theorem dX8_of_6 : decode cX8_of 6 = .ok (.aload_n 3, 1) := by decide +kernel
theorem dX8_of_7 : decode cX8_of 7 = .ok (.ifnonnull 13, 3) := by decide +kernel
theorem dX8_of_10 : decode cX8_of 10 = .ok (.new 52, 3) := by decide +kernel
theorem dX8_of_13 : decode cX8_of 13 = .ok (.dup, 1) := by decide +kernel
theorem dX8_of_14 : decode cX8_of 14 = .ok (.ldc 225, 2) := by decide +kernel
theorem dX8_of_16 : decode cX8_of 16 = .ok (.invokespecial 56, 3) := by decide +kernel
theorem dX8_of_19 : decode cX8_of 19 = .ok (.athrow, 1) := by decide +kernel
theorem dX8_of_20 : decode cX8_of 20 = .ok (.iload_n 2, 1) := by decide +kernel
theorem dX8_of_21 : decode cX8_of 21 = .ok (.tableswitch 103 0 7 #[47, 52, 57, 62, 67, 72, 77, 90], 47) := by decide +kernel
theorem dX8_of_68 : decode cX8_of 68 = .ok (.aload_n 3, 1) := by decide +kernel
theorem dX8_of_69 : decode cX8_of 69 = .ok (.getfield 118, 3) := by decide +kernel
theorem dX8_of_72 : decode cX8_of 72 = .ok (.ireturn, 1) := by decide +kernel
theorem dX8_of_73 : decode cX8_of 73 = .ok (.aload_n 3, 1) := by decide +kernel
theorem dX8_of_74 : decode cX8_of 74 = .ok (.getfield 124, 3) := by decide +kernel
theorem dX8_of_77 : decode cX8_of 77 = .ok (.ireturn, 1) := by decide +kernel
theorem dX8_of_78 : decode cX8_of 78 = .ok (.aload_n 3, 1) := by decide +kernel
theorem dX8_of_79 : decode cX8_of 79 = .ok (.getfield 249, 3) := by decide +kernel
theorem dX8_of_82 : decode cX8_of 82 = .ok (.ireturn, 1) := by decide +kernel
theorem dX8_of_83 : decode cX8_of 83 = .ok (.aload_n 3, 1) := by decide +kernel
theorem dX8_of_84 : decode cX8_of 84 = .ok (.getfield 252, 3) := by decide +kernel
theorem dX8_of_87 : decode cX8_of 87 = .ok (.ireturn, 1) := by decide +kernel
theorem dX8_of_88 : decode cX8_of 88 = .ok (.aload_n 3, 1) := by decide +kernel
theorem dX8_of_89 : decode cX8_of 89 = .ok (.getfield 328, 3) := by decide +kernel
theorem dX8_of_92 : decode cX8_of 92 = .ok (.ireturn, 1) := by decide +kernel
theorem dX8_of_93 : decode cX8_of 93 = .ok (.aload_n 3, 1) := by decide +kernel
theorem dX8_of_94 : decode cX8_of 94 = .ok (.getfield 300, 3) := by decide +kernel
theorem dX8_of_97 : decode cX8_of 97 = .ok (.ireturn, 1) := by decide +kernel
theorem dX8_of_98 : decode cX8_of 98 = .ok (.aload_n 3, 1) := by decide +kernel
theorem dX8_of_99 : decode cX8_of 99 = .ok (.getfield 277, 3) := by decide +kernel
theorem dX8_of_102 : decode cX8_of 102 = .ok (.ifCond .eq 7, 3) := by decide +kernel
theorem dX8_of_105 : decode cX8_of 105 = .ok (.iconst 1, 1) := by decide +kernel
theorem dX8_of_106 : decode cX8_of 106 = .ok (.goto 4, 3) := by decide +kernel
theorem dX8_of_109 : decode cX8_of 109 = .ok (.iconst 0, 1) := by decide +kernel
theorem dX8_of_110 : decode cX8_of 110 = .ok (.ireturn, 1) := by decide +kernel
theorem dX8_of_111 : decode cX8_of 111 = .ok (.aload_n 3, 1) := by decide +kernel
theorem dX8_of_112 : decode cX8_of 112 = .ok (.getfield 255, 3) := by decide +kernel
theorem dX8_of_115 : decode cX8_of 115 = .ok (.ifCond .eq 7, 3) := by decide +kernel
theorem dX8_of_118 : decode cX8_of 118 = .ok (.iconst 1, 1) := by decide +kernel
theorem dX8_of_119 : decode cX8_of 119 = .ok (.goto 4, 3) := by decide +kernel
theorem dX8_of_122 : decode cX8_of 122 = .ok (.iconst 0, 1) := by decide +kernel
theorem dX8_of_123 : decode cX8_of 123 = .ok (.ireturn, 1) := by decide +kernel
theorem dX8_of_124 : decode cX8_of 124 = .ok (.new 59, 3) := by decide +kernel
theorem dX8_of_127 : decode cX8_of 127 = .ok (.dup, 1) := by decide +kernel
theorem dX8_of_128 : decode cX8_of 128 = .ok (.ldc_w 413, 3) := by decide +kernel
theorem dX8_of_131 : decode cX8_of 131 = .ok (.invokespecial 63, 3) := by decide +kernel
theorem dX8_of_134 : decode cX8_of 134 = .ok (.athrow, 1) := by decide +kernel
theorem dX8_metre_0 : decode cX8_metre 0 = .ok (.aload_n 0, 1) := by decide +kernel
theorem dX8_metre_1 : decode cX8_metre 1 = .ok (.iload_n 1, 1) := by decide +kernel
theorem dX8_metre_2 : decode cX8_metre 2 = .ok (.invokevirtual 48, 3) := by decide +kernel
theorem dX8_metre_5 : decode cX8_metre 5 = .ok (.astore 4, 2) := by decide +kernel
theorem dX8_metre_7 : decode cX8_metre 7 = .ok (.aload 4, 2) := by decide +kernel
theorem dX8_metre_9 : decode cX8_metre 9 = .ok (.ifnonnull 7, 3) := by decide +kernel
theorem dX8_metre_12 : decode cX8_metre 12 = .ok (.aconst_null, 1) := by decide +kernel
theorem dX8_metre_13 : decode cX8_metre 13 = .ok (.goto 9, 3) := by decide +kernel
theorem dX8_metre_16 : decode cX8_metre 16 = .ok (.aload 4, 2) := by decide +kernel
theorem dX8_metre_18 : decode cX8_metre 18 = .ok (.iload_n 2, 1) := by decide +kernel
theorem dX8_metre_19 : decode cX8_metre 19 = .ok (.invokevirtual 135, 3) := by decide +kernel
theorem dX8_metre_22 : decode cX8_metre 22 = .ok (.astore 5, 2) := by decide +kernel
theorem dX8_metre_24 : decode cX8_metre 24 = .ok (.aload 4, 2) := by decide +kernel
theorem dX8_metre_26 : decode cX8_metre 26 = .ok (.ifnull 8, 3) := by decide +kernel
theorem dX8_metre_29 : decode cX8_metre 29 = .ok (.aload 5, 2) := by decide +kernel
theorem dX8_metre_31 : decode cX8_metre 31 = .ok (.ifnonnull 13, 3) := by decide +kernel
theorem dX8_metre_34 : decode cX8_metre 34 = .ok (.new 52, 3) := by decide +kernel
theorem dX8_metre_37 : decode cX8_metre 37 = .ok (.dup, 1) := by decide +kernel
theorem dX8_metre_38 : decode cX8_metre 38 = .ok (.ldc 189, 2) := by decide +kernel
theorem dX8_metre_40 : decode cX8_metre 40 = .ok (.invokespecial 56, 3) := by decide +kernel
theorem dX8_metre_43 : decode cX8_metre 43 = .ok (.athrow, 1) := by decide +kernel
theorem dX8_metre_44 : decode cX8_metre 44 = .ok (.iload_n 3, 1) := by decide +kernel
theorem dX8_metre_45 : decode cX8_metre 45 = .ok (.tableswitch 73 0 3 #[31, 47, 61, 67], 31) := by decide +kernel
theorem dX8_metre_76 : decode cX8_metre 76 = .ok (.aload_n 0, 1) := by decide +kernel
theorem dX8_metre_77 : decode cX8_metre 77 = .ok (.aload 4, 2) := by decide +kernel
theorem dX8_metre_79 : decode cX8_metre 79 = .ok (.iload_n 2, 1) := by decide +kernel
theorem dX8_metre_80 : decode cX8_metre 80 = .ok (.invokevirtual 291, 3) := by decide +kernel
theorem dX8_metre_83 : decode cX8_metre 83 = .ok (.ifCond .eq 7, 3) := by decide +kernel
theorem dX8_metre_86 : decode cX8_metre 86 = .ok (.iconst 1, 1) := by decide +kernel
theorem dX8_metre_87 : decode cX8_metre 87 = .ok (.goto 4, 3) := by decide +kernel
theorem dX8_metre_90 : decode cX8_metre 90 = .ok (.iconst 0, 1) := by decide +kernel
theorem dX8_metre_91 : decode cX8_metre 91 = .ok (.ireturn, 1) := by decide +kernel
theorem dX8_metre_92 : decode cX8_metre 92 = .ok (.aload 5, 2) := by decide +kernel
theorem dX8_metre_94 : decode cX8_metre 94 = .ok (.getfield 151, 3) := by decide +kernel
theorem dX8_metre_97 : decode cX8_metre 97 = .ok (.ifCond .eq 7, 3) := by decide +kernel
theorem dX8_metre_100 : decode cX8_metre 100 = .ok (.iconst 1, 1) := by decide +kernel
theorem dX8_metre_101 : decode cX8_metre 101 = .ok (.goto 4, 3) := by decide +kernel
theorem dX8_metre_104 : decode cX8_metre 104 = .ok (.iconst 0, 1) := by decide +kernel
theorem dX8_metre_105 : decode cX8_metre 105 = .ok (.ireturn, 1) := by decide +kernel
theorem dX8_metre_106 : decode cX8_metre 106 = .ok (.aload 5, 2) := by decide +kernel
theorem dX8_metre_108 : decode cX8_metre 108 = .ok (.getfield 288, 3) := by decide +kernel
theorem dX8_metre_111 : decode cX8_metre 111 = .ok (.ireturn, 1) := by decide +kernel
theorem dX8_metre_112 : decode cX8_metre 112 = .ok (.aload 5, 2) := by decide +kernel
theorem dX8_metre_114 : decode cX8_metre 114 = .ok (.getfield 316, 3) := by decide +kernel
theorem dX8_metre_117 : decode cX8_metre 117 = .ok (.ireturn, 1) := by decide +kernel
theorem dX8_metre_118 : decode cX8_metre 118 = .ok (.new 59, 3) := by decide +kernel
theorem dX8_metre_121 : decode cX8_metre 121 = .ok (.dup, 1) := by decide +kernel
theorem dX8_metre_122 : decode cX8_metre 122 = .ok (.ldc_w 413, 3) := by decide +kernel
theorem dX8_metre_125 : decode cX8_metre 125 = .ok (.invokespecial 63, 3) := by decide +kernel
theorem dX8_metre_128 : decode cX8_metre 128 = .ok (.athrow, 1) := by decide +kernel
theorem dX8_search_0 : decode cX8_search 0 = .ok (.aload_n 0, 1) := by decide +kernel
theorem dX8_search_1 : decode cX8_search 1 = .ok (.iload_n 1, 1) := by decide +kernel
theorem dX8_search_2 : decode cX8_search 2 = .ok (.invokevirtual 48, 3) := by decide +kernel
theorem dX8_search_5 : decode cX8_search 5 = .ok (.astore 4, 2) := by decide +kernel
theorem dX8_search_7 : decode cX8_search 7 = .ok (.aload 4, 2) := by decide +kernel
theorem dX8_search_9 : decode cX8_search 9 = .ok (.ifnull 21, 3) := by decide +kernel
theorem dX8_search_12 : decode cX8_search 12 = .ok (.aload 4, 2) := by decide +kernel
theorem dX8_search_14 : decode cX8_search 14 = .ok (.iload_n 2, 1) := by decide +kernel
theorem dX8_search_15 : decode cX8_search 15 = .ok (.invokevirtual 135, 3) := by decide +kernel
theorem dX8_search_18 : decode cX8_search 18 = .ok (.ifnull 12, 3) := by decide +kernel
theorem dX8_search_21 : decode cX8_search 21 = .ok (.aload 4, 2) := by decide +kernel
theorem dX8_search_23 : decode cX8_search 23 = .ok (.iload_n 3, 1) := by decide +kernel
theorem dX8_search_24 : decode cX8_search 24 = .ok (.invokevirtual 135, 3) := by decide +kernel
theorem dX8_search_27 : decode cX8_search 27 = .ok (.ifnonnull 13, 3) := by decide +kernel
theorem dX8_search_30 : decode cX8_search 30 = .ok (.new 52, 3) := by decide +kernel
theorem dX8_search_33 : decode cX8_search 33 = .ok (.dup, 1) := by decide +kernel
theorem dX8_search_34 : decode cX8_search 34 = .ok (.ldc 189, 2) := by decide +kernel
theorem dX8_search_36 : decode cX8_search 36 = .ok (.invokespecial 56, 3) := by decide +kernel
theorem dX8_search_39 : decode cX8_search 39 = .ok (.athrow, 1) := by decide +kernel
theorem dX8_search_40 : decode cX8_search 40 = .ok (.iload_n 3, 1) := by decide +kernel
theorem dX8_search_41 : decode cX8_search 41 = .ok (.iload_n 2, 1) := by decide +kernel
theorem dX8_search_42 : decode cX8_search 42 = .ok (.if_icmp .ge 14, 3) := by decide +kernel
theorem dX8_search_45 : decode cX8_search 45 = .ok (.new 59, 3) := by decide +kernel
theorem dX8_search_48 : decode cX8_search 48 = .ok (.dup, 1) := by decide +kernel
theorem dX8_search_49 : decode cX8_search 49 = .ok (.ldc_w 415, 3) := by decide +kernel
