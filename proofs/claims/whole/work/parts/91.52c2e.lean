theorem dX9_core_46 : decode cX9_core 46 = .ok (.iload 4, 2) := by decide +kernel
theorem dX9_core_48 : decode cX9_core 48 = .ok (.baload, 1) := by decide +kernel
theorem dX9_core_49 : decode cX9_core 49 = .ok (.ifCond .eq 7, 3) := by decide +kernel
theorem dX9_core_52 : decode cX9_core 52 = .ok (.iconst 2, 1) := by decide +kernel
theorem dX9_core_53 : decode cX9_core 53 = .ok (.goto 4, 3) := by decide +kernel
theorem dX9_core_56 : decode cX9_core 56 = .ok (.iconst 0, 1) := by decide +kernel
theorem dX9_core_57 : decode cX9_core 57 = .ok (.invokevirtual 168, 3) := by decide +kernel
theorem dX9_core_60 : decode cX9_core 60 = .ok (.ifCond .ne 5, 3) := by decide +kernel
theorem dX9_core_63 : decode cX9_core 63 = .ok (.iconst 0, 1) := by decide +kernel
theorem dX9_core_64 : decode cX9_core 64 = .ok (.ireturn, 1) := by decide +kernel
theorem dX9_core_65 : decode cX9_core 65 = .ok (.aload_n 0, 1) := by decide +kernel
theorem dX9_core_66 : decode cX9_core 66 = .ok (.getfield 131, 3) := by decide +kernel
theorem dX9_core_69 : decode cX9_core 69 = .ok (.iload 4, 2) := by decide +kernel
theorem dX9_core_71 : decode cX9_core 71 = .ok (.iconst 1, 1) := by decide +kernel
theorem dX9_core_72 : decode cX9_core 72 = .ok (.bastore, 1) := by decide +kernel
theorem dX9_core_73 : decode cX9_core 73 = .ok (.aload_n 0, 1) := by decide +kernel
theorem dX9_core_74 : decode cX9_core 74 = .ok (.getfield 71, 3) := by decide +kernel
theorem dX9_core_77 : decode cX9_core 77 = .ok (.aload_n 0, 1) := by decide +kernel
theorem dX9_core_78 : decode cX9_core 78 = .ok (.getfield 122, 3) := by decide +kernel
theorem dX9_core_81 : decode cX9_core 81 = .ok (.iload 4, 2) := by decide +kernel
theorem dX9_core_83 : decode cX9_core 83 = .ok (.iaload, 1) := by decide +kernel
theorem dX9_core_84 : decode cX9_core 84 = .ok (.iaload, 1) := by decide +kernel
theorem dX9_core_85 : decode cX9_core 85 = .ok (.istore 5, 2) := by decide +kernel
theorem dX9_core_87 : decode cX9_core 87 = .ok (.aload_n 0, 1) := by decide +kernel
theorem dX9_core_88 : decode cX9_core 88 = .ok (.getfield 137, 3) := by decide +kernel
theorem dX9_core_91 : decode cX9_core 91 = .ok (.iload 5, 2) := by decide +kernel
theorem dX9_core_93 : decode cX9_core 93 = .ok (.dup2, 1) := by decide +kernel
theorem dX9_core_94 : decode cX9_core 94 = .ok (.iaload, 1) := by decide +kernel
theorem dX9_core_95 : decode cX9_core 95 = .ok (.iconst 1, 1) := by decide +kernel
theorem dX9_core_96 : decode cX9_core 96 = .ok (.iadd, 1) := by decide +kernel
theorem dX9_core_97 : decode cX9_core 97 = .ok (.iastore, 1) := by decide +kernel
theorem dX9_core_98 : decode cX9_core 98 = .ok (.aload_n 0, 1) := by decide +kernel
theorem dX9_core_99 : decode cX9_core 99 = .ok (.getfield 134, 3) := by decide +kernel
theorem dX9_core_102 : decode cX9_core 102 = .ok (.iload 5, 2) := by decide +kernel
theorem dX9_core_104 : decode cX9_core 104 = .ok (.dup2, 1) := by decide +kernel
theorem dX9_core_105 : decode cX9_core 105 = .ok (.iaload, 1) := by decide +kernel
theorem dX9_core_106 : decode cX9_core 106 = .ok (.aload_n 0, 1) := by decide +kernel
theorem dX9_core_107 : decode cX9_core 107 = .ok (.getfield 128, 3) := by decide +kernel
theorem dX9_core_110 : decode cX9_core 110 = .ok (.iload 4, 2) := by decide +kernel
theorem dX9_core_112 : decode cX9_core 112 = .ok (.iaload, 1) := by decide +kernel
theorem dX9_core_113 : decode cX9_core 113 = .ok (.bipush 80, 2) := by decide +kernel
theorem dX9_core_115 : decode cX9_core 115 = .ok (.if_icmp .ge 7, 3) := by decide +kernel
theorem dX9_core_118 : decode cX9_core 118 = .ok (.iconst 1, 1) := by decide +kernel
theorem dX9_core_119 : decode cX9_core 119 = .ok (.goto 4, 3) := by decide +kernel
theorem dX9_core_122 : decode cX9_core 122 = .ok (.iconst 0, 1) := by decide +kernel
theorem dX9_core_123 : decode cX9_core 123 = .ok (.iadd, 1) := by decide +kernel
theorem dX9_core_124 : decode cX9_core 124 = .ok (.iastore, 1) := by decide +kernel
theorem dX9_core_125 : decode cX9_core 125 = .ok (.aload_n 0, 1) := by decide +kernel
theorem dX9_core_126 : decode cX9_core 126 = .ok (.getfield 128, 3) := by decide +kernel
theorem dX9_core_129 : decode cX9_core 129 = .ok (.iload 4, 2) := by decide +kernel
theorem dX9_core_131 : decode cX9_core 131 = .ok (.iaload, 1) := by decide +kernel
theorem dX9_core_132 : decode cX9_core 132 = .ok (.ireturn, 1) := by decide +kernel
theorem dX9_liable_0 : decode cX9_liable 0 = .ok (.aload_n 0, 1) := by decide +kernel
theorem dX9_liable_1 : decode cX9_liable 1 = .ok (.iload_n 1, 1) := by decide +kernel
theorem dX9_liable_2 : decode cX9_liable 2 = .ok (.iload_n 2, 1) := by decide +kernel
theorem dX9_liable_3 : decode cX9_liable 3 = .ok (.iload_n 3, 1) := by decide +kernel
theorem dX9_liable_4 : decode cX9_liable 4 = .ok (.invokevirtual 286, 3) := by decide +kernel
theorem dX9_liable_7 : decode cX9_liable 7 = .ok (.ifCond .eq 13, 3) := by decide +kernel
theorem dX9_liable_10 : decode cX9_liable 10 = .ok (.aload_n 0, 1) := by decide +kernel
theorem dX9_liable_11 : decode cX9_liable 11 = .ok (.iload_n 1, 1) := by decide +kernel
theorem dX9_liable_12 : decode cX9_liable 12 = .ok (.iload_n 2, 1) := by decide +kernel
theorem dX9_liable_13 : decode cX9_liable 13 = .ok (.iload_n 3, 1) := by decide +kernel
theorem dX9_liable_14 : decode cX9_liable 14 = .ok (.invokevirtual 289, 3) := by decide +kernel
theorem dX9_liable_17 : decode cX9_liable 17 = .ok (.goto 4, 3) := by decide +kernel
theorem dX9_liable_20 : decode cX9_liable 20 = .ok (.iconst 0, 1) := by decide +kernel
theorem dX9_liable_21 : decode cX9_liable 21 = .ok (.ireturn, 1) := by decide +kernel
theorem dX9_liableAnew_0 : decode cX9_liableAnew 0 = .ok (.aload_n 0, 1) := by decide +kernel
theorem dX9_liableAnew_1 : decode cX9_liableAnew 1 = .ok (.iload_n 1, 1) := by decide +kernel
theorem dX9_liableAnew_2 : decode cX9_liableAnew 2 = .ok (.iload_n 2, 1) := by decide +kernel
theorem dX9_liableAnew_3 : decode cX9_liableAnew 3 = .ok (.iload_n 3, 1) := by decide +kernel
theorem dX9_liableAnew_4 : decode cX9_liableAnew 4 = .ok (.invokevirtual 286, 3) := by decide +kernel
theorem dX9_liableAnew_7 : decode cX9_liableAnew 7 = .ok (.ifCond .eq 13, 3) := by decide +kernel
theorem dX9_liableAnew_10 : decode cX9_liableAnew 10 = .ok (.aload_n 0, 1) := by decide +kernel
theorem dX9_liableAnew_11 : decode cX9_liableAnew 11 = .ok (.iload_n 1, 1) := by decide +kernel
theorem dX9_liableAnew_12 : decode cX9_liableAnew 12 = .ok (.iload_n 2, 1) := by decide +kernel
theorem dX9_liableAnew_13 : decode cX9_liableAnew 13 = .ok (.iload_n 3, 1) := by decide +kernel
theorem dX9_liableAnew_14 : decode cX9_liableAnew 14 = .ok (.invokevirtual 289, 3) := by decide +kernel
theorem dX9_liableAnew_17 : decode cX9_liableAnew 17 = .ok (.goto 4, 3) := by decide +kernel
theorem dX9_liableAnew_20 : decode cX9_liableAnew 20 = .ok (.iconst 0, 1) := by decide +kernel
theorem dX9_liableAnew_21 : decode cX9_liableAnew 21 = .ok (.ireturn, 1) := by decide +kernel
theorem dX9_bars_0 : decode cX9_bars 0 = .ok (.aload_n 0, 1) := by decide +kernel
theorem dX9_bars_1 : decode cX9_bars 1 = .ok (.aload_n 0, 1) := by decide +kernel
theorem dX9_bars_2 : decode cX9_bars 2 = .ok (.iload_n 1, 1) := by decide +kernel
theorem dX9_bars_3 : decode cX9_bars 3 = .ok (.invokevirtual 234, 3) := by decide +kernel
theorem dX9_bars_6 : decode cX9_bars 6 = .ok (.ifCond .eq 7, 3) := by decide +kernel
theorem dX9_bars_9 : decode cX9_bars 9 = .ok (.iconst 0, 1) := by decide +kernel
theorem dX9_bars_10 : decode cX9_bars 10 = .ok (.goto 4, 3) := by decide +kernel
theorem dX9_bars_13 : decode cX9_bars 13 = .ok (.iconst 1, 1) := by decide +kernel
theorem dX9_bars_14 : decode cX9_bars 14 = .ok (.invokevirtual 168, 3) := by decide +kernel
theorem dX9_bars_17 : decode cX9_bars 17 = .ok (.ifCond .eq 11, 3) := by decide +kernel
theorem dX9_bars_20 : decode cX9_bars 20 = .ok (.aload_n 0, 1) := by decide +kernel
theorem dX9_bars_21 : decode cX9_bars 21 = .ok (.iload_n 1, 1) := by decide +kernel
theorem dX9_bars_22 : decode cX9_bars 22 = .ok (.invokevirtual 237, 3) := by decide +kernel
theorem dX9_bars_25 : decode cX9_bars 25 = .ok (.goto 4, 3) := by decide +kernel
theorem dX9_bars_28 : decode cX9_bars 28 = .ok (.iconst 0, 1) := by decide +kernel
theorem dX9_bars_29 : decode cX9_bars 29 = .ok (.ireturn, 1) := by decide +kernel
theorem dX9_meets_0 : decode cX9_meets 0 = .ok (.aload_n 0, 1) := by decide +kernel
theorem dX9_meets_1 : decode cX9_meets 1 = .ok (.aload_n 0, 1) := by decide +kernel
theorem dX9_meets_2 : decode cX9_meets 2 = .ok (.iload_n 1, 1) := by decide +kernel
theorem dX9_meets_3 : decode cX9_meets 3 = .ok (.invokevirtual 234, 3) := by decide +kernel
theorem dX9_meets_6 : decode cX9_meets 6 = .ok (.ifCond .ne 7, 3) := by decide +kernel
theorem dX9_meets_9 : decode cX9_meets 9 = .ok (.iconst 1, 1) := by decide +kernel
theorem dX9_meets_10 : decode cX9_meets 10 = .ok (.goto 12, 3) := by decide +kernel
theorem dX9_meets_13 : decode cX9_meets 13 = .ok (.iload_n 2, 1) := by decide +kernel
theorem dX9_meets_14 : decode cX9_meets 14 = .ok (.ifCond .ge 7, 3) := by decide +kernel
theorem dX9_meets_17 : decode cX9_meets 17 = .ok (.iconst 2, 1) := by decide +kernel
theorem dX9_meets_18 : decode cX9_meets 18 = .ok (.goto 4, 3) := by decide +kernel
theorem dX9_meets_21 : decode cX9_meets 21 = .ok (.iconst 0, 1) := by decide +kernel
theorem dX9_meets_22 : decode cX9_meets 22 = .ok (.invokevirtual 168, 3) := by decide +kernel
theorem dX9_meets_25 : decode cX9_meets 25 = .ok (.ifCond .ne 5, 3) := by decide +kernel
theorem dX9_meets_28 : decode cX9_meets 28 = .ok (.iconst 0, 1) := by decide +kernel
theorem dX9_meets_29 : decode cX9_meets 29 = .ok (.ireturn, 1) := by decide +kernel
theorem dX9_meets_30 : decode cX9_meets 30 = .ok (.iload_n 2, 1) := by decide +kernel
theorem dX9_meets_31 : decode cX9_meets 31 = .ok (.istore_n 3, 1) := by decide +kernel
theorem dX9_meets_32 : decode cX9_meets 32 = .ok (.iload_n 3, 1) := by decide +kernel
theorem dX9_meets_33 : decode cX9_meets 33 = .ok (.aload_n 0, 1) := by decide +kernel
theorem dX9_meets_34 : decode cX9_meets 34 = .ok (.getfield 162, 3) := by decide +kernel
theorem dX9_meets_37 : decode cX9_meets 37 = .ok (.if_icmp .ge 20, 3) := by decide +kernel
theorem dX9_meets_40 : decode cX9_meets 40 = .ok (.aload_n 0, 1) := by decide +kernel
theorem dX9_meets_41 : decode cX9_meets 41 = .ok (.iload_n 1, 1) := by decide +kernel
theorem dX9_meets_42 : decode cX9_meets 42 = .ok (.iload_n 3, 1) := by decide +kernel
theorem dX9_meets_43 : decode cX9_meets 43 = .ok (.invokevirtual 220, 3) := by decide +kernel
theorem dX9_meets_46 : decode cX9_meets 46 = .ok (.ifCond .eq 5, 3) := by decide +kernel
theorem dX9_meets_49 : decode cX9_meets 49 = .ok (.iload_n 3, 1) := by decide +kernel
theorem dX9_meets_50 : decode cX9_meets 50 = .ok (.ireturn, 1) := by decide +kernel
theorem dX9_meets_51 : decode cX9_meets 51 = .ok (.iinc 3 1, 3) := by decide +kernel
theorem dX9_meets_54 : decode cX9_meets 54 = .ok (.goto (-22), 3) := by decide +kernel
theorem dX9_meets_57 : decode cX9_meets 57 = .ok (.iconst (-1), 1) := by decide +kernel
theorem dX9_meets_58 : decode cX9_meets 58 = .ok (.ireturn, 1) := by decide +kernel
theorem dX9_of_0 : decode cX9_of 0 = .ok (.aload_n 0, 1) := by decide +kernel
theorem dX9_of_1 : decode cX9_of 1 = .ok (.aload_n 0, 1) := by decide +kernel
theorem dX9_of_2 : decode cX9_of 2 = .ok (.iload_n 1, 1) := by decide +kernel
theorem dX9_of_3 : decode cX9_of 3 = .ok (.invokevirtual 234, 3) := by decide +kernel
theorem dX9_of_6 : decode cX9_of 6 = .ok (.ifCond .ne 7, 3) := by decide +kernel
theorem dX9_of_9 : decode cX9_of 9 = .ok (.iconst 1, 1) := by decide +kernel
theorem dX9_of_10 : decode cX9_of 10 = .ok (.goto 18, 3) := by decide +kernel
theorem dX9_of_13 : decode cX9_of 13 = .ok (.iload_n 2, 1) := by decide +kernel
theorem dX9_of_14 : decode cX9_of 14 = .ok (.iconst 0, 1) := by decide +kernel
theorem dX9_of_15 : decode cX9_of 15 = .ok (.bipush 7, 2) := by decide +kernel
theorem dX9_of_17 : decode cX9_of 17 = .ok (.invokestatic 151, 3) := by decide +kernel
theorem dX9_of_20 : decode cX9_of 20 = .ok (.ifCond .eq 7, 3) := by decide +kernel
theorem dX9_of_23 : decode cX9_of 23 = .ok (.iconst 0, 1) := by decide +kernel
theorem dX9_of_24 : decode cX9_of 24 = .ok (.goto 4, 3) := by decide +kernel
theorem dX9_of_27 : decode cX9_of 27 = .ok (.iconst 2, 1) := by decide +kernel
theorem dX9_of_28 : decode cX9_of 28 = .ok (.invokevirtual 168, 3) := by decide +kernel
theorem dX9_of_31 : decode cX9_of 31 = .ok (.ifCond .ne 5, 3) := by decide +kernel
theorem dX9_of_34 : decode cX9_of 34 = .ok (.iconst 0, 1) := by decide +kernel
theorem dX9_of_35 : decode cX9_of 35 = .ok (.ireturn, 1) := by decide +kernel
theorem dX9_of_36 : decode cX9_of 36 = .ok (.iload_n 2, 1) := by decide +kernel
theorem dX9_of_37 : decode cX9_of 37 = .ok (.tableswitch 98 0 6 #[43, 50, 56, 63, 70, 77, 83], 43) := by decide +kernel
theorem dX9_of_80 : decode cX9_of 80 = .ok (.aload_n 0, 1) := by decide +kernel
theorem dX9_of_81 : decode cX9_of 81 = .ok (.getfield 98, 3) := by decide +kernel
theorem dX9_of_84 : decode cX9_of 84 = .ok (.iload_n 1, 1) := by decide +kernel
theorem dX9_of_85 : decode cX9_of 85 = .ok (.iaload, 1) := by decide +kernel
theorem dX9_of_86 : decode cX9_of 86 = .ok (.ireturn, 1) := by decide +kernel
theorem dX9_of_87 : decode cX9_of 87 = .ok (.aload_n 0, 1) := by decide +kernel
theorem dX9_of_88 : decode cX9_of 88 = .ok (.iload_n 1, 1) := by decide +kernel
theorem dX9_of_89 : decode cX9_of 89 = .ok (.invokevirtual 208, 3) := by decide +kernel
theorem dX9_of_92 : decode cX9_of 92 = .ok (.ireturn, 1) := by decide +kernel
theorem dX9_of_93 : decode cX9_of 93 = .ok (.aload_n 0, 1) := by decide +kernel
theorem dX9_of_94 : decode cX9_of 94 = .ok (.getfield 101, 3) := by decide +kernel
theorem dX9_of_97 : decode cX9_of 97 = .ok (.iload_n 1, 1) := by decide +kernel
theorem dX9_of_98 : decode cX9_of 98 = .ok (.iaload, 1) := by decide +kernel
theorem dX9_of_99 : decode cX9_of 99 = .ok (.ireturn, 1) := by decide +kernel
theorem dX9_of_100 : decode cX9_of 100 = .ok (.aload_n 0, 1) := by decide +kernel
theorem dX9_of_101 : decode cX9_of 101 = .ok (.getfield 104, 3) := by decide +kernel
theorem dX9_of_104 : decode cX9_of 104 = .ok (.iload_n 1, 1) := by decide +kernel
theorem dX9_of_105 : decode cX9_of 105 = .ok (.iaload, 1) := by decide +kernel
theorem dX9_of_106 : decode cX9_of 106 = .ok (.ireturn, 1) := by decide +kernel
theorem dX9_of_107 : decode cX9_of 107 = .ok (.aload_n 0, 1) := by decide +kernel
theorem dX9_of_108 : decode cX9_of 108 = .ok (.getfield 107, 3) := by decide +kernel
theorem dX9_of_111 : decode cX9_of 111 = .ok (.iload_n 1, 1) := by decide +kernel
theorem dX9_of_112 : decode cX9_of 112 = .ok (.iaload, 1) := by decide +kernel
theorem dX9_of_113 : decode cX9_of 113 = .ok (.ireturn, 1) := by decide +kernel
theorem dX9_of_114 : decode cX9_of 114 = .ok (.aload_n 0, 1) := by decide +kernel
theorem dX9_of_115 : decode cX9_of 115 = .ok (.iload_n 1, 1) := by decide +kernel
theorem dX9_of_116 : decode cX9_of 116 = .ok (.invokevirtual 259, 3) := by decide +kernel
theorem dX9_of_119 : decode cX9_of 119 = .ok (.ireturn, 1) := by decide +kernel
theorem dX9_of_120 : decode cX9_of 120 = .ok (.aload_n 0, 1) := by decide +kernel
theorem dX9_of_121 : decode cX9_of 121 = .ok (.getfield 110, 3) := by decide +kernel
theorem dX9_of_124 : decode cX9_of 124 = .ok (.iload_n 1, 1) := by decide +kernel
theorem dX9_of_125 : decode cX9_of 125 = .ok (.baload, 1) := by decide +kernel
theorem dX9_of_126 : decode cX9_of 126 = .ok (.ifCond .eq 7, 3) := by decide +kernel
theorem dX9_of_129 : decode cX9_of 129 = .ok (.iconst 1, 1) := by decide +kernel
theorem dX9_of_130 : decode cX9_of 130 = .ok (.goto 4, 3) := by decide +kernel
theorem dX9_of_133 : decode cX9_of 133 = .ok (.iconst 0, 1) := by decide +kernel
theorem dX9_of_134 : decode cX9_of 134 = .ok (.ireturn, 1) := by decide +kernel
theorem dX9_of_135 : decode cX9_of 135 = .ok (.aload_n 0, 1) := by decide +kernel
theorem dX9_of_136 : decode cX9_of 136 = .ok (.getfield 113, 3) := by decide +kernel
theorem dX9_of_139 : decode cX9_of 139 = .ok (.iload_n 1, 1) := by decide +kernel
theorem dX9_of_140 : decode cX9_of 140 = .ok (.baload, 1) := by decide +kernel
theorem dX9_of_141 : decode cX9_of 141 = .ok (.ifCond .eq 7, 3) := by decide +kernel
theorem dX9_of_144 : decode cX9_of 144 = .ok (.iconst 1, 1) := by decide +kernel
theorem dX9_of_145 : decode cX9_of 145 = .ok (.goto 4, 3) := by decide +kernel
theorem dX9_of_148 : decode cX9_of 148 = .ok (.iconst 0, 1) := by decide +kernel
theorem dX9_of_149 : decode cX9_of 149 = .ok (.ireturn, 1) := by decide +kernel
theorem dX9_metre_0 : decode cX9_metre 0 = .ok (.aload_n 0, 1) := by decide +kernel
theorem dX9_metre_1 : decode cX9_metre 1 = .ok (.aload_n 0, 1) := by decide +kernel
theorem dX9_metre_2 : decode cX9_metre 2 = .ok (.iload_n 1, 1) := by decide +kernel
theorem dX9_metre_3 : decode cX9_metre 3 = .ok (.iload_n 2, 1) := by decide +kernel
theorem dX9_metre_4 : decode cX9_metre 4 = .ok (.invokevirtual 188, 3) := by decide +kernel
theorem dX9_metre_7 : decode cX9_metre 7 = .ok (.ifCond .ne 7, 3) := by decide +kernel
theorem dX9_metre_10 : decode cX9_metre 10 = .ok (.iconst 1, 1) := by decide +kernel
theorem dX9_metre_11 : decode cX9_metre 11 = .ok (.goto 17, 3) := by decide +kernel
theorem dX9_metre_14 : decode cX9_metre 14 = .ok (.iload_n 3, 1) := by decide +kernel
theorem dX9_metre_15 : decode cX9_metre 15 = .ok (.iconst 0, 1) := by decide +kernel
theorem dX9_metre_16 : decode cX9_metre 16 = .ok (.iconst 3, 1) := by decide +kernel
theorem dX9_metre_17 : decode cX9_metre 17 = .ok (.invokestatic 151, 3) := by decide +kernel
theorem dX9_metre_20 : decode cX9_metre 20 = .ok (.ifCond .eq 7, 3) := by decide +kernel
theorem dX9_metre_23 : decode cX9_metre 23 = .ok (.iconst 0, 1) := by decide +kernel
theorem dX9_metre_24 : decode cX9_metre 24 = .ok (.goto 4, 3) := by decide +kernel
theorem dX9_metre_27 : decode cX9_metre 27 = .ok (.iconst 2, 1) := by decide +kernel
theorem dX9_metre_28 : decode cX9_metre 28 = .ok (.invokevirtual 168, 3) := by decide +kernel
theorem dX9_metre_31 : decode cX9_metre 31 = .ok (.ifCond .ne 5, 3) := by decide +kernel
theorem dX9_metre_34 : decode cX9_metre 34 = .ok (.iconst 0, 1) := by decide +kernel
theorem dX9_metre_35 : decode cX9_metre 35 = .ok (.ireturn, 1) := by decide +kernel
theorem dX9_metre_36 : decode cX9_metre 36 = .ok (.bipush 40, 2) := by decide +kernel
theorem dX9_metre_38 : decode cX9_metre 38 = .ok (.iload_n 1, 1) := by decide +kernel
theorem dX9_metre_39 : decode cX9_metre 39 = .ok (.imul, 1) := by decide +kernel
theorem dX9_metre_40 : decode cX9_metre 40 = .ok (.iload_n 2, 1) := by decide +kernel
theorem dX9_metre_41 : decode cX9_metre 41 = .ok (.iadd, 1) := by decide +kernel
theorem dX9_metre_42 : decode cX9_metre 42 = .ok (.istore 4, 2) := by decide +kernel
theorem dX9_metre_44 : decode cX9_metre 44 = .ok (.iload_n 3, 1) := by decide +kernel
theorem dX9_metre_45 : decode cX9_metre 45 = .ok (.ifCond .ne 20, 3) := by decide +kernel
theorem dX9_metre_48 : decode cX9_metre 48 = .ok (.aload_n 0, 1) := by decide +kernel
theorem dX9_metre_49 : decode cX9_metre 49 = .ok (.iload_n 1, 1) := by decide +kernel
theorem dX9_metre_50 : decode cX9_metre 50 = .ok (.iload_n 2, 1) := by decide +kernel
theorem dX9_metre_51 : decode cX9_metre 51 = .ok (.invokevirtual 247, 3) := by decide +kernel
theorem dX9_metre_54 : decode cX9_metre 54 = .ok (.ifCond .eq 7, 3) := by decide +kernel
theorem dX9_metre_57 : decode cX9_metre 57 = .ok (.iconst 1, 1) := by decide +kernel
theorem dX9_metre_58 : decode cX9_metre 58 = .ok (.goto 51, 3) := by decide +kernel
theorem dX9_metre_61 : decode cX9_metre 61 = .ok (.iconst 0, 1) := by decide +kernel
theorem dX9_metre_62 : decode cX9_metre 62 = .ok (.goto 47, 3) := by decide +kernel
theorem dX9_metre_65 : decode cX9_metre 65 = .ok (.iload_n 3, 1) := by decide +kernel
theorem dX9_metre_66 : decode cX9_metre 66 = .ok (.iconst 1, 1) := by decide +kernel
theorem dX9_metre_67 : decode cX9_metre 67 = .ok (.if_icmp .ne 21, 3) := by decide +kernel
theorem dX9_metre_70 : decode cX9_metre 70 = .ok (.aload_n 0, 1) := by decide +kernel
theorem dX9_metre_71 : decode cX9_metre 71 = .ok (.getfield 40, 3) := by decide +kernel
theorem dX9_metre_74 : decode cX9_metre 74 = .ok (.iload 4, 2) := by decide +kernel
theorem dX9_metre_76 : decode cX9_metre 76 = .ok (.baload, 1) := by decide +kernel
theorem dX9_metre_77 : decode cX9_metre 77 = .ok (.ifCond .eq 7, 3) := by decide +kernel
theorem dX9_metre_80 : decode cX9_metre 80 = .ok (.iconst 1, 1) := by decide +kernel
theorem dX9_metre_81 : decode cX9_metre 81 = .ok (.goto 28, 3) := by decide +kernel
theorem dX9_metre_84 : decode cX9_metre 84 = .ok (.iconst 0, 1) := by decide +kernel
theorem dX9_metre_85 : decode cX9_metre 85 = .ok (.goto 24, 3) := by decide +kernel
theorem dX9_metre_88 : decode cX9_metre 88 = .ok (.iload_n 3, 1) := by decide +kernel
theorem dX9_metre_89 : decode cX9_metre 89 = .ok (.iconst 2, 1) := by decide +kernel
theorem dX9_metre_90 : decode cX9_metre 90 = .ok (.if_icmp .ne 13, 3) := by decide +kernel
theorem dX9_metre_93 : decode cX9_metre 93 = .ok (.aload_n 0, 1) := by decide +kernel
theorem dX9_metre_94 : decode cX9_metre 94 = .ok (.getfield 44, 3) := by decide +kernel
theorem dX9_metre_97 : decode cX9_metre 97 = .ok (.iload 4, 2) := by decide +kernel
theorem dX9_metre_99 : decode cX9_metre 99 = .ok (.iaload, 1) := by decide +kernel
theorem dX9_metre_100 : decode cX9_metre 100 = .ok (.goto 9, 3) := by decide +kernel
theorem dX9_metre_103 : decode cX9_metre 103 = .ok (.aload_n 0, 1) := by decide +kernel
theorem dX9_metre_104 : decode cX9_metre 104 = .ok (.iload 4, 2) := by decide +kernel
theorem dX9_metre_106 : decode cX9_metre 106 = .ok (.invokevirtual 256, 3) := by decide +kernel
theorem dX9_metre_109 : decode cX9_metre 109 = .ok (.ireturn, 1) := by decide +kernel
theorem dX9_search_0 : decode cX9_search 0 = .ok (.aload_n 0, 1) := by decide +kernel
theorem dX9_search_1 : decode cX9_search 1 = .ok (.iload_n 1, 1) := by decide +kernel
theorem dX9_search_2 : decode cX9_search 2 = .ok (.iload_n 2, 1) := by decide +kernel
theorem dX9_search_3 : decode cX9_search 3 = .ok (.invokevirtual 188, 3) := by decide +kernel
theorem dX9_search_6 : decode cX9_search 6 = .ok (.ifCond .eq 16, 3) := by decide +kernel
theorem dX9_search_9 : decode cX9_search 9 = .ok (.aload_n 0, 1) := by decide +kernel
theorem dX9_search_10 : decode cX9_search 10 = .ok (.iload_n 1, 1) := by decide +kernel
theorem dX9_search_11 : decode cX9_search 11 = .ok (.iload_n 3, 1) := by decide +kernel
theorem dX9_search_12 : decode cX9_search 12 = .ok (.invokevirtual 188, 3) := by decide +kernel
theorem dX9_search_15 : decode cX9_search 15 = .ok (.ifCond .eq 7, 3) := by decide +kernel
theorem dX9_search_18 : decode cX9_search 18 = .ok (.iconst 1, 1) := by decide +kernel
theorem dX9_search_19 : decode cX9_search 19 = .ok (.goto 4, 3) := by decide +kernel
theorem dX9_search_22 : decode cX9_search 22 = .ok (.iconst 0, 1) := by decide +kernel
theorem dX9_search_23 : decode cX9_search 23 = .ok (.istore 4, 2) := by decide +kernel
theorem dX9_search_25 : decode cX9_search 25 = .ok (.aload_n 0, 1) := by decide +kernel
theorem dX9_search_26 : decode cX9_search 26 = .ok (.iload 4, 2) := by decide +kernel
theorem dX9_search_28 : decode cX9_search 28 = .ok (.ifCond .ne 7, 3) := by decide +kernel
theorem dX9_search_31 : decode cX9_search 31 = .ok (.iconst 1, 1) := by decide +kernel
theorem dX9_search_32 : decode cX9_search 32 = .ok (.goto 13, 3) := by decide +kernel
theorem dX9_search_35 : decode cX9_search 35 = .ok (.iload_n 3, 1) := by decide +kernel
theorem dX9_search_36 : decode cX9_search 36 = .ok (.iload_n 2, 1) := by decide +kernel
theorem dX9_search_37 : decode cX9_search 37 = .ok (.if_icmp .ge 7, 3) := by decide +kernel
theorem dX9_search_40 : decode cX9_search 40 = .ok (.iconst 2, 1) := by decide +kernel
theorem dX9_search_41 : decode cX9_search 41 = .ok (.goto 4, 3) := by decide +kernel
theorem dX9_search_44 : decode cX9_search 44 = .ok (.iconst 0, 1) := by decide +kernel
theorem dX9_search_45 : decode cX9_search 45 = .ok (.invokevirtual 168, 3) := by decide +kernel
theorem dX9_search_48 : decode cX9_search 48 = .ok (.ifCond .ne 5, 3) := by decide +kernel
theorem dX9_search_51 : decode cX9_search 51 = .ok (.iconst 0, 1) := by decide +kernel
theorem dX9_search_52 : decode cX9_search 52 = .ok (.ireturn, 1) := by decide +kernel
theorem dX9_search_53 : decode cX9_search 53 = .ok (.iconst 0, 1) := by decide +kernel
theorem dX9_search_54 : decode cX9_search 54 = .ok (.istore 5, 2) := by decide +kernel
theorem dX9_search_56 : decode cX9_search 56 = .ok (.iconst 0, 1) := by decide +kernel
theorem dX9_search_57 : decode cX9_search 57 = .ok (.istore 6, 2) := by decide +kernel
theorem dX9_search_59 : decode cX9_search 59 = .ok (.iload 6, 2) := by decide +kernel
theorem dX9_search_61 : decode cX9_search 61 = .ok (.aload_n 0, 1) := by decide +kernel
theorem dX9_search_62 : decode cX9_search 62 = .ok (.getfield 159, 3) := by decide +kernel
theorem dX9_search_65 : decode cX9_search 65 = .ok (.if_icmp .ge 77, 3) := by decide +kernel
theorem dX9_search_68 : decode cX9_search 68 = .ok (.aload_n 0, 1) := by decide +kernel
theorem dX9_search_69 : decode cX9_search 69 = .ok (.getfield 62, 3) := by decide +kernel
theorem dX9_search_72 : decode cX9_search 72 = .ok (.iload 6, 2) := by decide +kernel
theorem dX9_search_74 : decode cX9_search 74 = .ok (.baload, 1) := by decide +kernel
theorem dX9_search_75 : decode cX9_search 75 = .ok (.ifCond .eq 40, 3) := by decide +kernel
theorem dX9_search_78 : decode cX9_search 78 = .ok (.aload_n 0, 1) := by decide +kernel
theorem dX9_search_79 : decode cX9_search 79 = .ok (.getfield 50, 3) := by decide +kernel
theorem dX9_search_82 : decode cX9_search 82 = .ok (.iload 6, 2) := by decide +kernel
theorem dX9_search_84 : decode cX9_search 84 = .ok (.iaload, 1) := by decide +kernel
theorem dX9_search_85 : decode cX9_search 85 = .ok (.iload_n 1, 1) := by decide +kernel
theorem dX9_search_86 : decode cX9_search 86 = .ok (.if_icmp .ne 29, 3) := by decide +kernel
theorem dX9_search_89 : decode cX9_search 89 = .ok (.aload_n 0, 1) := by decide +kernel
theorem dX9_search_90 : decode cX9_search 90 = .ok (.getfield 65, 3) := by decide +kernel
theorem dX9_search_93 : decode cX9_search 93 = .ok (.iload 6, 2) := by decide +kernel
theorem dX9_search_95 : decode cX9_search 95 = .ok (.iaload, 1) := by decide +kernel
theorem dX9_search_96 : decode cX9_search 96 = .ok (.iload_n 3, 1) := by decide +kernel
theorem dX9_search_97 : decode cX9_search 97 = .ok (.if_icmp .gt 18, 3) := by decide +kernel
theorem dX9_search_100 : decode cX9_search 100 = .ok (.iload_n 2, 1) := by decide +kernel
theorem dX9_search_101 : decode cX9_search 101 = .ok (.aload_n 0, 1) := by decide +kernel
theorem dX9_search_102 : decode cX9_search 102 = .ok (.getfield 68, 3) := by decide +kernel
theorem dX9_search_105 : decode cX9_search 105 = .ok (.iload 6, 2) := by decide +kernel
theorem dX9_search_107 : decode cX9_search 107 = .ok (.iaload, 1) := by decide +kernel
theorem dX9_search_108 : decode cX9_search 108 = .ok (.if_icmp .gt 7, 3) := by decide +kernel
theorem dX9_search_111 : decode cX9_search 111 = .ok (.iconst 1, 1) := by decide +kernel
theorem dX9_search_112 : decode cX9_search 112 = .ok (.goto 4, 3) := by decide +kernel
theorem dX9_search_115 : decode cX9_search 115 = .ok (.iconst 0, 1) := by decide +kernel
theorem dX9_search_116 : decode cX9_search 116 = .ok (.istore 7, 2) := by decide +kernel
theorem dX9_search_118 : decode cX9_search 118 = .ok (.iload 5, 2) := by decide +kernel
theorem dX9_search_120 : decode cX9_search 120 = .ok (.iload 7, 2) := by decide +kernel
theorem dX9_search_122 : decode cX9_search 122 = .ok (.ifCond .eq 10, 3) := by decide +kernel
theorem dX9_search_125 : decode cX9_search 125 = .ok (.iconst 1, 1) := by decide +kernel
theorem dX9_search_126 : decode cX9_search 126 = .ok (.iload 6, 2) := by decide +kernel
theorem dX9_search_128 : decode cX9_search 128 = .ok (.ishl, 1) := by decide +kernel
theorem dX9_search_129 : decode cX9_search 129 = .ok (.goto 4, 3) := by decide +kernel
theorem dX9_search_132 : decode cX9_search 132 = .ok (.iconst 0, 1) := by decide +kernel
theorem dX9_search_133 : decode cX9_search 133 = .ok (.ior, 1) := by decide +kernel
theorem dX9_search_134 : decode cX9_search 134 = .ok (.istore 5, 2) := by decide +kernel
theorem dX9_search_136 : decode cX9_search 136 = .ok (.iinc 6 1, 3) := by decide +kernel
theorem dX9_search_139 : decode cX9_search 139 = .ok (.goto (-80), 3) := by decide +kernel
theorem dX9_search_142 : decode cX9_search 142 = .ok (.iload 5, 2) := by decide +kernel
theorem dX9_search_144 : decode cX9_search 144 = .ok (.ireturn, 1) := by decide +kernel
theorem dX9_queue_0 : decode cX9_queue 0 = .ok (.aload_n 0, 1) := by decide +kernel
theorem dX9_queue_1 : decode cX9_queue 1 = .ok (.aload_n 0, 1) := by decide +kernel
theorem dX9_queue_2 : decode cX9_queue 2 = .ok (.iload_n 1, 1) := by decide +kernel
theorem dX9_queue_3 : decode cX9_queue 3 = .ok (.invokevirtual 155, 3) := by decide +kernel
theorem dX9_queue_6 : decode cX9_queue 6 = .ok (.ifCond .eq 7, 3) := by decide +kernel
theorem dX9_queue_9 : decode cX9_queue 9 = .ok (.iconst 0, 1) := by decide +kernel
theorem dX9_queue_10 : decode cX9_queue 10 = .ok (.goto 4, 3) := by decide +kernel
theorem dX9_queue_13 : decode cX9_queue 13 = .ok (.iconst 1, 1) := by decide +kernel
theorem dX9_queue_14 : decode cX9_queue 14 = .ok (.invokevirtual 168, 3) := by decide +kernel
theorem dX9_queue_17 : decode cX9_queue 17 = .ok (.ifCond .eq 12, 3) := by decide +kernel
theorem dX9_queue_20 : decode cX9_queue 20 = .ok (.aload_n 0, 1) := by decide +kernel
theorem dX9_queue_21 : decode cX9_queue 21 = .ok (.getfield 34, 3) := by decide +kernel
theorem dX9_queue_24 : decode cX9_queue 24 = .ok (.iload_n 1, 1) := by decide +kernel
theorem dX9_queue_25 : decode cX9_queue 25 = .ok (.iaload, 1) := by decide +kernel
theorem dX9_queue_26 : decode cX9_queue 26 = .ok (.goto 4, 3) := by decide +kernel
theorem dX9_queue_29 : decode cX9_queue 29 = .ok (.iconst 0, 1) := by decide +kernel
theorem dX9_queue_30 : decode cX9_queue 30 = .ok (.ireturn, 1) := by decide +kernel
theorem dX9_due_0 : decode cX9_due 0 = .ok (.aload_n 0, 1) := by decide +kernel
theorem dX9_due_1 : decode cX9_due 1 = .ok (.iload_n 1, 1) := by decide +kernel
theorem dX9_due_2 : decode cX9_due 2 = .ok (.invokestatic 185, 3) := by decide +kernel
theorem dX9_due_5 : decode cX9_due 5 = .ok (.ifCond .eq 7, 3) := by decide +kernel
theorem dX9_due_8 : decode cX9_due 8 = .ok (.iconst 0, 1) := by decide +kernel
theorem dX9_due_9 : decode cX9_due 9 = .ok (.goto 4, 3) := by decide +kernel
theorem dX9_due_12 : decode cX9_due 12 = .ok (.iconst 1, 1) := by decide +kernel
theorem dX9_due_13 : decode cX9_due 13 = .ok (.invokevirtual 168, 3) := by decide +kernel
theorem dX9_due_16 : decode cX9_due 16 = .ok (.ifCond .ne 5, 3) := by decide +kernel
theorem dX9_due_19 : decode cX9_due 19 = .ok (.iconst 0, 1) := by decide +kernel
theorem dX9_due_20 : decode cX9_due 20 = .ok (.ireturn, 1) := by decide +kernel
theorem dX9_due_21 : decode cX9_due 21 = .ok (.iconst 0, 1) := by decide +kernel
