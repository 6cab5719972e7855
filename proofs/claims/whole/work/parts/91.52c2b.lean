theorem dX9_start_58 : decode cX9_start 58 = .ok (.ireturn, 1) := by decide +kernel
theorem dX9_start_59 : decode cX9_start 59 = .ok (.aload_n 0, 1) := by decide +kernel
theorem dX9_start_60 : decode cX9_start 60 = .ok (.getfield 98, 3) := by decide +kernel
theorem dX9_start_63 : decode cX9_start 63 = .ok (.iload_n 1, 1) := by decide +kernel
theorem dX9_start_64 : decode cX9_start 64 = .ok (.iconst 3, 1) := by decide +kernel
theorem dX9_start_65 : decode cX9_start 65 = .ok (.iastore, 1) := by decide +kernel
theorem dX9_start_66 : decode cX9_start 66 = .ok (.aload_n 0, 1) := by decide +kernel
theorem dX9_start_67 : decode cX9_start 67 = .ok (.iload_n 1, 1) := by decide +kernel
theorem dX9_start_68 : decode cX9_start 68 = .ok (.invokevirtual 208, 3) := by decide +kernel
theorem dX9_start_71 : decode cX9_start 71 = .ok (.ireturn, 1) := by decide +kernel
theorem dX9_isSuspect_0 : decode cX9_isSuspect 0 = .ok (.iconst 0, 1) := by decide +kernel
theorem dX9_isSuspect_1 : decode cX9_isSuspect 1 = .ok (.istore_n 3, 1) := by decide +kernel
theorem dX9_isSuspect_2 : decode cX9_isSuspect 2 = .ok (.iconst 0, 1) := by decide +kernel
theorem dX9_isSuspect_3 : decode cX9_isSuspect 3 = .ok (.istore 4, 2) := by decide +kernel
theorem dX9_isSuspect_5 : decode cX9_isSuspect 5 = .ok (.iload 4, 2) := by decide +kernel
theorem dX9_isSuspect_7 : decode cX9_isSuspect 7 = .ok (.aload_n 0, 1) := by decide +kernel
theorem dX9_isSuspect_8 : decode cX9_isSuspect 8 = .ok (.getfield 159, 3) := by decide +kernel
theorem dX9_isSuspect_11 : decode cX9_isSuspect 11 = .ok (.if_icmp .ge 30, 3) := by decide +kernel
theorem dX9_isSuspect_14 : decode cX9_isSuspect 14 = .ok (.iload_n 3, 1) := by decide +kernel
theorem dX9_isSuspect_15 : decode cX9_isSuspect 15 = .ok (.ifCond .ne 14, 3) := by decide +kernel
theorem dX9_isSuspect_18 : decode cX9_isSuspect 18 = .ok (.aload_n 0, 1) := by decide +kernel
theorem dX9_isSuspect_19 : decode cX9_isSuspect 19 = .ok (.iload 4, 2) := by decide +kernel
theorem dX9_isSuspect_21 : decode cX9_isSuspect 21 = .ok (.iload_n 1, 1) := by decide +kernel
theorem dX9_isSuspect_22 : decode cX9_isSuspect 22 = .ok (.iload_n 2, 1) := by decide +kernel
theorem dX9_isSuspect_23 : decode cX9_isSuspect 23 = .ok (.invokevirtual 192, 3) := by decide +kernel
theorem dX9_isSuspect_26 : decode cX9_isSuspect 26 = .ok (.ifCond .eq 7, 3) := by decide +kernel
theorem dX9_isSuspect_29 : decode cX9_isSuspect 29 = .ok (.iconst 1, 1) := by decide +kernel
theorem dX9_isSuspect_30 : decode cX9_isSuspect 30 = .ok (.goto 4, 3) := by decide +kernel
theorem dX9_isSuspect_33 : decode cX9_isSuspect 33 = .ok (.iconst 0, 1) := by decide +kernel
theorem dX9_isSuspect_34 : decode cX9_isSuspect 34 = .ok (.istore_n 3, 1) := by decide +kernel
theorem dX9_isSuspect_35 : decode cX9_isSuspect 35 = .ok (.iinc 4 1, 3) := by decide +kernel
theorem dX9_isSuspect_38 : decode cX9_isSuspect 38 = .ok (.goto (-33), 3) := by decide +kernel
theorem dX9_isSuspect_41 : decode cX9_isSuspect 41 = .ok (.iload_n 3, 1) := by decide +kernel
theorem dX9_isSuspect_42 : decode cX9_isSuspect 42 = .ok (.ireturn, 1) := by decide +kernel
theorem dX9_isOff_0 : decode cX9_isOff 0 = .ok (.bipush 40, 2) := by decide +kernel
theorem dX9_isOff_2 : decode cX9_isOff 2 = .ok (.aload_n 0, 1) := by decide +kernel
theorem dX9_isOff_3 : decode cX9_isOff 3 = .ok (.getfield 74, 3) := by decide +kernel
theorem dX9_isOff_6 : decode cX9_isOff 6 = .ok (.iload_n 1, 1) := by decide +kernel
theorem dX9_isOff_7 : decode cX9_isOff 7 = .ok (.iaload, 1) := by decide +kernel
theorem dX9_isOff_8 : decode cX9_isOff 8 = .ok (.imul, 1) := by decide +kernel
theorem dX9_isOff_9 : decode cX9_isOff 9 = .ok (.iload_n 2, 1) := by decide +kernel
theorem dX9_isOff_10 : decode cX9_isOff 10 = .ok (.iadd, 1) := by decide +kernel
theorem dX9_isOff_11 : decode cX9_isOff 11 = .ok (.istore_n 3, 1) := by decide +kernel
theorem dX9_isOff_12 : decode cX9_isOff 12 = .ok (.aload_n 0, 1) := by decide +kernel
theorem dX9_isOff_13 : decode cX9_isOff 13 = .ok (.getfield 101, 3) := by decide +kernel
theorem dX9_isOff_16 : decode cX9_isOff 16 = .ok (.iload_n 1, 1) := by decide +kernel
theorem dX9_isOff_17 : decode cX9_isOff 17 = .ok (.iaload, 1) := by decide +kernel
theorem dX9_isOff_18 : decode cX9_isOff 18 = .ok (.iconst 1, 1) := by decide +kernel
theorem dX9_isOff_19 : decode cX9_isOff 19 = .ok (.iand, 1) := by decide +kernel
theorem dX9_isOff_20 : decode cX9_isOff 20 = .ok (.ifCond .eq 14, 3) := by decide +kernel
theorem dX9_isOff_23 : decode cX9_isOff 23 = .ok (.aload_n 0, 1) := by decide +kernel
theorem dX9_isOff_24 : decode cX9_isOff 24 = .ok (.invokevirtual 243, 3) := by decide +kernel
theorem dX9_isOff_27 : decode cX9_isOff 27 = .ok (.ifCond .eq 7, 3) := by decide +kernel
theorem dX9_isOff_30 : decode cX9_isOff 30 = .ok (.iconst 1, 1) := by decide +kernel
theorem dX9_isOff_31 : decode cX9_isOff 31 = .ok (.goto 4, 3) := by decide +kernel
theorem dX9_isOff_34 : decode cX9_isOff 34 = .ok (.iconst 0, 1) := by decide +kernel
theorem dX9_isOff_35 : decode cX9_isOff 35 = .ok (.istore 4, 2) := by decide +kernel
theorem dX9_isOff_37 : decode cX9_isOff 37 = .ok (.aload_n 0, 1) := by decide +kernel
theorem dX9_isOff_38 : decode cX9_isOff 38 = .ok (.getfield 98, 3) := by decide +kernel
theorem dX9_isOff_41 : decode cX9_isOff 41 = .ok (.iload_n 1, 1) := by decide +kernel
theorem dX9_isOff_42 : decode cX9_isOff 42 = .ok (.iaload, 1) := by decide +kernel
theorem dX9_isOff_43 : decode cX9_isOff 43 = .ok (.iconst 3, 1) := by decide +kernel
theorem dX9_isOff_44 : decode cX9_isOff 44 = .ok (.if_icmp .ne 50, 3) := by decide +kernel
theorem dX9_isOff_47 : decode cX9_isOff 47 = .ok (.aload_n 0, 1) := by decide +kernel
theorem dX9_isOff_48 : decode cX9_isOff 48 = .ok (.getfield 110, 3) := by decide +kernel
theorem dX9_isOff_51 : decode cX9_isOff 51 = .ok (.iload_n 1, 1) := by decide +kernel
theorem dX9_isOff_52 : decode cX9_isOff 52 = .ok (.baload, 1) := by decide +kernel
theorem dX9_isOff_53 : decode cX9_isOff 53 = .ok (.ifCond .ne 41, 3) := by decide +kernel
theorem dX9_isOff_56 : decode cX9_isOff 56 = .ok (.iload 4, 2) := by decide +kernel
theorem dX9_isOff_58 : decode cX9_isOff 58 = .ok (.ifCond .ne 36, 3) := by decide +kernel
theorem dX9_isOff_61 : decode cX9_isOff 61 = .ok (.aload_n 0, 1) := by decide +kernel
theorem dX9_isOff_62 : decode cX9_isOff 62 = .ok (.getfield 44, 3) := by decide +kernel
theorem dX9_isOff_65 : decode cX9_isOff 65 = .ok (.iload_n 3, 1) := by decide +kernel
theorem dX9_isOff_66 : decode cX9_isOff 66 = .ok (.iaload, 1) := by decide +kernel
theorem dX9_isOff_67 : decode cX9_isOff 67 = .ok (.iconst (-1), 1) := by decide +kernel
theorem dX9_isOff_68 : decode cX9_isOff 68 = .ok (.if_icmp .ne 26, 3) := by decide +kernel
theorem dX9_isOff_71 : decode cX9_isOff 71 = .ok (.aload_n 0, 1) := by decide +kernel
theorem dX9_isOff_72 : decode cX9_isOff 72 = .ok (.getfield 40, 3) := by decide +kernel
theorem dX9_isOff_75 : decode cX9_isOff 75 = .ok (.iload_n 3, 1) := by decide +kernel
theorem dX9_isOff_76 : decode cX9_isOff 76 = .ok (.baload, 1) := by decide +kernel
theorem dX9_isOff_77 : decode cX9_isOff 77 = .ok (.ifCond .ne 21, 3) := by decide +kernel
theorem dX9_isOff_80 : decode cX9_isOff 80 = .ok (.aload_n 0, 1) := by decide +kernel
theorem dX9_isOff_81 : decode cX9_isOff 81 = .ok (.aload_n 0, 1) := by decide +kernel
theorem dX9_isOff_82 : decode cX9_isOff 82 = .ok (.getfield 74, 3) := by decide +kernel
theorem dX9_isOff_85 : decode cX9_isOff 85 = .ok (.iload_n 1, 1) := by decide +kernel
theorem dX9_isOff_86 : decode cX9_isOff 86 = .ok (.iaload, 1) := by decide +kernel
theorem dX9_isOff_87 : decode cX9_isOff 87 = .ok (.iload_n 2, 1) := by decide +kernel
theorem dX9_isOff_88 : decode cX9_isOff 88 = .ok (.invokevirtual 247, 3) := by decide +kernel
theorem dX9_isOff_91 : decode cX9_isOff 91 = .ok (.ifCond .eq 7, 3) := by decide +kernel
theorem dX9_isOff_94 : decode cX9_isOff 94 = .ok (.iconst 1, 1) := by decide +kernel
theorem dX9_isOff_95 : decode cX9_isOff 95 = .ok (.goto 4, 3) := by decide +kernel
theorem dX9_isOff_98 : decode cX9_isOff 98 = .ok (.iconst 0, 1) := by decide +kernel
theorem dX9_isOff_99 : decode cX9_isOff 99 = .ok (.ireturn, 1) := by decide +kernel
theorem dX9_isOf_0 : decode cX9_isOf 0 = .ok (.aload_n 0, 1) := by decide +kernel
theorem dX9_isOf_1 : decode cX9_isOf 1 = .ok (.iload_n 1, 1) := by decide +kernel
theorem dX9_isOf_2 : decode cX9_isOf 2 = .ok (.invokevirtual 234, 3) := by decide +kernel
theorem dX9_isOf_5 : decode cX9_isOf 5 = .ok (.ifCond .eq 26, 3) := by decide +kernel
theorem dX9_isOf_8 : decode cX9_isOf 8 = .ok (.iload_n 2, 1) := by decide +kernel
theorem dX9_isOf_9 : decode cX9_isOf 9 = .ok (.aload_n 0, 1) := by decide +kernel
theorem dX9_isOf_10 : decode cX9_isOf 10 = .ok (.getfield 77, 3) := by decide +kernel
theorem dX9_isOf_13 : decode cX9_isOf 13 = .ok (.iload_n 1, 1) := by decide +kernel
theorem dX9_isOf_14 : decode cX9_isOf 14 = .ok (.iaload, 1) := by decide +kernel
theorem dX9_isOf_15 : decode cX9_isOf 15 = .ok (.aload_n 0, 1) := by decide +kernel
theorem dX9_isOf_16 : decode cX9_isOf 16 = .ok (.getfield 80, 3) := by decide +kernel
theorem dX9_isOf_19 : decode cX9_isOf 19 = .ok (.iload_n 1, 1) := by decide +kernel
theorem dX9_isOf_20 : decode cX9_isOf 20 = .ok (.iaload, 1) := by decide +kernel
theorem dX9_isOf_21 : decode cX9_isOf 21 = .ok (.invokestatic 151, 3) := by decide +kernel
theorem dX9_isOf_24 : decode cX9_isOf 24 = .ok (.ifCond .eq 7, 3) := by decide +kernel
theorem dX9_isOf_27 : decode cX9_isOf 27 = .ok (.iconst 1, 1) := by decide +kernel
theorem dX9_isOf_28 : decode cX9_isOf 28 = .ok (.goto 4, 3) := by decide +kernel
theorem dX9_isOf_31 : decode cX9_isOf 31 = .ok (.iconst 0, 1) := by decide +kernel
theorem dX9_isOf_32 : decode cX9_isOf 32 = .ok (.ireturn, 1) := by decide +kernel
theorem dX9_open_0 : decode cX9_open 0 = .ok (.aload_n 0, 1) := by decide +kernel
theorem dX9_open_1 : decode cX9_open 1 = .ok (.iload_n 1, 1) := by decide +kernel
theorem dX9_open_2 : decode cX9_open 2 = .ok (.iload_n 2, 1) := by decide +kernel
theorem dX9_open_3 : decode cX9_open 3 = .ok (.invokevirtual 250, 3) := by decide +kernel
theorem dX9_open_6 : decode cX9_open 6 = .ok (.istore_n 3, 1) := by decide +kernel
theorem dX9_open_7 : decode cX9_open 7 = .ok (.aload_n 0, 1) := by decide +kernel
theorem dX9_open_8 : decode cX9_open 8 = .ok (.iload_n 3, 1) := by decide +kernel
theorem dX9_open_9 : decode cX9_open 9 = .ok (.ifCond .ne 7, 3) := by decide +kernel
theorem dX9_open_12 : decode cX9_open 12 = .ok (.iconst 1, 1) := by decide +kernel
theorem dX9_open_13 : decode cX9_open 13 = .ok (.goto 17, 3) := by decide +kernel
theorem dX9_open_16 : decode cX9_open 16 = .ok (.aload_n 0, 1) := by decide +kernel
theorem dX9_open_17 : decode cX9_open 17 = .ok (.iload_n 1, 1) := by decide +kernel
theorem dX9_open_18 : decode cX9_open 18 = .ok (.iload_n 2, 1) := by decide +kernel
theorem dX9_open_19 : decode cX9_open 19 = .ok (.invokevirtual 253, 3) := by decide +kernel
theorem dX9_open_22 : decode cX9_open 22 = .ok (.ifCond .eq 7, 3) := by decide +kernel
theorem dX9_open_25 : decode cX9_open 25 = .ok (.iconst 2, 1) := by decide +kernel
theorem dX9_open_26 : decode cX9_open 26 = .ok (.goto 4, 3) := by decide +kernel
theorem dX9_open_29 : decode cX9_open 29 = .ok (.iconst 0, 1) := by decide +kernel
theorem dX9_open_30 : decode cX9_open 30 = .ok (.invokevirtual 168, 3) := by decide +kernel
theorem dX9_open_33 : decode cX9_open 33 = .ok (.ifCond .ne 5, 3) := by decide +kernel
theorem dX9_open_36 : decode cX9_open 36 = .ok (.iconst 0, 1) := by decide +kernel
theorem dX9_open_37 : decode cX9_open 37 = .ok (.ireturn, 1) := by decide +kernel
theorem dX9_open_38 : decode cX9_open 38 = .ok (.bipush 40, 2) := by decide +kernel
theorem dX9_open_40 : decode cX9_open 40 = .ok (.aload_n 0, 1) := by decide +kernel
theorem dX9_open_41 : decode cX9_open 41 = .ok (.getfield 74, 3) := by decide +kernel
theorem dX9_open_44 : decode cX9_open 44 = .ok (.iload_n 1, 1) := by decide +kernel
theorem dX9_open_45 : decode cX9_open 45 = .ok (.iaload, 1) := by decide +kernel
theorem dX9_open_46 : decode cX9_open 46 = .ok (.imul, 1) := by decide +kernel
theorem dX9_open_47 : decode cX9_open 47 = .ok (.iload_n 2, 1) := by decide +kernel
theorem dX9_open_48 : decode cX9_open 48 = .ok (.iadd, 1) := by decide +kernel
theorem dX9_open_49 : decode cX9_open 49 = .ok (.istore 4, 2) := by decide +kernel
theorem dX9_open_51 : decode cX9_open 51 = .ok (.iconst 0, 1) := by decide +kernel
theorem dX9_open_52 : decode cX9_open 52 = .ok (.istore 5, 2) := by decide +kernel
theorem dX9_open_54 : decode cX9_open 54 = .ok (.iconst 0, 1) := by decide +kernel
theorem dX9_open_55 : decode cX9_open 55 = .ok (.istore 6, 2) := by decide +kernel
theorem dX9_open_57 : decode cX9_open 57 = .ok (.iload 6, 2) := by decide +kernel
theorem dX9_open_59 : decode cX9_open 59 = .ok (.aload_n 0, 1) := by decide +kernel
theorem dX9_open_60 : decode cX9_open 60 = .ok (.getfield 159, 3) := by decide +kernel
theorem dX9_open_63 : decode cX9_open 63 = .ok (.if_icmp .ge 74, 3) := by decide +kernel
theorem dX9_open_66 : decode cX9_open 66 = .ok (.aload_n 0, 1) := by decide +kernel
theorem dX9_open_67 : decode cX9_open 67 = .ok (.getfield 40, 3) := by decide +kernel
theorem dX9_open_70 : decode cX9_open 70 = .ok (.iload 4, 2) := by decide +kernel
theorem dX9_open_72 : decode cX9_open 72 = .ok (.baload, 1) := by decide +kernel
theorem dX9_open_73 : decode cX9_open 73 = .ok (.ifCond .ne 64, 3) := by decide +kernel
theorem dX9_open_76 : decode cX9_open 76 = .ok (.aload_n 0, 1) := by decide +kernel
theorem dX9_open_77 : decode cX9_open 77 = .ok (.iload 6, 2) := by decide +kernel
theorem dX9_open_79 : decode cX9_open 79 = .ok (.aload_n 0, 1) := by decide +kernel
theorem dX9_open_80 : decode cX9_open 80 = .ok (.getfield 74, 3) := by decide +kernel
theorem dX9_open_83 : decode cX9_open 83 = .ok (.iload_n 1, 1) := by decide +kernel
theorem dX9_open_84 : decode cX9_open 84 = .ok (.iaload, 1) := by decide +kernel
theorem dX9_open_85 : decode cX9_open 85 = .ok (.iload_n 2, 1) := by decide +kernel
theorem dX9_open_86 : decode cX9_open 86 = .ok (.invokevirtual 205, 3) := by decide +kernel
theorem dX9_open_89 : decode cX9_open 89 = .ok (.ifCond .eq 42, 3) := by decide +kernel
theorem dX9_open_92 : decode cX9_open 92 = .ok (.aload_n 0, 1) := by decide +kernel
theorem dX9_open_93 : decode cX9_open 93 = .ok (.getfield 59, 3) := by decide +kernel
theorem dX9_open_96 : decode cX9_open 96 = .ok (.iload 6, 2) := by decide +kernel
theorem dX9_open_98 : decode cX9_open 98 = .ok (.iaload, 1) := by decide +kernel
theorem dX9_open_99 : decode cX9_open 99 = .ok (.aload_n 0, 1) := by decide +kernel
theorem dX9_open_100 : decode cX9_open 100 = .ok (.getfield 83, 3) := by decide +kernel
theorem dX9_open_103 : decode cX9_open 103 = .ok (.iload_n 1, 1) := by decide +kernel
theorem dX9_open_104 : decode cX9_open 104 = .ok (.iaload, 1) := by decide +kernel
theorem dX9_open_105 : decode cX9_open 105 = .ok (.if_icmp .gt 26, 3) := by decide +kernel
theorem dX9_open_108 : decode cX9_open 108 = .ok (.aload_n 0, 1) := by decide +kernel
theorem dX9_open_109 : decode cX9_open 109 = .ok (.aload_n 0, 1) := by decide +kernel
theorem dX9_open_110 : decode cX9_open 110 = .ok (.getfield 71, 3) := by decide +kernel
theorem dX9_open_113 : decode cX9_open 113 = .ok (.iload_n 1, 1) := by decide +kernel
theorem dX9_open_114 : decode cX9_open 114 = .ok (.iaload, 1) := by decide +kernel
theorem dX9_open_115 : decode cX9_open 115 = .ok (.aload_n 0, 1) := by decide +kernel
theorem dX9_open_116 : decode cX9_open 116 = .ok (.getfield 47, 3) := by decide +kernel
theorem dX9_open_119 : decode cX9_open 119 = .ok (.iload 6, 2) := by decide +kernel
theorem dX9_open_121 : decode cX9_open 121 = .ok (.iaload, 1) := by decide +kernel
theorem dX9_open_122 : decode cX9_open 122 = .ok (.sipush 1000, 3) := by decide +kernel
theorem dX9_open_125 : decode cX9_open 125 = .ok (.invokevirtual 230, 3) := by decide +kernel
theorem dX9_open_128 : decode cX9_open 128 = .ok (.iinc 5 1, 3) := by decide +kernel
theorem dX9_open_131 : decode cX9_open 131 = .ok (.iinc 6 1, 3) := by decide +kernel
theorem dX9_open_134 : decode cX9_open 134 = .ok (.goto (-77), 3) := by decide +kernel
theorem dX9_open_137 : decode cX9_open 137 = .ok (.aload_n 0, 1) := by decide +kernel
theorem dX9_open_138 : decode cX9_open 138 = .ok (.getfield 107, 3) := by decide +kernel
theorem dX9_open_141 : decode cX9_open 141 = .ok (.iload_n 1, 1) := by decide +kernel
theorem dX9_open_142 : decode cX9_open 142 = .ok (.dup2, 1) := by decide +kernel
theorem dX9_open_143 : decode cX9_open 143 = .ok (.iaload, 1) := by decide +kernel
theorem dX9_open_144 : decode cX9_open 144 = .ok (.iload 5, 2) := by decide +kernel
theorem dX9_open_146 : decode cX9_open 146 = .ok (.iadd, 1) := by decide +kernel
theorem dX9_open_147 : decode cX9_open 147 = .ok (.iastore, 1) := by decide +kernel
theorem dX9_open_148 : decode cX9_open 148 = .ok (.aload_n 0, 1) := by decide +kernel
theorem dX9_open_149 : decode cX9_open 149 = .ok (.getfield 40, 3) := by decide +kernel
theorem dX9_open_152 : decode cX9_open 152 = .ok (.iload 4, 2) := by decide +kernel
theorem dX9_open_154 : decode cX9_open 154 = .ok (.iconst 1, 1) := by decide +kernel
theorem dX9_open_155 : decode cX9_open 155 = .ok (.bastore, 1) := by decide +kernel
theorem dX9_open_156 : decode cX9_open 156 = .ok (.aload_n 0, 1) := by decide +kernel
theorem dX9_open_157 : decode cX9_open 157 = .ok (.getfield 44, 3) := by decide +kernel
theorem dX9_open_160 : decode cX9_open 160 = .ok (.iload 4, 2) := by decide +kernel
theorem dX9_open_162 : decode cX9_open 162 = .ok (.iload_n 1, 1) := by decide +kernel
theorem dX9_open_163 : decode cX9_open 163 = .ok (.iastore, 1) := by decide +kernel
theorem dX9_open_164 : decode cX9_open 164 = .ok (.iload 5, 2) := by decide +kernel
theorem dX9_open_166 : decode cX9_open 166 = .ok (.ireturn, 1) := by decide +kernel
theorem dX9_fillsOf_0 : decode cX9_fillsOf 0 = .ok (.iconst 0, 1) := by decide +kernel
theorem dX9_fillsOf_1 : decode cX9_fillsOf 1 = .ok (.istore_n 2, 1) := by decide +kernel
theorem dX9_fillsOf_2 : decode cX9_fillsOf 2 = .ok (.iconst 0, 1) := by decide +kernel
theorem dX9_fillsOf_3 : decode cX9_fillsOf 3 = .ok (.istore_n 3, 1) := by decide +kernel
theorem dX9_fillsOf_4 : decode cX9_fillsOf 4 = .ok (.iload_n 3, 1) := by decide +kernel
theorem dX9_fillsOf_5 : decode cX9_fillsOf 5 = .ok (.aload_n 0, 1) := by decide +kernel
theorem dX9_fillsOf_6 : decode cX9_fillsOf 6 = .ok (.getfield 179, 3) := by decide +kernel
theorem dX9_fillsOf_9 : decode cX9_fillsOf 9 = .ok (.if_icmp .ge 27, 3) := by decide +kernel
theorem dX9_fillsOf_12 : decode cX9_fillsOf 12 = .ok (.iload_n 2, 1) := by decide +kernel
theorem dX9_fillsOf_13 : decode cX9_fillsOf 13 = .ok (.aload_n 0, 1) := by decide +kernel
theorem dX9_fillsOf_14 : decode cX9_fillsOf 14 = .ok (.getfield 119, 3) := by decide +kernel
theorem dX9_fillsOf_17 : decode cX9_fillsOf 17 = .ok (.iload_n 3, 1) := by decide +kernel
theorem dX9_fillsOf_18 : decode cX9_fillsOf 18 = .ok (.iaload, 1) := by decide +kernel
theorem dX9_fillsOf_19 : decode cX9_fillsOf 19 = .ok (.iload_n 1, 1) := by decide +kernel
theorem dX9_fillsOf_20 : decode cX9_fillsOf 20 = .ok (.if_icmp .ne 7, 3) := by decide +kernel
theorem dX9_fillsOf_23 : decode cX9_fillsOf 23 = .ok (.iconst 1, 1) := by decide +kernel
theorem dX9_fillsOf_24 : decode cX9_fillsOf 24 = .ok (.goto 4, 3) := by decide +kernel
theorem dX9_fillsOf_27 : decode cX9_fillsOf 27 = .ok (.iconst 0, 1) := by decide +kernel
theorem dX9_fillsOf_28 : decode cX9_fillsOf 28 = .ok (.iadd, 1) := by decide +kernel
theorem dX9_fillsOf_29 : decode cX9_fillsOf 29 = .ok (.istore_n 2, 1) := by decide +kernel
theorem dX9_fillsOf_30 : decode cX9_fillsOf 30 = .ok (.iinc 3 1, 3) := by decide +kernel
theorem dX9_fillsOf_33 : decode cX9_fillsOf 33 = .ok (.goto (-29), 3) := by decide +kernel
theorem dX9_fillsOf_36 : decode cX9_fillsOf 36 = .ok (.iload_n 2, 1) := by decide +kernel
theorem dX9_fillsOf_37 : decode cX9_fillsOf 37 = .ok (.ireturn, 1) := by decide +kernel
theorem dX9_fill_0 : decode cX9_fill 0 = .ok (.aload_n 0, 1) := by decide +kernel
theorem dX9_fill_1 : decode cX9_fill 1 = .ok (.iload_n 1, 1) := by decide +kernel
theorem dX9_fill_2 : decode cX9_fill 2 = .ok (.iload_n 2, 1) := by decide +kernel
theorem dX9_fill_3 : decode cX9_fill 3 = .ok (.invokevirtual 250, 3) := by decide +kernel
theorem dX9_fill_6 : decode cX9_fill 6 = .ok (.istore 4, 2) := by decide +kernel
theorem dX9_fill_8 : decode cX9_fill 8 = .ok (.iload 4, 2) := by decide +kernel
theorem dX9_fill_10 : decode cX9_fill 10 = .ok (.ifCond .eq 17, 3) := by decide +kernel
theorem dX9_fill_13 : decode cX9_fill 13 = .ok (.bipush 40, 2) := by decide +kernel
theorem dX9_fill_15 : decode cX9_fill 15 = .ok (.aload_n 0, 1) := by decide +kernel
theorem dX9_fill_16 : decode cX9_fill 16 = .ok (.getfield 74, 3) := by decide +kernel
theorem dX9_fill_19 : decode cX9_fill 19 = .ok (.iload_n 1, 1) := by decide +kernel
theorem dX9_fill_20 : decode cX9_fill 20 = .ok (.iaload, 1) := by decide +kernel
theorem dX9_fill_21 : decode cX9_fill 21 = .ok (.imul, 1) := by decide +kernel
theorem dX9_fill_22 : decode cX9_fill 22 = .ok (.iload_n 2, 1) := by decide +kernel
theorem dX9_fill_23 : decode cX9_fill 23 = .ok (.iadd, 1) := by decide +kernel
theorem dX9_fill_24 : decode cX9_fill 24 = .ok (.goto 4, 3) := by decide +kernel
theorem dX9_fill_27 : decode cX9_fill 27 = .ok (.iconst 0, 1) := by decide +kernel
theorem dX9_fill_28 : decode cX9_fill 28 = .ok (.istore 5, 2) := by decide +kernel
theorem dX9_fill_30 : decode cX9_fill 30 = .ok (.aload_n 0, 1) := by decide +kernel
theorem dX9_fill_31 : decode cX9_fill 31 = .ok (.iload 4, 2) := by decide +kernel
theorem dX9_fill_33 : decode cX9_fill 33 = .ok (.ifCond .ne 7, 3) := by decide +kernel
theorem dX9_fill_36 : decode cX9_fill 36 = .ok (.iconst 1, 1) := by decide +kernel
theorem dX9_fill_37 : decode cX9_fill 37 = .ok (.goto 33, 3) := by decide +kernel
theorem dX9_fill_40 : decode cX9_fill 40 = .ok (.iload_n 3, 1) := by decide +kernel
theorem dX9_fill_41 : decode cX9_fill 41 = .ok (.iconst 0, 1) := by decide +kernel
theorem dX9_fill_42 : decode cX9_fill 42 = .ok (.bipush 100, 2) := by decide +kernel
theorem dX9_fill_44 : decode cX9_fill 44 = .ok (.invokestatic 151, 3) := by decide +kernel
theorem dX9_fill_47 : decode cX9_fill 47 = .ok (.ifCond .ne 7, 3) := by decide +kernel
theorem dX9_fill_50 : decode cX9_fill 50 = .ok (.iconst 2, 1) := by decide +kernel
theorem dX9_fill_51 : decode cX9_fill 51 = .ok (.goto 19, 3) := by decide +kernel
theorem dX9_fill_54 : decode cX9_fill 54 = .ok (.aload_n 0, 1) := by decide +kernel
theorem dX9_fill_55 : decode cX9_fill 55 = .ok (.getfield 44, 3) := by decide +kernel
theorem dX9_fill_58 : decode cX9_fill 58 = .ok (.iload 5, 2) := by decide +kernel
theorem dX9_fill_60 : decode cX9_fill 60 = .ok (.iaload, 1) := by decide +kernel
theorem dX9_fill_61 : decode cX9_fill 61 = .ok (.iload_n 1, 1) := by decide +kernel
theorem dX9_fill_62 : decode cX9_fill 62 = .ok (.if_icmp .eq 7, 3) := by decide +kernel
theorem dX9_fill_65 : decode cX9_fill 65 = .ok (.iconst 3, 1) := by decide +kernel
theorem dX9_fill_66 : decode cX9_fill 66 = .ok (.goto 4, 3) := by decide +kernel
theorem dX9_fill_69 : decode cX9_fill 69 = .ok (.iconst 0, 1) := by decide +kernel
theorem dX9_fill_70 : decode cX9_fill 70 = .ok (.invokevirtual 168, 3) := by decide +kernel
theorem dX9_fill_73 : decode cX9_fill 73 = .ok (.ifCond .ne 5, 3) := by decide +kernel
theorem dX9_fill_76 : decode cX9_fill 76 = .ok (.iconst 0, 1) := by decide +kernel
theorem dX9_fill_77 : decode cX9_fill 77 = .ok (.ireturn, 1) := by decide +kernel
theorem dX9_fill_78 : decode cX9_fill 78 = .ok (.aload_n 0, 1) := by decide +kernel
theorem dX9_fill_79 : decode cX9_fill 79 = .ok (.getfield 44, 3) := by decide +kernel
theorem dX9_fill_82 : decode cX9_fill 82 = .ok (.iload 5, 2) := by decide +kernel
theorem dX9_fill_84 : decode cX9_fill 84 = .ok (.iconst (-1), 1) := by decide +kernel
theorem dX9_fill_85 : decode cX9_fill 85 = .ok (.iastore, 1) := by decide +kernel
theorem dX9_fill_86 : decode cX9_fill 86 = .ok (.aload_n 0, 1) := by decide +kernel
theorem dX9_fill_87 : decode cX9_fill 87 = .ok (.getfield 119, 3) := by decide +kernel
theorem dX9_fill_90 : decode cX9_fill 90 = .ok (.aload_n 0, 1) := by decide +kernel
theorem dX9_fill_91 : decode cX9_fill 91 = .ok (.getfield 179, 3) := by decide +kernel
theorem dX9_fill_94 : decode cX9_fill 94 = .ok (.iload 5, 2) := by decide +kernel
theorem dX9_fill_96 : decode cX9_fill 96 = .ok (.iastore, 1) := by decide +kernel
theorem dX9_fill_97 : decode cX9_fill 97 = .ok (.aload_n 0, 1) := by decide +kernel
theorem dX9_fill_98 : decode cX9_fill 98 = .ok (.getfield 122, 3) := by decide +kernel
theorem dX9_fill_101 : decode cX9_fill 101 = .ok (.aload_n 0, 1) := by decide +kernel
theorem dX9_fill_102 : decode cX9_fill 102 = .ok (.getfield 179, 3) := by decide +kernel
theorem dX9_fill_105 : decode cX9_fill 105 = .ok (.iload_n 1, 1) := by decide +kernel
theorem dX9_fill_106 : decode cX9_fill 106 = .ok (.iastore, 1) := by decide +kernel
theorem dX9_fill_107 : decode cX9_fill 107 = .ok (.aload_n 0, 1) := by decide +kernel
theorem dX9_fill_108 : decode cX9_fill 108 = .ok (.getfield 125, 3) := by decide +kernel
theorem dX9_fill_111 : decode cX9_fill 111 = .ok (.aload_n 0, 1) := by decide +kernel
theorem dX9_fill_112 : decode cX9_fill 112 = .ok (.getfield 179, 3) := by decide +kernel
theorem dX9_fill_115 : decode cX9_fill 115 = .ok (.aload_n 0, 1) := by decide +kernel
theorem dX9_fill_116 : decode cX9_fill 116 = .ok (.invokevirtual 175, 3) := by decide +kernel
theorem dX9_fill_119 : decode cX9_fill 119 = .ok (.iastore, 1) := by decide +kernel
theorem dX9_fill_120 : decode cX9_fill 120 = .ok (.aload_n 0, 1) := by decide +kernel
theorem dX9_fill_121 : decode cX9_fill 121 = .ok (.getfield 128, 3) := by decide +kernel
theorem dX9_fill_124 : decode cX9_fill 124 = .ok (.aload_n 0, 1) := by decide +kernel
theorem dX9_fill_125 : decode cX9_fill 125 = .ok (.getfield 179, 3) := by decide +kernel
theorem dX9_fill_128 : decode cX9_fill 128 = .ok (.iload_n 3, 1) := by decide +kernel
theorem dX9_fill_129 : decode cX9_fill 129 = .ok (.iastore, 1) := by decide +kernel
theorem dX9_fill_130 : decode cX9_fill 130 = .ok (.aload_n 0, 1) := by decide +kernel
theorem dX9_fill_131 : decode cX9_fill 131 = .ok (.dup, 1) := by decide +kernel
theorem dX9_fill_132 : decode cX9_fill 132 = .ok (.getfield 179, 3) := by decide +kernel
theorem dX9_fill_135 : decode cX9_fill 135 = .ok (.iconst 1, 1) := by decide +kernel
theorem dX9_fill_136 : decode cX9_fill 136 = .ok (.iadd, 1) := by decide +kernel
theorem dX9_fill_137 : decode cX9_fill 137 = .ok (.putfield 179, 3) := by decide +kernel
theorem dX9_fill_140 : decode cX9_fill 140 = .ok (.aload_n 0, 1) := by decide +kernel
theorem dX9_fill_141 : decode cX9_fill 141 = .ok (.iload 5, 2) := by decide +kernel
theorem dX9_fill_143 : decode cX9_fill 143 = .ok (.invokevirtual 256, 3) := by decide +kernel
theorem dX9_fill_146 : decode cX9_fill 146 = .ok (.ireturn, 1) := by decide +kernel
theorem dX9_plate_0 : decode cX9_plate 0 = .ok (.aload_n 0, 1) := by decide +kernel
theorem dX9_plate_1 : decode cX9_plate 1 = .ok (.iload_n 1, 1) := by decide +kernel
theorem dX9_plate_2 : decode cX9_plate 2 = .ok (.invokevirtual 234, 3) := by decide +kernel
theorem dX9_plate_5 : decode cX9_plate 5 = .ok (.istore_n 2, 1) := by decide +kernel
theorem dX9_plate_6 : decode cX9_plate 6 = .ok (.aload_n 0, 1) := by decide +kernel
theorem dX9_plate_7 : decode cX9_plate 7 = .ok (.iload_n 2, 1) := by decide +kernel
theorem dX9_plate_8 : decode cX9_plate 8 = .ok (.ifCond .ne 7, 3) := by decide +kernel
theorem dX9_plate_11 : decode cX9_plate 11 = .ok (.iconst 1, 1) := by decide +kernel
theorem dX9_plate_12 : decode cX9_plate 12 = .ok (.goto 18, 3) := by decide +kernel
theorem dX9_plate_15 : decode cX9_plate 15 = .ok (.aload_n 0, 1) := by decide +kernel
theorem dX9_plate_16 : decode cX9_plate 16 = .ok (.getfield 98, 3) := by decide +kernel
theorem dX9_plate_19 : decode cX9_plate 19 = .ok (.iload_n 1, 1) := by decide +kernel
theorem dX9_plate_20 : decode cX9_plate 20 = .ok (.iaload, 1) := by decide +kernel
theorem dX9_plate_21 : decode cX9_plate 21 = .ok (.iconst 3, 1) := by decide +kernel
theorem dX9_plate_22 : decode cX9_plate 22 = .ok (.if_icmp .ne 7, 3) := by decide +kernel
theorem dX9_plate_25 : decode cX9_plate 25 = .ok (.iconst 0, 1) := by decide +kernel
theorem dX9_plate_26 : decode cX9_plate 26 = .ok (.goto 4, 3) := by decide +kernel
theorem dX9_plate_29 : decode cX9_plate 29 = .ok (.iconst 2, 1) := by decide +kernel
theorem dX9_plate_30 : decode cX9_plate 30 = .ok (.invokevirtual 168, 3) := by decide +kernel
theorem dX9_plate_33 : decode cX9_plate 33 = .ok (.ifCond .ne 5, 3) := by decide +kernel
theorem dX9_plate_36 : decode cX9_plate 36 = .ok (.iconst 0, 1) := by decide +kernel
theorem dX9_plate_37 : decode cX9_plate 37 = .ok (.ireturn, 1) := by decide +kernel
theorem dX9_plate_38 : decode cX9_plate 38 = .ok (.aload_n 0, 1) := by decide +kernel
theorem dX9_plate_39 : decode cX9_plate 39 = .ok (.getfield 110, 3) := by decide +kernel
theorem dX9_plate_42 : decode cX9_plate 42 = .ok (.iload_n 1, 1) := by decide +kernel
theorem dX9_plate_43 : decode cX9_plate 43 = .ok (.aload_n 0, 1) := by decide +kernel
theorem dX9_plate_44 : decode cX9_plate 44 = .ok (.getfield 110, 3) := by decide +kernel
theorem dX9_plate_47 : decode cX9_plate 47 = .ok (.iload_n 1, 1) := by decide +kernel
theorem dX9_plate_48 : decode cX9_plate 48 = .ok (.baload, 1) := by decide +kernel
theorem dX9_plate_49 : decode cX9_plate 49 = .ok (.ifCond .ne 7, 3) := by decide +kernel
theorem dX9_plate_52 : decode cX9_plate 52 = .ok (.iconst 1, 1) := by decide +kernel
theorem dX9_plate_53 : decode cX9_plate 53 = .ok (.goto 4, 3) := by decide +kernel
theorem dX9_plate_56 : decode cX9_plate 56 = .ok (.iconst 0, 1) := by decide +kernel
theorem dX9_plate_57 : decode cX9_plate 57 = .ok (.bastore, 1) := by decide +kernel
theorem dX9_plate_58 : decode cX9_plate 58 = .ok (.aload_n 0, 1) := by decide +kernel
theorem dX9_plate_59 : decode cX9_plate 59 = .ok (.getfield 110, 3) := by decide +kernel
theorem dX9_plate_62 : decode cX9_plate 62 = .ok (.iload_n 1, 1) := by decide +kernel
theorem dX9_plate_63 : decode cX9_plate 63 = .ok (.baload, 1) := by decide +kernel
theorem dX9_plate_64 : decode cX9_plate 64 = .ok (.ireturn, 1) := by decide +kernel
theorem dX9_extend_0 : decode cX9_extend 0 = .ok (.aload_n 0, 1) := by decide +kernel
theorem dX9_extend_1 : decode cX9_extend 1 = .ok (.iload_n 1, 1) := by decide +kernel
theorem dX9_extend_2 : decode cX9_extend 2 = .ok (.invokevirtual 234, 3) := by decide +kernel
theorem dX9_extend_5 : decode cX9_extend 5 = .ok (.istore_n 2, 1) := by decide +kernel
theorem dX9_extend_6 : decode cX9_extend 6 = .ok (.iload_n 2, 1) := by decide +kernel
theorem dX9_extend_7 : decode cX9_extend 7 = .ok (.ifCond .eq 26, 3) := by decide +kernel
theorem dX9_extend_10 : decode cX9_extend 10 = .ok (.aload_n 0, 1) := by decide +kernel
theorem dX9_extend_11 : decode cX9_extend 11 = .ok (.getfield 98, 3) := by decide +kernel
theorem dX9_extend_14 : decode cX9_extend 14 = .ok (.iload_n 1, 1) := by decide +kernel
theorem dX9_extend_15 : decode cX9_extend 15 = .ok (.iaload, 1) := by decide +kernel
