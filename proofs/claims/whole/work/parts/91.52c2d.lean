theorem dX9_waits_55 : decode cX9_waits 55 = .ok (.iload_n 1, 1) := by decide +kernel
theorem dX9_waits_56 : decode cX9_waits 56 = .ok (.iaload, 1) := by decide +kernel
theorem dX9_waits_57 : decode cX9_waits 57 = .ok (.iconst 2, 1) := by decide +kernel
theorem dX9_waits_58 : decode cX9_waits 58 = .ok (.idiv, 1) := by decide +kernel
theorem dX9_waits_59 : decode cX9_waits 59 = .ok (.goto 4, 3) := by decide +kernel
theorem dX9_waits_62 : decode cX9_waits 62 = .ok (.iconst 0, 1) := by decide +kernel
theorem dX9_waits_63 : decode cX9_waits 63 = .ok (.istore_n 2, 1) := by decide +kernel
theorem dX9_waits_64 : decode cX9_waits 64 = .ok (.aload_n 0, 1) := by decide +kernel
theorem dX9_waits_65 : decode cX9_waits 65 = .ok (.getfield 37, 3) := by decide +kernel
theorem dX9_waits_68 : decode cX9_waits 68 = .ok (.iload_n 1, 1) := by decide +kernel
theorem dX9_waits_69 : decode cX9_waits 69 = .ok (.dup2, 1) := by decide +kernel
theorem dX9_waits_70 : decode cX9_waits 70 = .ok (.iaload, 1) := by decide +kernel
theorem dX9_waits_71 : decode cX9_waits 71 = .ok (.aload_n 0, 1) := by decide +kernel
theorem dX9_waits_72 : decode cX9_waits 72 = .ok (.getfield 16, 3) := by decide +kernel
theorem dX9_waits_75 : decode cX9_waits 75 = .ok (.iload_n 1, 1) := by decide +kernel
theorem dX9_waits_76 : decode cX9_waits 76 = .ok (.iaload, 1) := by decide +kernel
theorem dX9_waits_77 : decode cX9_waits 77 = .ok (.iload_n 2, 1) := by decide +kernel
theorem dX9_waits_78 : decode cX9_waits 78 = .ok (.isub, 1) := by decide +kernel
theorem dX9_waits_79 : decode cX9_waits 79 = .ok (.iadd, 1) := by decide +kernel
theorem dX9_waits_80 : decode cX9_waits 80 = .ok (.iastore, 1) := by decide +kernel
theorem dX9_waits_81 : decode cX9_waits 81 = .ok (.iload_n 2, 1) := by decide +kernel
theorem dX9_waits_82 : decode cX9_waits 82 = .ok (.ifCond .le 18, 3) := by decide +kernel
theorem dX9_waits_85 : decode cX9_waits 85 = .ok (.aload_n 0, 1) := by decide +kernel
theorem dX9_waits_86 : decode cX9_waits 86 = .ok (.getfield 37, 3) := by decide +kernel
theorem dX9_waits_89 : decode cX9_waits 89 = .ok (.aload_n 0, 1) := by decide +kernel
theorem dX9_waits_90 : decode cX9_waits 90 = .ok (.getfield 19, 3) := by decide +kernel
theorem dX9_waits_93 : decode cX9_waits 93 = .ok (.iload_n 1, 1) := by decide +kernel
theorem dX9_waits_94 : decode cX9_waits 94 = .ok (.iaload, 1) := by decide +kernel
theorem dX9_waits_95 : decode cX9_waits 95 = .ok (.dup2, 1) := by decide +kernel
theorem dX9_waits_96 : decode cX9_waits 96 = .ok (.iaload, 1) := by decide +kernel
theorem dX9_waits_97 : decode cX9_waits 97 = .ok (.iload_n 2, 1) := by decide +kernel
theorem dX9_waits_98 : decode cX9_waits 98 = .ok (.iadd, 1) := by decide +kernel
theorem dX9_waits_99 : decode cX9_waits 99 = .ok (.iastore, 1) := by decide +kernel
theorem dX9_waits_100 : decode cX9_waits 100 = .ok (.iinc 1 1, 3) := by decide +kernel
theorem dX9_waits_103 : decode cX9_waits 103 = .ok (.goto (-78), 3) := by decide +kernel
theorem dX9_waits_106 : decode cX9_waits 106 = .ok (.iconst 0, 1) := by decide +kernel
theorem dX9_waits_107 : decode cX9_waits 107 = .ok (.istore_n 1, 1) := by decide +kernel
theorem dX9_waits_108 : decode cX9_waits 108 = .ok (.iload_n 1, 1) := by decide +kernel
theorem dX9_waits_109 : decode cX9_waits 109 = .ok (.aload_n 0, 1) := by decide +kernel
theorem dX9_waits_110 : decode cX9_waits 110 = .ok (.getfield 148, 3) := by decide +kernel
theorem dX9_waits_113 : decode cX9_waits 113 = .ok (.if_icmp .ge 71, 3) := by decide +kernel
theorem dX9_waits_116 : decode cX9_waits 116 = .ok (.bipush 100, 2) := by decide +kernel
theorem dX9_waits_118 : decode cX9_waits 118 = .ok (.bipush 40, 2) := by decide +kernel
theorem dX9_waits_120 : decode cX9_waits 120 = .ok (.iconst 3, 1) := by decide +kernel
theorem dX9_waits_121 : decode cX9_waits 121 = .ok (.aload_n 0, 1) := by decide +kernel
theorem dX9_waits_122 : decode cX9_waits 122 = .ok (.getfield 13, 3) := by decide +kernel
theorem dX9_waits_125 : decode cX9_waits 125 = .ok (.iload_n 1, 1) := by decide +kernel
theorem dX9_waits_126 : decode cX9_waits 126 = .ok (.iaload, 1) := by decide +kernel
theorem dX9_waits_127 : decode cX9_waits 127 = .ok (.isub, 1) := by decide +kernel
theorem dX9_waits_128 : decode cX9_waits 128 = .ok (.imul, 1) := by decide +kernel
theorem dX9_waits_129 : decode cX9_waits 129 = .ok (.iadd, 1) := by decide +kernel
theorem dX9_waits_130 : decode cX9_waits 130 = .ok (.istore_n 2, 1) := by decide +kernel
theorem dX9_waits_131 : decode cX9_waits 131 = .ok (.aload_n 0, 1) := by decide +kernel
theorem dX9_waits_132 : decode cX9_waits 132 = .ok (.iload_n 1, 1) := by decide +kernel
theorem dX9_waits_133 : decode cX9_waits 133 = .ok (.invokevirtual 271, 3) := by decide +kernel
theorem dX9_waits_136 : decode cX9_waits 136 = .ok (.ifCond .eq 9, 3) := by decide +kernel
theorem dX9_waits_139 : decode cX9_waits 139 = .ok (.iload_n 2, 1) := by decide +kernel
theorem dX9_waits_140 : decode cX9_waits 140 = .ok (.iconst 2, 1) := by decide +kernel
theorem dX9_waits_141 : decode cX9_waits 141 = .ok (.idiv, 1) := by decide +kernel
theorem dX9_waits_142 : decode cX9_waits 142 = .ok (.goto 4, 3) := by decide +kernel
theorem dX9_waits_145 : decode cX9_waits 145 = .ok (.iload_n 2, 1) := by decide +kernel
theorem dX9_waits_146 : decode cX9_waits 146 = .ok (.istore_n 2, 1) := by decide +kernel
theorem dX9_waits_147 : decode cX9_waits 147 = .ok (.aload_n 0, 1) := by decide +kernel
theorem dX9_waits_148 : decode cX9_waits 148 = .ok (.getfield 34, 3) := by decide +kernel
theorem dX9_waits_151 : decode cX9_waits 151 = .ok (.iload_n 1, 1) := by decide +kernel
theorem dX9_waits_152 : decode cX9_waits 152 = .ok (.iaload, 1) := by decide +kernel
theorem dX9_waits_153 : decode cX9_waits 153 = .ok (.aload_n 0, 1) := by decide +kernel
theorem dX9_waits_154 : decode cX9_waits 154 = .ok (.getfield 37, 3) := by decide +kernel
theorem dX9_waits_157 : decode cX9_waits 157 = .ok (.iload_n 1, 1) := by decide +kernel
theorem dX9_waits_158 : decode cX9_waits 158 = .ok (.iaload, 1) := by decide +kernel
theorem dX9_waits_159 : decode cX9_waits 159 = .ok (.iadd, 1) := by decide +kernel
theorem dX9_waits_160 : decode cX9_waits 160 = .ok (.iload_n 2, 1) := by decide +kernel
theorem dX9_waits_161 : decode cX9_waits 161 = .ok (.isub, 1) := by decide +kernel
theorem dX9_waits_162 : decode cX9_waits 162 = .ok (.istore_n 3, 1) := by decide +kernel
theorem dX9_waits_163 : decode cX9_waits 163 = .ok (.aload_n 0, 1) := by decide +kernel
theorem dX9_waits_164 : decode cX9_waits 164 = .ok (.getfield 34, 3) := by decide +kernel
theorem dX9_waits_167 : decode cX9_waits 167 = .ok (.iload_n 1, 1) := by decide +kernel
theorem dX9_waits_168 : decode cX9_waits 168 = .ok (.iload_n 3, 1) := by decide +kernel
theorem dX9_waits_169 : decode cX9_waits 169 = .ok (.ifCond .ge 7, 3) := by decide +kernel
theorem dX9_waits_172 : decode cX9_waits 172 = .ok (.iconst 0, 1) := by decide +kernel
theorem dX9_waits_173 : decode cX9_waits 173 = .ok (.goto 4, 3) := by decide +kernel
theorem dX9_waits_176 : decode cX9_waits 176 = .ok (.iload_n 3, 1) := by decide +kernel
theorem dX9_waits_177 : decode cX9_waits 177 = .ok (.iastore, 1) := by decide +kernel
theorem dX9_waits_178 : decode cX9_waits 178 = .ok (.iinc 1 1, 3) := by decide +kernel
theorem dX9_waits_181 : decode cX9_waits 181 = .ok (.goto (-73), 3) := by decide +kernel
theorem dX9_waits_184 : decode cX9_waits 184 = .ok (.return_, 1) := by decide +kernel
theorem dX9_goesBy_0 : decode cX9_goesBy 0 = .ok (.aload_n 0, 1) := by decide +kernel
theorem dX9_goesBy_1 : decode cX9_goesBy 1 = .ok (.dup, 1) := by decide +kernel
theorem dX9_goesBy_2 : decode cX9_goesBy 2 = .ok (.getfield 165, 3) := by decide +kernel
theorem dX9_goesBy_5 : decode cX9_goesBy 5 = .ok (.iconst 1, 1) := by decide +kernel
theorem dX9_goesBy_6 : decode cX9_goesBy 6 = .ok (.iadd, 1) := by decide +kernel
theorem dX9_goesBy_7 : decode cX9_goesBy 7 = .ok (.putfield 165, 3) := by decide +kernel
theorem dX9_goesBy_10 : decode cX9_goesBy 10 = .ok (.aload_n 0, 1) := by decide +kernel
theorem dX9_goesBy_11 : decode cX9_goesBy 11 = .ok (.getfield 165, 3) := by decide +kernel
theorem dX9_goesBy_14 : decode cX9_goesBy 14 = .ok (.bipush 24, 2) := by decide +kernel
theorem dX9_goesBy_16 : decode cX9_goesBy 16 = .ok (.irem, 1) := by decide +kernel
theorem dX9_goesBy_17 : decode cX9_goesBy 17 = .ok (.ifCond .ne 65, 3) := by decide +kernel
theorem dX9_goesBy_20 : decode cX9_goesBy 20 = .ok (.aload_n 0, 1) := by decide +kernel
theorem dX9_goesBy_21 : decode cX9_goesBy 21 = .ok (.invokevirtual 274, 3) := by decide +kernel
theorem dX9_goesBy_24 : decode cX9_goesBy 24 = .ok (.iconst 0, 1) := by decide +kernel
theorem dX9_goesBy_25 : decode cX9_goesBy 25 = .ok (.istore_n 1, 1) := by decide +kernel
theorem dX9_goesBy_26 : decode cX9_goesBy 26 = .ok (.iload_n 1, 1) := by decide +kernel
theorem dX9_goesBy_27 : decode cX9_goesBy 27 = .ok (.aload_n 0, 1) := by decide +kernel
theorem dX9_goesBy_28 : decode cX9_goesBy 28 = .ok (.getfield 162, 3) := by decide +kernel
theorem dX9_goesBy_31 : decode cX9_goesBy 31 = .ok (.if_icmp .ge 51, 3) := by decide +kernel
theorem dX9_goesBy_34 : decode cX9_goesBy 34 = .ok (.aload_n 0, 1) := by decide +kernel
theorem dX9_goesBy_35 : decode cX9_goesBy 35 = .ok (.getfield 98, 3) := by decide +kernel
theorem dX9_goesBy_38 : decode cX9_goesBy 38 = .ok (.iload_n 1, 1) := by decide +kernel
theorem dX9_goesBy_39 : decode cX9_goesBy 39 = .ok (.iaload, 1) := by decide +kernel
theorem dX9_goesBy_40 : decode cX9_goesBy 40 = .ok (.iconst 3, 1) := by decide +kernel
theorem dX9_goesBy_41 : decode cX9_goesBy 41 = .ok (.if_icmp .ne 35, 3) := by decide +kernel
theorem dX9_goesBy_44 : decode cX9_goesBy 44 = .ok (.aload_n 0, 1) := by decide +kernel
theorem dX9_goesBy_45 : decode cX9_goesBy 45 = .ok (.iload_n 1, 1) := by decide +kernel
theorem dX9_goesBy_46 : decode cX9_goesBy 46 = .ok (.invokevirtual 208, 3) := by decide +kernel
theorem dX9_goesBy_49 : decode cX9_goesBy 49 = .ok (.aload_n 0, 1) := by decide +kernel
theorem dX9_goesBy_50 : decode cX9_goesBy 50 = .ok (.invokevirtual 175, 3) := by decide +kernel
theorem dX9_goesBy_53 : decode cX9_goesBy 53 = .ok (.if_icmp .ge 23, 3) := by decide +kernel
theorem dX9_goesBy_56 : decode cX9_goesBy 56 = .ok (.aload_n 0, 1) := by decide +kernel
theorem dX9_goesBy_57 : decode cX9_goesBy 57 = .ok (.aload_n 0, 1) := by decide +kernel
theorem dX9_goesBy_58 : decode cX9_goesBy 58 = .ok (.getfield 71, 3) := by decide +kernel
theorem dX9_goesBy_61 : decode cX9_goesBy 61 = .ok (.iload_n 1, 1) := by decide +kernel
theorem dX9_goesBy_62 : decode cX9_goesBy 62 = .ok (.iaload, 1) := by decide +kernel
theorem dX9_goesBy_63 : decode cX9_goesBy 63 = .ok (.iconst 5, 1) := by decide +kernel
theorem dX9_goesBy_64 : decode cX9_goesBy 64 = .ok (.sipush 500, 3) := by decide +kernel
theorem dX9_goesBy_67 : decode cX9_goesBy 67 = .ok (.aload_n 0, 1) := by decide +kernel
theorem dX9_goesBy_68 : decode cX9_goesBy 68 = .ok (.iload_n 1, 1) := by decide +kernel
theorem dX9_goesBy_69 : decode cX9_goesBy 69 = .ok (.invokevirtual 265, 3) := by decide +kernel
theorem dX9_goesBy_72 : decode cX9_goesBy 72 = .ok (.imul, 1) := by decide +kernel
theorem dX9_goesBy_73 : decode cX9_goesBy 73 = .ok (.invokevirtual 230, 3) := by decide +kernel
theorem dX9_goesBy_76 : decode cX9_goesBy 76 = .ok (.iinc 1 1, 3) := by decide +kernel
theorem dX9_goesBy_79 : decode cX9_goesBy 79 = .ok (.goto (-53), 3) := by decide +kernel
theorem dX9_goesBy_82 : decode cX9_goesBy 82 = .ok (.aload_n 0, 1) := by decide +kernel
theorem dX9_goesBy_83 : decode cX9_goesBy 83 = .ok (.invokevirtual 243, 3) := by decide +kernel
theorem dX9_goesBy_86 : decode cX9_goesBy 86 = .ok (.ifCond .eq 7, 3) := by decide +kernel
theorem dX9_goesBy_89 : decode cX9_goesBy 89 = .ok (.aload_n 0, 1) := by decide +kernel
theorem dX9_goesBy_90 : decode cX9_goesBy 90 = .ok (.invokevirtual 277, 3) := by decide +kernel
theorem dX9_goesBy_93 : decode cX9_goesBy 93 = .ok (.aload_n 0, 1) := by decide +kernel
theorem dX9_goesBy_94 : decode cX9_goesBy 94 = .ok (.invokevirtual 280, 3) := by decide +kernel
theorem dX9_goesBy_97 : decode cX9_goesBy 97 = .ok (.return_, 1) := by decide +kernel
theorem dX9_pass_0 : decode cX9_pass 0 = .ok (.iload_n 1, 1) := by decide +kernel
theorem dX9_pass_1 : decode cX9_pass 1 = .ok (.iconst 1, 1) := by decide +kernel
theorem dX9_pass_2 : decode cX9_pass 2 = .ok (.sipush 200, 3) := by decide +kernel
theorem dX9_pass_5 : decode cX9_pass 5 = .ok (.invokestatic 151, 3) := by decide +kernel
theorem dX9_pass_8 : decode cX9_pass 8 = .ok (.istore_n 2, 1) := by decide +kernel
theorem dX9_pass_9 : decode cX9_pass 9 = .ok (.aload_n 0, 1) := by decide +kernel
theorem dX9_pass_10 : decode cX9_pass 10 = .ok (.iload_n 2, 1) := by decide +kernel
theorem dX9_pass_11 : decode cX9_pass 11 = .ok (.ifCond .ne 7, 3) := by decide +kernel
theorem dX9_pass_14 : decode cX9_pass 14 = .ok (.iconst 1, 1) := by decide +kernel
theorem dX9_pass_15 : decode cX9_pass 15 = .ok (.goto 20, 3) := by decide +kernel
theorem dX9_pass_18 : decode cX9_pass 18 = .ok (.aload_n 0, 1) := by decide +kernel
theorem dX9_pass_19 : decode cX9_pass 19 = .ok (.getfield 165, 3) := by decide +kernel
theorem dX9_pass_22 : decode cX9_pass 22 = .ok (.iload_n 1, 1) := by decide +kernel
theorem dX9_pass_23 : decode cX9_pass 23 = .ok (.iadd, 1) := by decide +kernel
theorem dX9_pass_24 : decode cX9_pass 24 = .ok (.sipush 9999, 3) := by decide +kernel
theorem dX9_pass_27 : decode cX9_pass 27 = .ok (.if_icmp .le 7, 3) := by decide +kernel
theorem dX9_pass_30 : decode cX9_pass 30 = .ok (.iconst 2, 1) := by decide +kernel
theorem dX9_pass_31 : decode cX9_pass 31 = .ok (.goto 4, 3) := by decide +kernel
theorem dX9_pass_34 : decode cX9_pass 34 = .ok (.iconst 0, 1) := by decide +kernel
theorem dX9_pass_35 : decode cX9_pass 35 = .ok (.invokevirtual 168, 3) := by decide +kernel
theorem dX9_pass_38 : decode cX9_pass 38 = .ok (.ifCond .ne 5, 3) := by decide +kernel
theorem dX9_pass_41 : decode cX9_pass 41 = .ok (.iconst 0, 1) := by decide +kernel
theorem dX9_pass_42 : decode cX9_pass 42 = .ok (.ireturn, 1) := by decide +kernel
theorem dX9_pass_43 : decode cX9_pass 43 = .ok (.iconst 0, 1) := by decide +kernel
theorem dX9_pass_44 : decode cX9_pass 44 = .ok (.istore_n 3, 1) := by decide +kernel
theorem dX9_pass_45 : decode cX9_pass 45 = .ok (.iload_n 3, 1) := by decide +kernel
theorem dX9_pass_46 : decode cX9_pass 46 = .ok (.iload_n 1, 1) := by decide +kernel
theorem dX9_pass_47 : decode cX9_pass 47 = .ok (.if_icmp .ge 13, 3) := by decide +kernel
theorem dX9_pass_50 : decode cX9_pass 50 = .ok (.aload_n 0, 1) := by decide +kernel
theorem dX9_pass_51 : decode cX9_pass 51 = .ok (.invokevirtual 283, 3) := by decide +kernel
theorem dX9_pass_54 : decode cX9_pass 54 = .ok (.iinc 3 1, 3) := by decide +kernel
theorem dX9_pass_57 : decode cX9_pass 57 = .ok (.goto (-12), 3) := by decide +kernel
theorem dX9_pass_60 : decode cX9_pass 60 = .ok (.aload_n 0, 1) := by decide +kernel
theorem dX9_pass_61 : decode cX9_pass 61 = .ok (.getfield 165, 3) := by decide +kernel
theorem dX9_pass_64 : decode cX9_pass 64 = .ok (.ireturn, 1) := by decide +kernel
theorem dX9_liableFor_0 : decode cX9_liableFor 0 = .ok (.iconst (-1), 1) := by decide +kernel
theorem dX9_liableFor_1 : decode cX9_liableFor 1 = .ok (.istore 4, 2) := by decide +kernel
theorem dX9_liableFor_3 : decode cX9_liableFor 3 = .ok (.iconst 0, 1) := by decide +kernel
theorem dX9_liableFor_4 : decode cX9_liableFor 4 = .ok (.istore 5, 2) := by decide +kernel
theorem dX9_liableFor_6 : decode cX9_liableFor 6 = .ok (.iload 5, 2) := by decide +kernel
theorem dX9_liableFor_8 : decode cX9_liableFor 8 = .ok (.aload_n 0, 1) := by decide +kernel
theorem dX9_liableFor_9 : decode cX9_liableFor 9 = .ok (.getfield 179, 3) := by decide +kernel
theorem dX9_liableFor_12 : decode cX9_liableFor 12 = .ok (.if_icmp .ge 50, 3) := by decide +kernel
theorem dX9_liableFor_15 : decode cX9_liableFor 15 = .ok (.aload_n 0, 1) := by decide +kernel
theorem dX9_liableFor_16 : decode cX9_liableFor 16 = .ok (.getfield 119, 3) := by decide +kernel
theorem dX9_liableFor_19 : decode cX9_liableFor 19 = .ok (.iload 5, 2) := by decide +kernel
theorem dX9_liableFor_21 : decode cX9_liableFor 21 = .ok (.iaload, 1) := by decide +kernel
theorem dX9_liableFor_22 : decode cX9_liableFor 22 = .ok (.bipush 40, 2) := by decide +kernel
theorem dX9_liableFor_24 : decode cX9_liableFor 24 = .ok (.iload_n 1, 1) := by decide +kernel
theorem dX9_liableFor_25 : decode cX9_liableFor 25 = .ok (.imul, 1) := by decide +kernel
theorem dX9_liableFor_26 : decode cX9_liableFor 26 = .ok (.iload_n 2, 1) := by decide +kernel
theorem dX9_liableFor_27 : decode cX9_liableFor 27 = .ok (.iadd, 1) := by decide +kernel
theorem dX9_liableFor_28 : decode cX9_liableFor 28 = .ok (.if_icmp .ne 24, 3) := by decide +kernel
theorem dX9_liableFor_31 : decode cX9_liableFor 31 = .ok (.aload_n 0, 1) := by decide +kernel
theorem dX9_liableFor_32 : decode cX9_liableFor 32 = .ok (.getfield 83, 3) := by decide +kernel
theorem dX9_liableFor_35 : decode cX9_liableFor 35 = .ok (.aload_n 0, 1) := by decide +kernel
theorem dX9_liableFor_36 : decode cX9_liableFor 36 = .ok (.getfield 122, 3) := by decide +kernel
theorem dX9_liableFor_39 : decode cX9_liableFor 39 = .ok (.iload 5, 2) := by decide +kernel
theorem dX9_liableFor_41 : decode cX9_liableFor 41 = .ok (.iaload, 1) := by decide +kernel
theorem dX9_liableFor_42 : decode cX9_liableFor 42 = .ok (.iaload, 1) := by decide +kernel
theorem dX9_liableFor_43 : decode cX9_liableFor 43 = .ok (.iload_n 3, 1) := by decide +kernel
theorem dX9_liableFor_44 : decode cX9_liableFor 44 = .ok (.if_icmp .lt 8, 3) := by decide +kernel
theorem dX9_liableFor_47 : decode cX9_liableFor 47 = .ok (.iload 5, 2) := by decide +kernel
theorem dX9_liableFor_49 : decode cX9_liableFor 49 = .ok (.goto 5, 3) := by decide +kernel
theorem dX9_liableFor_52 : decode cX9_liableFor 52 = .ok (.iload 4, 2) := by decide +kernel
theorem dX9_liableFor_54 : decode cX9_liableFor 54 = .ok (.istore 4, 2) := by decide +kernel
theorem dX9_liableFor_56 : decode cX9_liableFor 56 = .ok (.iinc 5 1, 3) := by decide +kernel
theorem dX9_liableFor_59 : decode cX9_liableFor 59 = .ok (.goto (-53), 3) := by decide +kernel
theorem dX9_liableFor_62 : decode cX9_liableFor 62 = .ok (.iload 4, 2) := by decide +kernel
theorem dX9_liableFor_64 : decode cX9_liableFor 64 = .ok (.iconst (-1), 1) := by decide +kernel
theorem dX9_liableFor_65 : decode cX9_liableFor 65 = .ok (.if_icmp .ne 5, 3) := by decide +kernel
theorem dX9_liableFor_68 : decode cX9_liableFor 68 = .ok (.iconst (-1), 1) := by decide +kernel
theorem dX9_liableFor_69 : decode cX9_liableFor 69 = .ok (.ireturn, 1) := by decide +kernel
theorem dX9_liableFor_70 : decode cX9_liableFor 70 = .ok (.aload_n 0, 1) := by decide +kernel
theorem dX9_liableFor_71 : decode cX9_liableFor 71 = .ok (.getfield 122, 3) := by decide +kernel
theorem dX9_liableFor_74 : decode cX9_liableFor 74 = .ok (.iload 4, 2) := by decide +kernel
theorem dX9_liableFor_76 : decode cX9_liableFor 76 = .ok (.iaload, 1) := by decide +kernel
theorem dX9_liableFor_77 : decode cX9_liableFor 77 = .ok (.istore 5, 2) := by decide +kernel
theorem dX9_liableFor_79 : decode cX9_liableFor 79 = .ok (.aload_n 0, 1) := by decide +kernel
theorem dX9_liableFor_80 : decode cX9_liableFor 80 = .ok (.invokevirtual 175, 3) := by decide +kernel
theorem dX9_liableFor_83 : decode cX9_liableFor 83 = .ok (.aload_n 0, 1) := by decide +kernel
theorem dX9_liableFor_84 : decode cX9_liableFor 84 = .ok (.getfield 125, 3) := by decide +kernel
theorem dX9_liableFor_87 : decode cX9_liableFor 87 = .ok (.iload 4, 2) := by decide +kernel
theorem dX9_liableFor_89 : decode cX9_liableFor 89 = .ok (.iaload, 1) := by decide +kernel
theorem dX9_liableFor_90 : decode cX9_liableFor 90 = .ok (.isub, 1) := by decide +kernel
theorem dX9_liableFor_91 : decode cX9_liableFor 91 = .ok (.aload_n 0, 1) := by decide +kernel
theorem dX9_liableFor_92 : decode cX9_liableFor 92 = .ok (.getfield 83, 3) := by decide +kernel
theorem dX9_liableFor_95 : decode cX9_liableFor 95 = .ok (.iload 5, 2) := by decide +kernel
theorem dX9_liableFor_97 : decode cX9_liableFor 97 = .ok (.iaload, 1) := by decide +kernel
theorem dX9_liableFor_98 : decode cX9_liableFor 98 = .ok (.bipush 120, 2) := by decide +kernel
theorem dX9_liableFor_100 : decode cX9_liableFor 100 = .ok (.if_icmp .lt 9, 3) := by decide +kernel
theorem dX9_liableFor_103 : decode cX9_liableFor 103 = .ok (.sipush 300, 3) := by decide +kernel
theorem dX9_liableFor_106 : decode cX9_liableFor 106 = .ok (.goto 6, 3) := by decide +kernel
theorem dX9_liableFor_109 : decode cX9_liableFor 109 = .ok (.sipush 200, 3) := by decide +kernel
theorem dX9_liableFor_112 : decode cX9_liableFor 112 = .ok (.if_icmp .le 7, 3) := by decide +kernel
theorem dX9_liableFor_115 : decode cX9_liableFor 115 = .ok (.iconst 1, 1) := by decide +kernel
theorem dX9_liableFor_116 : decode cX9_liableFor 116 = .ok (.goto 4, 3) := by decide +kernel
theorem dX9_liableFor_119 : decode cX9_liableFor 119 = .ok (.iconst 0, 1) := by decide +kernel
theorem dX9_liableFor_120 : decode cX9_liableFor 120 = .ok (.istore 6, 2) := by decide +kernel
theorem dX9_liableFor_122 : decode cX9_liableFor 122 = .ok (.iload_n 3, 1) := by decide +kernel
theorem dX9_liableFor_123 : decode cX9_liableFor 123 = .ok (.bipush 10, 2) := by decide +kernel
theorem dX9_liableFor_125 : decode cX9_liableFor 125 = .ok (.if_icmp .ge 18, 3) := by decide +kernel
theorem dX9_liableFor_128 : decode cX9_liableFor 128 = .ok (.iload 4, 2) := by decide +kernel
theorem dX9_liableFor_130 : decode cX9_liableFor 130 = .ok (.aload_n 0, 1) := by decide +kernel
theorem dX9_liableFor_131 : decode cX9_liableFor 131 = .ok (.getfield 25, 3) := by decide +kernel
theorem dX9_liableFor_134 : decode cX9_liableFor 134 = .ok (.iload_n 1, 1) := by decide +kernel
theorem dX9_liableFor_135 : decode cX9_liableFor 135 = .ok (.iaload, 1) := by decide +kernel
theorem dX9_liableFor_136 : decode cX9_liableFor 136 = .ok (.if_icmp .ge 7, 3) := by decide +kernel
theorem dX9_liableFor_139 : decode cX9_liableFor 139 = .ok (.iconst 1, 1) := by decide +kernel
theorem dX9_liableFor_140 : decode cX9_liableFor 140 = .ok (.goto 4, 3) := by decide +kernel
theorem dX9_liableFor_143 : decode cX9_liableFor 143 = .ok (.iconst 0, 1) := by decide +kernel
theorem dX9_liableFor_144 : decode cX9_liableFor 144 = .ok (.istore 7, 2) := by decide +kernel
theorem dX9_liableFor_146 : decode cX9_liableFor 146 = .ok (.iload 6, 2) := by decide +kernel
theorem dX9_liableFor_148 : decode cX9_liableFor 148 = .ok (.ifCond .ne 8, 3) := by decide +kernel
theorem dX9_liableFor_151 : decode cX9_liableFor 151 = .ok (.iload 7, 2) := by decide +kernel
theorem dX9_liableFor_153 : decode cX9_liableFor 153 = .ok (.ifCond .eq 7, 3) := by decide +kernel
theorem dX9_liableFor_156 : decode cX9_liableFor 156 = .ok (.iconst (-1), 1) := by decide +kernel
theorem dX9_liableFor_157 : decode cX9_liableFor 157 = .ok (.goto 5, 3) := by decide +kernel
theorem dX9_liableFor_160 : decode cX9_liableFor 160 = .ok (.iload 5, 2) := by decide +kernel
theorem dX9_liableFor_162 : decode cX9_liableFor 162 = .ok (.ireturn, 1) := by decide +kernel
theorem dX9_asksMetre_0 : decode cX9_asksMetre 0 = .ok (.aload_n 0, 1) := by decide +kernel
theorem dX9_asksMetre_1 : decode cX9_asksMetre 1 = .ok (.aload_n 0, 1) := by decide +kernel
theorem dX9_asksMetre_2 : decode cX9_asksMetre 2 = .ok (.iload_n 1, 1) := by decide +kernel
theorem dX9_asksMetre_3 : decode cX9_asksMetre 3 = .ok (.iload_n 2, 1) := by decide +kernel
theorem dX9_asksMetre_4 : decode cX9_asksMetre 4 = .ok (.invokevirtual 188, 3) := by decide +kernel
theorem dX9_asksMetre_7 : decode cX9_asksMetre 7 = .ok (.ifCond .ne 7, 3) := by decide +kernel
theorem dX9_asksMetre_10 : decode cX9_asksMetre 10 = .ok (.iconst 1, 1) := by decide +kernel
theorem dX9_asksMetre_11 : decode cX9_asksMetre 11 = .ok (.goto 19, 3) := by decide +kernel
theorem dX9_asksMetre_14 : decode cX9_asksMetre 14 = .ok (.iload_n 3, 1) := by decide +kernel
theorem dX9_asksMetre_15 : decode cX9_asksMetre 15 = .ok (.iconst 0, 1) := by decide +kernel
theorem dX9_asksMetre_16 : decode cX9_asksMetre 16 = .ok (.sipush 300, 3) := by decide +kernel
theorem dX9_asksMetre_19 : decode cX9_asksMetre 19 = .ok (.invokestatic 151, 3) := by decide +kernel
theorem dX9_asksMetre_22 : decode cX9_asksMetre 22 = .ok (.ifCond .eq 7, 3) := by decide +kernel
theorem dX9_asksMetre_25 : decode cX9_asksMetre 25 = .ok (.iconst 0, 1) := by decide +kernel
theorem dX9_asksMetre_26 : decode cX9_asksMetre 26 = .ok (.goto 4, 3) := by decide +kernel
theorem dX9_asksMetre_29 : decode cX9_asksMetre 29 = .ok (.iconst 2, 1) := by decide +kernel
theorem dX9_asksMetre_30 : decode cX9_asksMetre 30 = .ok (.invokevirtual 168, 3) := by decide +kernel
theorem dX9_asksMetre_33 : decode cX9_asksMetre 33 = .ok (.ireturn, 1) := by decide +kernel
theorem dX9_defect_0 : decode cX9_defect 0 = .ok (.aload_n 0, 1) := by decide +kernel
theorem dX9_defect_1 : decode cX9_defect 1 = .ok (.iload_n 1, 1) := by decide +kernel
theorem dX9_defect_2 : decode cX9_defect 2 = .ok (.iload_n 2, 1) := by decide +kernel
theorem dX9_defect_3 : decode cX9_defect 3 = .ok (.iload_n 3, 1) := by decide +kernel
theorem dX9_defect_4 : decode cX9_defect 4 = .ok (.invokevirtual 286, 3) := by decide +kernel
theorem dX9_defect_7 : decode cX9_defect 7 = .ok (.ifCond .ne 5, 3) := by decide +kernel
theorem dX9_defect_10 : decode cX9_defect 10 = .ok (.iconst 0, 1) := by decide +kernel
theorem dX9_defect_11 : decode cX9_defect 11 = .ok (.ireturn, 1) := by decide +kernel
theorem dX9_defect_12 : decode cX9_defect 12 = .ok (.aload_n 0, 1) := by decide +kernel
theorem dX9_defect_13 : decode cX9_defect 13 = .ok (.iload_n 1, 1) := by decide +kernel
theorem dX9_defect_14 : decode cX9_defect 14 = .ok (.iload_n 2, 1) := by decide +kernel
theorem dX9_defect_15 : decode cX9_defect 15 = .ok (.iload_n 3, 1) := by decide +kernel
theorem dX9_defect_16 : decode cX9_defect 16 = .ok (.invokevirtual 289, 3) := by decide +kernel
theorem dX9_defect_19 : decode cX9_defect 19 = .ok (.istore 4, 2) := by decide +kernel
theorem dX9_defect_21 : decode cX9_defect 21 = .ok (.iload 4, 2) := by decide +kernel
theorem dX9_defect_23 : decode cX9_defect 23 = .ok (.iconst (-1), 1) := by decide +kernel
theorem dX9_defect_24 : decode cX9_defect 24 = .ok (.if_icmp .eq 34, 3) := by decide +kernel
theorem dX9_defect_27 : decode cX9_defect 27 = .ok (.aload_n 0, 1) := by decide +kernel
theorem dX9_defect_28 : decode cX9_defect 28 = .ok (.aload_n 0, 1) := by decide +kernel
theorem dX9_defect_29 : decode cX9_defect 29 = .ok (.getfield 71, 3) := by decide +kernel
theorem dX9_defect_32 : decode cX9_defect 32 = .ok (.iload 4, 2) := by decide +kernel
theorem dX9_defect_34 : decode cX9_defect 34 = .ok (.iaload, 1) := by decide +kernel
theorem dX9_defect_35 : decode cX9_defect 35 = .ok (.iconst 5, 1) := by decide +kernel
theorem dX9_defect_36 : decode cX9_defect 36 = .ok (.sipush 300, 3) := by decide +kernel
theorem dX9_defect_39 : decode cX9_defect 39 = .ok (.invokevirtual 230, 3) := by decide +kernel
theorem dX9_defect_42 : decode cX9_defect 42 = .ok (.aload_n 0, 1) := by decide +kernel
theorem dX9_defect_43 : decode cX9_defect 43 = .ok (.getfield 134, 3) := by decide +kernel
theorem dX9_defect_46 : decode cX9_defect 46 = .ok (.aload_n 0, 1) := by decide +kernel
theorem dX9_defect_47 : decode cX9_defect 47 = .ok (.getfield 71, 3) := by decide +kernel
theorem dX9_defect_50 : decode cX9_defect 50 = .ok (.iload 4, 2) := by decide +kernel
theorem dX9_defect_52 : decode cX9_defect 52 = .ok (.iaload, 1) := by decide +kernel
theorem dX9_defect_53 : decode cX9_defect 53 = .ok (.dup2, 1) := by decide +kernel
theorem dX9_defect_54 : decode cX9_defect 54 = .ok (.iaload, 1) := by decide +kernel
theorem dX9_defect_55 : decode cX9_defect 55 = .ok (.iconst 1, 1) := by decide +kernel
theorem dX9_defect_56 : decode cX9_defect 56 = .ok (.iadd, 1) := by decide +kernel
theorem dX9_defect_57 : decode cX9_defect 57 = .ok (.iastore, 1) := by decide +kernel
theorem dX9_defect_58 : decode cX9_defect 58 = .ok (.iload 4, 2) := by decide +kernel
theorem dX9_defect_60 : decode cX9_defect 60 = .ok (.ireturn, 1) := by decide +kernel
theorem dX9_latest_0 : decode cX9_latest 0 = .ok (.iconst (-1), 1) := by decide +kernel
theorem dX9_latest_1 : decode cX9_latest 1 = .ok (.istore_n 2, 1) := by decide +kernel
theorem dX9_latest_2 : decode cX9_latest 2 = .ok (.iconst 0, 1) := by decide +kernel
theorem dX9_latest_3 : decode cX9_latest 3 = .ok (.istore_n 3, 1) := by decide +kernel
theorem dX9_latest_4 : decode cX9_latest 4 = .ok (.iload_n 3, 1) := by decide +kernel
theorem dX9_latest_5 : decode cX9_latest 5 = .ok (.aload_n 0, 1) := by decide +kernel
theorem dX9_latest_6 : decode cX9_latest 6 = .ok (.getfield 179, 3) := by decide +kernel
theorem dX9_latest_9 : decode cX9_latest 9 = .ok (.if_icmp .ge 25, 3) := by decide +kernel
theorem dX9_latest_12 : decode cX9_latest 12 = .ok (.aload_n 0, 1) := by decide +kernel
theorem dX9_latest_13 : decode cX9_latest 13 = .ok (.getfield 119, 3) := by decide +kernel
theorem dX9_latest_16 : decode cX9_latest 16 = .ok (.iload_n 3, 1) := by decide +kernel
theorem dX9_latest_17 : decode cX9_latest 17 = .ok (.iaload, 1) := by decide +kernel
theorem dX9_latest_18 : decode cX9_latest 18 = .ok (.iload_n 1, 1) := by decide +kernel
theorem dX9_latest_19 : decode cX9_latest 19 = .ok (.if_icmp .ne 7, 3) := by decide +kernel
theorem dX9_latest_22 : decode cX9_latest 22 = .ok (.iload_n 3, 1) := by decide +kernel
theorem dX9_latest_23 : decode cX9_latest 23 = .ok (.goto 4, 3) := by decide +kernel
theorem dX9_latest_26 : decode cX9_latest 26 = .ok (.iload_n 2, 1) := by decide +kernel
theorem dX9_latest_27 : decode cX9_latest 27 = .ok (.istore_n 2, 1) := by decide +kernel
theorem dX9_latest_28 : decode cX9_latest 28 = .ok (.iinc 3 1, 3) := by decide +kernel
theorem dX9_latest_31 : decode cX9_latest 31 = .ok (.goto (-27), 3) := by decide +kernel
theorem dX9_latest_34 : decode cX9_latest 34 = .ok (.iload_n 2, 1) := by decide +kernel
theorem dX9_latest_35 : decode cX9_latest 35 = .ok (.ireturn, 1) := by decide +kernel
theorem dX9_core_0 : decode cX9_core 0 = .ok (.aload_n 0, 1) := by decide +kernel
theorem dX9_core_1 : decode cX9_core 1 = .ok (.iload_n 1, 1) := by decide +kernel
theorem dX9_core_2 : decode cX9_core 2 = .ok (.iload_n 2, 1) := by decide +kernel
theorem dX9_core_3 : decode cX9_core 3 = .ok (.invokevirtual 188, 3) := by decide +kernel
theorem dX9_core_6 : decode cX9_core 6 = .ok (.istore_n 3, 1) := by decide +kernel
theorem dX9_core_7 : decode cX9_core 7 = .ok (.iload_n 3, 1) := by decide +kernel
theorem dX9_core_8 : decode cX9_core 8 = .ok (.ifCond .eq 16, 3) := by decide +kernel
theorem dX9_core_11 : decode cX9_core 11 = .ok (.aload_n 0, 1) := by decide +kernel
theorem dX9_core_12 : decode cX9_core 12 = .ok (.bipush 40, 2) := by decide +kernel
theorem dX9_core_14 : decode cX9_core 14 = .ok (.iload_n 1, 1) := by decide +kernel
theorem dX9_core_15 : decode cX9_core 15 = .ok (.imul, 1) := by decide +kernel
theorem dX9_core_16 : decode cX9_core 16 = .ok (.iload_n 2, 1) := by decide +kernel
theorem dX9_core_17 : decode cX9_core 17 = .ok (.iadd, 1) := by decide +kernel
theorem dX9_core_18 : decode cX9_core 18 = .ok (.invokevirtual 293, 3) := by decide +kernel
theorem dX9_core_21 : decode cX9_core 21 = .ok (.goto 4, 3) := by decide +kernel
theorem dX9_core_24 : decode cX9_core 24 = .ok (.iconst (-1), 1) := by decide +kernel
theorem dX9_core_25 : decode cX9_core 25 = .ok (.istore 4, 2) := by decide +kernel
theorem dX9_core_27 : decode cX9_core 27 = .ok (.aload_n 0, 1) := by decide +kernel
theorem dX9_core_28 : decode cX9_core 28 = .ok (.iload_n 3, 1) := by decide +kernel
theorem dX9_core_29 : decode cX9_core 29 = .ok (.ifCond .ne 7, 3) := by decide +kernel
theorem dX9_core_32 : decode cX9_core 32 = .ok (.iconst 1, 1) := by decide +kernel
theorem dX9_core_33 : decode cX9_core 33 = .ok (.goto 24, 3) := by decide +kernel
theorem dX9_core_36 : decode cX9_core 36 = .ok (.iload 4, 2) := by decide +kernel
theorem dX9_core_38 : decode cX9_core 38 = .ok (.iconst (-1), 1) := by decide +kernel
theorem dX9_core_39 : decode cX9_core 39 = .ok (.if_icmp .eq 13, 3) := by decide +kernel
theorem dX9_core_42 : decode cX9_core 42 = .ok (.aload_n 0, 1) := by decide +kernel
theorem dX9_core_43 : decode cX9_core 43 = .ok (.getfield 131, 3) := by decide +kernel
