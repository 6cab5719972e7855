theorem dL_isLaid_690 : decode cL_isLaid 690 = .ok (.aload_n 1, 1) := by decide +kernel
theorem dL_isLaid_691 : decode cL_isLaid 691 = .ok (.iconst 0, 1) := by decide +kernel
theorem dL_isLaid_692 : decode cL_isLaid 692 = .ok (.iaload, 1) := by decide +kernel
theorem dL_isLaid_693 : decode cL_isLaid 693 = .ok (.bipush 24, 2) := by decide +kernel
theorem dL_isLaid_695 : decode cL_isLaid 695 = .ok (.idiv, 1) := by decide +kernel
theorem dL_isLaid_696 : decode cL_isLaid 696 = .ok (.iload 4, 2) := by decide +kernel
theorem dL_isLaid_698 : decode cL_isLaid 698 = .ok (.bipush 6, 2) := by decide +kernel
theorem dL_isLaid_700 : decode cL_isLaid 700 = .ok (.idiv, 1) := by decide +kernel
theorem dL_isLaid_701 : decode cL_isLaid 701 = .ok (.bipush 20, 2) := by decide +kernel
theorem dL_isLaid_703 : decode cL_isLaid 703 = .ok (.irem, 1) := by decide +kernel
theorem dL_isLaid_704 : decode cL_isLaid 704 = .ok (.iadd, 1) := by decide +kernel
theorem dL_isLaid_705 : decode cL_isLaid 705 = .ok (.aload_n 1, 1) := by decide +kernel
theorem dL_isLaid_706 : decode cL_isLaid 706 = .ok (.iconst 0, 1) := by decide +kernel
theorem dL_isLaid_707 : decode cL_isLaid 707 = .ok (.iaload, 1) := by decide +kernel
theorem dL_isLaid_708 : decode cL_isLaid 708 = .ok (.bipush 24, 2) := by decide +kernel
theorem dL_isLaid_710 : decode cL_isLaid 710 = .ok (.idiv, 1) := by decide +kernel
theorem dL_isLaid_711 : decode cL_isLaid 711 = .ok (.iload 4, 2) := by decide +kernel
theorem dL_isLaid_713 : decode cL_isLaid 713 = .ok (.bipush 6, 2) := by decide +kernel
theorem dL_isLaid_715 : decode cL_isLaid 715 = .ok (.idiv, 1) := by decide +kernel
theorem dL_isLaid_716 : decode cL_isLaid 716 = .ok (.bipush 20, 2) := by decide +kernel
theorem dL_isLaid_718 : decode cL_isLaid 718 = .ok (.irem, 1) := by decide +kernel
theorem dL_isLaid_719 : decode cL_isLaid 719 = .ok (.iadd, 1) := by decide +kernel
theorem dL_isLaid_720 : decode cL_isLaid 720 = .ok (.iload 4, 2) := by decide +kernel
theorem dL_isLaid_722 : decode cL_isLaid 722 = .ok (.bipush 120, 2) := by decide +kernel
theorem dL_isLaid_724 : decode cL_isLaid 724 = .ok (.idiv, 1) := by decide +kernel
theorem dL_isLaid_725 : decode cL_isLaid 725 = .ok (.iconst 5, 1) := by decide +kernel
theorem dL_isLaid_726 : decode cL_isLaid 726 = .ok (.irem, 1) := by decide +kernel
theorem dL_isLaid_727 : decode cL_isLaid 727 = .ok (.iadd, 1) := by decide +kernel
theorem dL_isLaid_728 : decode cL_isLaid 728 = .ok (.iconst 0, 1) := by decide +kernel
theorem dL_isLaid_729 : decode cL_isLaid 729 = .ok (.iconst 0, 1) := by decide +kernel
theorem dL_isLaid_730 : decode cL_isLaid 730 = .ok (.invokestatic 137, 3) := by decide +kernel
theorem dL_isLaid_733 : decode cL_isLaid 733 = .ok (.istore 8, 2) := by decide +kernel
theorem dL_isLaid_735 : decode cL_isLaid 735 = .ok (.iload 8, 2) := by decide +kernel
theorem dL_isLaid_737 : decode cL_isLaid 737 = .ok (.ifCond .lt 15, 3) := by decide +kernel
theorem dL_isLaid_740 : decode cL_isLaid 740 = .ok (.iload 8, 2) := by decide +kernel
theorem dL_isLaid_742 : decode cL_isLaid 742 = .ok (.aload_n 1, 1) := by decide +kernel
theorem dL_isLaid_743 : decode cL_isLaid 743 = .ok (.iconst 3, 1) := by decide +kernel
theorem dL_isLaid_744 : decode cL_isLaid 744 = .ok (.iaload, 1) := by decide +kernel
theorem dL_isLaid_745 : decode cL_isLaid 745 = .ok (.if_icmp .gt 7, 3) := by decide +kernel
theorem dL_isLaid_748 : decode cL_isLaid 748 = .ok (.iconst 1, 1) := by decide +kernel
theorem dL_isLaid_749 : decode cL_isLaid 749 = .ok (.goto 4, 3) := by decide +kernel
theorem dL_isLaid_752 : decode cL_isLaid 752 = .ok (.iconst 0, 1) := by decide +kernel
theorem dL_isLaid_753 : decode cL_isLaid 753 = .ok (.ireturn, 1) := by decide +kernel
theorem dL_isAsked_0 : decode cL_isAsked 0 = .ok (.iload 4, 2) := by decide +kernel
theorem dL_isAsked_2 : decode cL_isAsked 2 = .ok (.aload_n 1, 1) := by decide +kernel
theorem dL_isAsked_3 : decode cL_isAsked 3 = .ok (.iconst 1, 1) := by decide +kernel
theorem dL_isAsked_4 : decode cL_isAsked 4 = .ok (.iaload, 1) := by decide +kernel
theorem dL_isAsked_5 : decode cL_isAsked 5 = .ok (.irem, 1) := by decide +kernel
theorem dL_isAsked_6 : decode cL_isAsked 6 = .ok (.istore 5, 2) := by decide +kernel
theorem dL_isAsked_8 : decode cL_isAsked 8 = .ok (.iload 4, 2) := by decide +kernel
theorem dL_isAsked_10 : decode cL_isAsked 10 = .ok (.bipush 6, 2) := by decide +kernel
theorem dL_isAsked_12 : decode cL_isAsked 12 = .ok (.idiv, 1) := by decide +kernel
theorem dL_isAsked_13 : decode cL_isAsked 13 = .ok (.aload_n 2, 1) := by decide +kernel
theorem dL_isAsked_14 : decode cL_isAsked 14 = .ok (.iload 5, 2) := by decide +kernel
theorem dL_isAsked_16 : decode cL_isAsked 16 = .ok (.iaload, 1) := by decide +kernel
theorem dL_isAsked_17 : decode cL_isAsked 17 = .ok (.irem, 1) := by decide +kernel
theorem dL_isAsked_18 : decode cL_isAsked 18 = .ok (.istore 6, 2) := by decide +kernel
theorem dL_isAsked_20 : decode cL_isAsked 20 = .ok (.iload 6, 2) := by decide +kernel
theorem dL_isAsked_22 : decode cL_isAsked 22 = .ok (.iload 4, 2) := by decide +kernel
theorem dL_isAsked_24 : decode cL_isAsked 24 = .ok (.bipush 84, 2) := by decide +kernel
theorem dL_isAsked_26 : decode cL_isAsked 26 = .ok (.idiv, 1) := by decide +kernel
theorem dL_isAsked_27 : decode cL_isAsked 27 = .ok (.aload_n 2, 1) := by decide +kernel
theorem dL_isAsked_28 : decode cL_isAsked 28 = .ok (.iload 5, 2) := by decide +kernel
theorem dL_isAsked_30 : decode cL_isAsked 30 = .ok (.iaload, 1) := by decide +kernel
theorem dL_isAsked_31 : decode cL_isAsked 31 = .ok (.iload 6, 2) := by decide +kernel
theorem dL_isAsked_33 : decode cL_isAsked 33 = .ok (.isub, 1) := by decide +kernel
theorem dL_isAsked_34 : decode cL_isAsked 34 = .ok (.irem, 1) := by decide +kernel
theorem dL_isAsked_35 : decode cL_isAsked 35 = .ok (.iadd, 1) := by decide +kernel
theorem dL_isAsked_36 : decode cL_isAsked 36 = .ok (.istore 7, 2) := by decide +kernel
theorem dL_isAsked_38 : decode cL_isAsked 38 = .ok (.iload 4, 2) := by decide +kernel
theorem dL_isAsked_40 : decode cL_isAsked 40 = .ok (.bipush 11, 2) := by decide +kernel
theorem dL_isAsked_42 : decode cL_isAsked 42 = .ok (.idiv, 1) := by decide +kernel
theorem dL_isAsked_43 : decode cL_isAsked 43 = .ok (.iconst 5, 1) := by decide +kernel
theorem dL_isAsked_44 : decode cL_isAsked 44 = .ok (.irem, 1) := by decide +kernel
theorem dL_isAsked_45 : decode cL_isAsked 45 = .ok (.ifCond .ne 13, 3) := by decide +kernel
theorem dL_isAsked_48 : decode cL_isAsked 48 = .ok (.iload 4, 2) := by decide +kernel
theorem dL_isAsked_50 : decode cL_isAsked 50 = .ok (.bipush 55, 2) := by decide +kernel
theorem dL_isAsked_52 : decode cL_isAsked 52 = .ok (.idiv, 1) := by decide +kernel
theorem dL_isAsked_53 : decode cL_isAsked 53 = .ok (.iconst 3, 1) := by decide +kernel
theorem dL_isAsked_54 : decode cL_isAsked 54 = .ok (.irem, 1) := by decide +kernel
theorem dL_isAsked_55 : decode cL_isAsked 55 = .ok (.goto 19, 3) := by decide +kernel
theorem dL_isAsked_58 : decode cL_isAsked 58 = .ok (.iload 4, 2) := by decide +kernel
theorem dL_isAsked_60 : decode cL_isAsked 60 = .ok (.bipush 11, 2) := by decide +kernel
theorem dL_isAsked_62 : decode cL_isAsked 62 = .ok (.idiv, 1) := by decide +kernel
theorem dL_isAsked_63 : decode cL_isAsked 63 = .ok (.iconst 5, 1) := by decide +kernel
theorem dL_isAsked_64 : decode cL_isAsked 64 = .ok (.irem, 1) := by decide +kernel
theorem dL_isAsked_65 : decode cL_isAsked 65 = .ok (.iconst 3, 1) := by decide +kernel
theorem dL_isAsked_66 : decode cL_isAsked 66 = .ok (.if_icmp .ge 7, 3) := by decide +kernel
theorem dL_isAsked_69 : decode cL_isAsked 69 = .ok (.iconst 2, 1) := by decide +kernel
theorem dL_isAsked_70 : decode cL_isAsked 70 = .ok (.goto 4, 3) := by decide +kernel
theorem dL_isAsked_73 : decode cL_isAsked 73 = .ok (.iconst 3, 1) := by decide +kernel
theorem dL_isAsked_74 : decode cL_isAsked 74 = .ok (.istore 8, 2) := by decide +kernel
theorem dL_isAsked_76 : decode cL_isAsked 76 = .ok (.aload_n 1, 1) := by decide +kernel
theorem dL_isAsked_77 : decode cL_isAsked 77 = .ok (.iconst 0, 1) := by decide +kernel
theorem dL_isAsked_78 : decode cL_isAsked 78 = .ok (.iaload, 1) := by decide +kernel
theorem dL_isAsked_79 : decode cL_isAsked 79 = .ok (.bipush 24, 2) := by decide +kernel
theorem dL_isAsked_81 : decode cL_isAsked 81 = .ok (.idiv, 1) := by decide +kernel
theorem dL_isAsked_82 : decode cL_isAsked 82 = .ok (.iload 8, 2) := by decide +kernel
theorem dL_isAsked_84 : decode cL_isAsked 84 = .ok (.ifCond .ne 8, 3) := by decide +kernel
theorem dL_isAsked_87 : decode cL_isAsked 87 = .ok (.bipush 40, 2) := by decide +kernel
theorem dL_isAsked_89 : decode cL_isAsked 89 = .ok (.goto 26, 3) := by decide +kernel
theorem dL_isAsked_92 : decode cL_isAsked 92 = .ok (.iload 8, 2) := by decide +kernel
theorem dL_isAsked_94 : decode cL_isAsked 94 = .ok (.iconst 1, 1) := by decide +kernel
theorem dL_isAsked_95 : decode cL_isAsked 95 = .ok (.if_icmp .ne 8, 3) := by decide +kernel
theorem dL_isAsked_98 : decode cL_isAsked 98 = .ok (.bipush 16, 2) := by decide +kernel
theorem dL_isAsked_100 : decode cL_isAsked 100 = .ok (.goto 15, 3) := by decide +kernel
theorem dL_isAsked_103 : decode cL_isAsked 103 = .ok (.iload 8, 2) := by decide +kernel
theorem dL_isAsked_105 : decode cL_isAsked 105 = .ok (.iconst 2, 1) := by decide +kernel
theorem dL_isAsked_106 : decode cL_isAsked 106 = .ok (.if_icmp .ne 8, 3) := by decide +kernel
theorem dL_isAsked_109 : decode cL_isAsked 109 = .ok (.bipush 6, 2) := by decide +kernel
theorem dL_isAsked_111 : decode cL_isAsked 111 = .ok (.goto 4, 3) := by decide +kernel
theorem dL_isAsked_114 : decode cL_isAsked 114 = .ok (.iconst 0, 1) := by decide +kernel
theorem dL_isAsked_115 : decode cL_isAsked 115 = .ok (.iadd, 1) := by decide +kernel
theorem dL_isAsked_116 : decode cL_isAsked 116 = .ok (.iload 4, 2) := by decide +kernel
theorem dL_isAsked_118 : decode cL_isAsked 118 = .ok (.bipush 19, 2) := by decide +kernel
theorem dL_isAsked_120 : decode cL_isAsked 120 = .ok (.idiv, 1) := by decide +kernel
theorem dL_isAsked_121 : decode cL_isAsked 121 = .ok (.iconst 2, 1) := by decide +kernel
theorem dL_isAsked_122 : decode cL_isAsked 122 = .ok (.irem, 1) := by decide +kernel
theorem dL_isAsked_123 : decode cL_isAsked 123 = .ok (.iadd, 1) := by decide +kernel
theorem dL_isAsked_124 : decode cL_isAsked 124 = .ok (.istore 9, 2) := by decide +kernel
theorem dL_isAsked_126 : decode cL_isAsked 126 = .ok (.aload_n 0, 1) := by decide +kernel
theorem dL_isAsked_127 : decode cL_isAsked 127 = .ok (.iload 4, 2) := by decide +kernel
theorem dL_isAsked_129 : decode cL_isAsked 129 = .ok (.iconst 5, 1) := by decide +kernel
theorem dL_isAsked_130 : decode cL_isAsked 130 = .ok (.idiv, 1) := by decide +kernel
theorem dL_isAsked_131 : decode cL_isAsked 131 = .ok (.iconst 5, 1) := by decide +kernel
theorem dL_isAsked_132 : decode cL_isAsked 132 = .ok (.irem, 1) := by decide +kernel
theorem dL_isAsked_133 : decode cL_isAsked 133 = .ok (.iload 5, 2) := by decide +kernel
theorem dL_isAsked_135 : decode cL_isAsked 135 = .ok (.iload 6, 2) := by decide +kernel
theorem dL_isAsked_137 : decode cL_isAsked 137 = .ok (.iload 7, 2) := by decide +kernel
theorem dL_isAsked_139 : decode cL_isAsked 139 = .ok (.iload 8, 2) := by decide +kernel
theorem dL_isAsked_141 : decode cL_isAsked 141 = .ok (.iload 9, 2) := by decide +kernel
theorem dL_isAsked_143 : decode cL_isAsked 143 = .ok (.iconst 1, 1) := by decide +kernel
theorem dL_isAsked_144 : decode cL_isAsked 144 = .ok (.iload 4, 2) := by decide +kernel
theorem dL_isAsked_146 : decode cL_isAsked 146 = .ok (.bipush 38, 2) := by decide +kernel
theorem dL_isAsked_148 : decode cL_isAsked 148 = .ok (.idiv, 1) := by decide +kernel
theorem dL_isAsked_149 : decode cL_isAsked 149 = .ok (.bipush 6, 2) := by decide +kernel
theorem dL_isAsked_151 : decode cL_isAsked 151 = .ok (.irem, 1) := by decide +kernel
theorem dL_isAsked_152 : decode cL_isAsked 152 = .ok (.iadd, 1) := by decide +kernel
theorem dL_isAsked_153 : decode cL_isAsked 153 = .ok (.invokestatic 155, 3) := by decide +kernel
theorem dL_isAsked_156 : decode cL_isAsked 156 = .ok (.istore 10, 2) := by decide +kernel
theorem dL_isAsked_158 : decode cL_isAsked 158 = .ok (.iconst 4, 1) := by decide +kernel
theorem dL_isAsked_159 : decode cL_isAsked 159 = .ok (.aload_n 1, 1) := by decide +kernel
theorem dL_isAsked_160 : decode cL_isAsked 160 = .ok (.iconst 3, 1) := by decide +kernel
theorem dL_isAsked_161 : decode cL_isAsked 161 = .ok (.iaload, 1) := by decide +kernel
theorem dL_isAsked_162 : decode cL_isAsked 162 = .ok (.imul, 1) := by decide +kernel
theorem dL_isAsked_163 : decode cL_isAsked 163 = .ok (.istore 11, 2) := by decide +kernel
theorem dL_isAsked_165 : decode cL_isAsked 165 = .ok (.aload_n 3, 1) := by decide +kernel
theorem dL_isAsked_166 : decode cL_isAsked 166 = .ok (.iload 11, 2) := by decide +kernel
theorem dL_isAsked_168 : decode cL_isAsked 168 = .ok (.iload 5, 2) := by decide +kernel
theorem dL_isAsked_170 : decode cL_isAsked 170 = .ok (.iastore, 1) := by decide +kernel
theorem dL_isAsked_171 : decode cL_isAsked 171 = .ok (.aload_n 3, 1) := by decide +kernel
theorem dL_isAsked_172 : decode cL_isAsked 172 = .ok (.iload 11, 2) := by decide +kernel
theorem dL_isAsked_174 : decode cL_isAsked 174 = .ok (.iconst 1, 1) := by decide +kernel
theorem dL_isAsked_175 : decode cL_isAsked 175 = .ok (.iadd, 1) := by decide +kernel
theorem dL_isAsked_176 : decode cL_isAsked 176 = .ok (.iload 6, 2) := by decide +kernel
theorem dL_isAsked_178 : decode cL_isAsked 178 = .ok (.iastore, 1) := by decide +kernel
theorem dL_isAsked_179 : decode cL_isAsked 179 = .ok (.aload_n 3, 1) := by decide +kernel
theorem dL_isAsked_180 : decode cL_isAsked 180 = .ok (.iload 11, 2) := by decide +kernel
theorem dL_isAsked_182 : decode cL_isAsked 182 = .ok (.iconst 2, 1) := by decide +kernel
theorem dL_isAsked_183 : decode cL_isAsked 183 = .ok (.iadd, 1) := by decide +kernel
theorem dL_isAsked_184 : decode cL_isAsked 184 = .ok (.iload 7, 2) := by decide +kernel
theorem dL_isAsked_186 : decode cL_isAsked 186 = .ok (.iastore, 1) := by decide +kernel
theorem dL_isAsked_187 : decode cL_isAsked 187 = .ok (.aload_n 3, 1) := by decide +kernel
theorem dL_isAsked_188 : decode cL_isAsked 188 = .ok (.iload 11, 2) := by decide +kernel
theorem dL_isAsked_190 : decode cL_isAsked 190 = .ok (.iconst 3, 1) := by decide +kernel
theorem dL_isAsked_191 : decode cL_isAsked 191 = .ok (.iadd, 1) := by decide +kernel
theorem dL_isAsked_192 : decode cL_isAsked 192 = .ok (.iload 4, 2) := by decide +kernel
theorem dL_isAsked_194 : decode cL_isAsked 194 = .ok (.iconst 5, 1) := by decide +kernel
theorem dL_isAsked_195 : decode cL_isAsked 195 = .ok (.idiv, 1) := by decide +kernel
theorem dL_isAsked_196 : decode cL_isAsked 196 = .ok (.iconst 5, 1) := by decide +kernel
theorem dL_isAsked_197 : decode cL_isAsked 197 = .ok (.irem, 1) := by decide +kernel
theorem dL_isAsked_198 : decode cL_isAsked 198 = .ok (.iastore, 1) := by decide +kernel
theorem dL_isAsked_199 : decode cL_isAsked 199 = .ok (.aload_n 1, 1) := by decide +kernel
theorem dL_isAsked_200 : decode cL_isAsked 200 = .ok (.iconst 3, 1) := by decide +kernel
theorem dL_isAsked_201 : decode cL_isAsked 201 = .ok (.dup2, 1) := by decide +kernel
theorem dL_isAsked_202 : decode cL_isAsked 202 = .ok (.iaload, 1) := by decide +kernel
theorem dL_isAsked_203 : decode cL_isAsked 203 = .ok (.iconst 1, 1) := by decide +kernel
theorem dL_isAsked_204 : decode cL_isAsked 204 = .ok (.iadd, 1) := by decide +kernel
theorem dL_isAsked_205 : decode cL_isAsked 205 = .ok (.iastore, 1) := by decide +kernel
theorem dL_isAsked_206 : decode cL_isAsked 206 = .ok (.iload 10, 2) := by decide +kernel
theorem dL_isAsked_208 : decode cL_isAsked 208 = .ok (.aload_n 1, 1) := by decide +kernel
theorem dL_isAsked_209 : decode cL_isAsked 209 = .ok (.iconst 3, 1) := by decide +kernel
theorem dL_isAsked_210 : decode cL_isAsked 210 = .ok (.iaload, 1) := by decide +kernel
theorem dL_isAsked_211 : decode cL_isAsked 211 = .ok (.iconst 1, 1) := by decide +kernel
theorem dL_isAsked_212 : decode cL_isAsked 212 = .ok (.isub, 1) := by decide +kernel
theorem dL_isAsked_213 : decode cL_isAsked 213 = .ok (.if_icmp .ne 94, 3) := by decide +kernel
theorem dL_isAsked_216 : decode cL_isAsked 216 = .ok (.aload_n 0, 1) := by decide +kernel
theorem dL_isAsked_217 : decode cL_isAsked 217 = .ok (.iload 10, 2) := by decide +kernel
theorem dL_isAsked_219 : decode cL_isAsked 219 = .ok (.iconst 0, 1) := by decide +kernel
theorem dL_isAsked_220 : decode cL_isAsked 220 = .ok (.invokevirtual 96, 3) := by decide +kernel
theorem dL_isAsked_223 : decode cL_isAsked 223 = .ok (.iload 8, 2) := by decide +kernel
theorem dL_isAsked_225 : decode cL_isAsked 225 = .ok (.iconst 3, 1) := by decide +kernel
theorem dL_isAsked_226 : decode cL_isAsked 226 = .ok (.if_icmp .ne 7, 3) := by decide +kernel
theorem dL_isAsked_229 : decode cL_isAsked 229 = .ok (.iconst 1, 1) := by decide +kernel
theorem dL_isAsked_230 : decode cL_isAsked 230 = .ok (.goto 4, 3) := by decide +kernel
theorem dL_isAsked_233 : decode cL_isAsked 233 = .ok (.iconst 0, 1) := by decide +kernel
theorem dL_isAsked_234 : decode cL_isAsked 234 = .ok (.if_icmp .ne 73, 3) := by decide +kernel
theorem dL_isAsked_237 : decode cL_isAsked 237 = .ok (.aload_n 0, 1) := by decide +kernel
theorem dL_isAsked_238 : decode cL_isAsked 238 = .ok (.iload 10, 2) := by decide +kernel
theorem dL_isAsked_240 : decode cL_isAsked 240 = .ok (.iconst 1, 1) := by decide +kernel
theorem dL_isAsked_241 : decode cL_isAsked 241 = .ok (.invokevirtual 96, 3) := by decide +kernel
theorem dL_isAsked_244 : decode cL_isAsked 244 = .ok (.iload 9, 2) := by decide +kernel
theorem dL_isAsked_246 : decode cL_isAsked 246 = .ok (.iload 4, 2) := by decide +kernel
theorem dL_isAsked_248 : decode cL_isAsked 248 = .ok (.bipush 38, 2) := by decide +kernel
theorem dL_isAsked_250 : decode cL_isAsked 250 = .ok (.idiv, 1) := by decide +kernel
theorem dL_isAsked_251 : decode cL_isAsked 251 = .ok (.bipush 6, 2) := by decide +kernel
theorem dL_isAsked_253 : decode cL_isAsked 253 = .ok (.irem, 1) := by decide +kernel
theorem dL_isAsked_254 : decode cL_isAsked 254 = .ok (.iadd, 1) := by decide +kernel
theorem dL_isAsked_255 : decode cL_isAsked 255 = .ok (.if_icmp .ne 52, 3) := by decide +kernel
theorem dL_isAsked_258 : decode cL_isAsked 258 = .ok (.aload_n 0, 1) := by decide +kernel
theorem dL_isAsked_259 : decode cL_isAsked 259 = .ok (.iload 10, 2) := by decide +kernel
theorem dL_isAsked_261 : decode cL_isAsked 261 = .ok (.iconst 2, 1) := by decide +kernel
theorem dL_isAsked_262 : decode cL_isAsked 262 = .ok (.invokevirtual 96, 3) := by decide +kernel
theorem dL_isAsked_265 : decode cL_isAsked 265 = .ok (.ifCond .ne 42, 3) := by decide +kernel
theorem dL_isAsked_268 : decode cL_isAsked 268 = .ok (.aload_n 0, 1) := by decide +kernel
theorem dL_isAsked_269 : decode cL_isAsked 269 = .ok (.iload 10, 2) := by decide +kernel
theorem dL_isAsked_271 : decode cL_isAsked 271 = .ok (.iconst 3, 1) := by decide +kernel
theorem dL_isAsked_272 : decode cL_isAsked 272 = .ok (.invokevirtual 96, 3) := by decide +kernel
theorem dL_isAsked_275 : decode cL_isAsked 275 = .ok (.ifCond .ne 32, 3) := by decide +kernel
theorem dL_isAsked_278 : decode cL_isAsked 278 = .ok (.aload_n 0, 1) := by decide +kernel
theorem dL_isAsked_279 : decode cL_isAsked 279 = .ok (.iload 10, 2) := by decide +kernel
theorem dL_isAsked_281 : decode cL_isAsked 281 = .ok (.iconst 4, 1) := by decide +kernel
theorem dL_isAsked_282 : decode cL_isAsked 282 = .ok (.invokevirtual 96, 3) := by decide +kernel
theorem dL_isAsked_285 : decode cL_isAsked 285 = .ok (.ifCond .ne 22, 3) := by decide +kernel
theorem dL_isAsked_288 : decode cL_isAsked 288 = .ok (.iload 8, 2) := by decide +kernel
theorem dL_isAsked_290 : decode cL_isAsked 290 = .ok (.iconst 3, 1) := by decide +kernel
theorem dL_isAsked_291 : decode cL_isAsked 291 = .ok (.if_icmp .ne 12, 3) := by decide +kernel
theorem dL_isAsked_294 : decode cL_isAsked 294 = .ok (.aload_n 0, 1) := by decide +kernel
theorem dL_isAsked_295 : decode cL_isAsked 295 = .ok (.iload 10, 2) := by decide +kernel
theorem dL_isAsked_297 : decode cL_isAsked 297 = .ok (.invokevirtual 90, 3) := by decide +kernel
theorem dL_isAsked_300 : decode cL_isAsked 300 = .ok (.ifCond .ne 7, 3) := by decide +kernel
theorem dL_isAsked_303 : decode cL_isAsked 303 = .ok (.iconst 1, 1) := by decide +kernel
theorem dL_isAsked_304 : decode cL_isAsked 304 = .ok (.goto 4, 3) := by decide +kernel
theorem dL_isAsked_307 : decode cL_isAsked 307 = .ok (.iconst 0, 1) := by decide +kernel
theorem dL_isAsked_308 : decode cL_isAsked 308 = .ok (.ireturn, 1) := by decide +kernel
theorem dL_isDone_0 : decode cL_isDone 0 = .ok (.iload 4, 2) := by decide +kernel
theorem dL_isDone_2 : decode cL_isDone 2 = .ok (.aload_n 1, 1) := by decide +kernel
theorem dL_isDone_3 : decode cL_isDone 3 = .ok (.iconst 3, 1) := by decide +kernel
theorem dL_isDone_4 : decode cL_isDone 4 = .ok (.iaload, 1) := by decide +kernel
theorem dL_isDone_5 : decode cL_isDone 5 = .ok (.irem, 1) := by decide +kernel
theorem dL_isDone_6 : decode cL_isDone 6 = .ok (.istore 5, 2) := by decide +kernel
theorem dL_isDone_8 : decode cL_isDone 8 = .ok (.iconst 0, 1) := by decide +kernel
theorem dL_isDone_9 : decode cL_isDone 9 = .ok (.istore 6, 2) := by decide +kernel
theorem dL_isDone_11 : decode cL_isDone 11 = .ok (.iload 6, 2) := by decide +kernel
theorem dL_isDone_13 : decode cL_isDone 13 = .ok (.aload_n 1, 1) := by decide +kernel
theorem dL_isDone_14 : decode cL_isDone 14 = .ok (.iconst 3, 1) := by decide +kernel
theorem dL_isDone_15 : decode cL_isDone 15 = .ok (.iaload, 1) := by decide +kernel
theorem dL_isDone_16 : decode cL_isDone 16 = .ok (.if_icmp .ge 35, 3) := by decide +kernel
theorem dL_isDone_19 : decode cL_isDone 19 = .ok (.iload_n 3, 1) := by decide +kernel
theorem dL_isDone_20 : decode cL_isDone 20 = .ok (.iconst 5, 1) := by decide +kernel
theorem dL_isDone_21 : decode cL_isDone 21 = .ok (.if_icmp .le 30, 3) := by decide +kernel
theorem dL_isDone_24 : decode cL_isDone 24 = .ok (.aload_n 0, 1) := by decide +kernel
theorem dL_isDone_25 : decode cL_isDone 25 = .ok (.iload 5, 2) := by decide +kernel
theorem dL_isDone_27 : decode cL_isDone 27 = .ok (.iconst 0, 1) := by decide +kernel
theorem dL_isDone_28 : decode cL_isDone 28 = .ok (.invokevirtual 96, 3) := by decide +kernel
theorem dL_isDone_31 : decode cL_isDone 31 = .ok (.iconst 3, 1) := by decide +kernel
theorem dL_isDone_32 : decode cL_isDone 32 = .ok (.if_icmp .eq 19, 3) := by decide +kernel
theorem dL_isDone_35 : decode cL_isDone 35 = .ok (.iload 5, 2) := by decide +kernel
theorem dL_isDone_37 : decode cL_isDone 37 = .ok (.iconst 1, 1) := by decide +kernel
theorem dL_isDone_38 : decode cL_isDone 38 = .ok (.iadd, 1) := by decide +kernel
theorem dL_isDone_39 : decode cL_isDone 39 = .ok (.aload_n 1, 1) := by decide +kernel
theorem dL_isDone_40 : decode cL_isDone 40 = .ok (.iconst 3, 1) := by decide +kernel
theorem dL_isDone_41 : decode cL_isDone 41 = .ok (.iaload, 1) := by decide +kernel
theorem dL_isDone_42 : decode cL_isDone 42 = .ok (.irem, 1) := by decide +kernel
theorem dL_isDone_43 : decode cL_isDone 43 = .ok (.istore 5, 2) := by decide +kernel
theorem dL_isDone_45 : decode cL_isDone 45 = .ok (.iinc 6 1, 3) := by decide +kernel
theorem dL_isDone_48 : decode cL_isDone 48 = .ok (.goto (-37), 3) := by decide +kernel
theorem dL_isDone_51 : decode cL_isDone 51 = .ok (.iload 4, 2) := by decide +kernel
theorem dL_isDone_53 : decode cL_isDone 53 = .ok (.bipush 24, 2) := by decide +kernel
theorem dL_isDone_55 : decode cL_isDone 55 = .ok (.idiv, 1) := by decide +kernel
theorem dL_isDone_56 : decode cL_isDone 56 = .ok (.istore 6, 2) := by decide +kernel
theorem dL_isDone_58 : decode cL_isDone 58 = .ok (.aload_n 0, 1) := by decide +kernel
theorem dL_isDone_59 : decode cL_isDone 59 = .ok (.iload 5, 2) := by decide +kernel
theorem dL_isDone_61 : decode cL_isDone 61 = .ok (.iconst 0, 1) := by decide +kernel
theorem dL_isDone_62 : decode cL_isDone 62 = .ok (.invokevirtual 96, 3) := by decide +kernel
theorem dL_isDone_65 : decode cL_isDone 65 = .ok (.istore 7, 2) := by decide +kernel
theorem dL_isDone_67 : decode cL_isDone 67 = .ok (.aload_n 2, 1) := by decide +kernel
theorem dL_isDone_68 : decode cL_isDone 68 = .ok (.iconst 4, 1) := by decide +kernel
theorem dL_isDone_69 : decode cL_isDone 69 = .ok (.iload 5, 2) := by decide +kernel
theorem dL_isDone_71 : decode cL_isDone 71 = .ok (.imul, 1) := by decide +kernel
theorem dL_isDone_72 : decode cL_isDone 72 = .ok (.iconst 3, 1) := by decide +kernel
theorem dL_isDone_73 : decode cL_isDone 73 = .ok (.iadd, 1) := by decide +kernel
theorem dL_isDone_74 : decode cL_isDone 74 = .ok (.iaload, 1) := by decide +kernel
