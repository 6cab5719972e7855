theorem dL_isRefused_1492 : decode cL_isRefused 1492 = .ok (.bipush 30, 2) := by decide +kernel
theorem dL_isRefused_1494 : decode cL_isRefused 1494 = .ok (.irem, 1) := by decide +kernel
theorem dL_isRefused_1495 : decode cL_isRefused 1495 = .ok (.isub, 1) := by decide +kernel
theorem dL_isRefused_1496 : decode cL_isRefused 1496 = .ok (.goto 5, 3) := by decide +kernel
theorem dL_isRefused_1499 : decode cL_isRefused 1499 = .ok (.bipush 101, 2) := by decide +kernel
theorem dL_isRefused_1501 : decode cL_isRefused 1501 = .ok (.iconst 0, 1) := by decide +kernel
theorem dL_isRefused_1502 : decode cL_isRefused 1502 = .ok (.iconst 0, 1) := by decide +kernel
theorem dL_isRefused_1503 : decode cL_isRefused 1503 = .ok (.invokestatic 147, 3) := by decide +kernel
theorem dL_isRefused_1506 : decode cL_isRefused 1506 = .ok (.ifCond .eq 59, 3) := by decide +kernel
theorem dL_isRefused_1509 : decode cL_isRefused 1509 = .ok (.aload_n 0, 1) := by decide +kernel
theorem dL_isRefused_1510 : decode cL_isRefused 1510 = .ok (.bipush 25, 2) := by decide +kernel
theorem dL_isRefused_1512 : decode cL_isRefused 1512 = .ok (.iload 13, 2) := by decide +kernel
theorem dL_isRefused_1514 : decode cL_isRefused 1514 = .ok (.iconst (-1), 1) := by decide +kernel
theorem dL_isRefused_1515 : decode cL_isRefused 1515 = .ok (.iload 4, 2) := by decide +kernel
theorem dL_isRefused_1517 : decode cL_isRefused 1517 = .ok (.bipush 30, 2) := by decide +kernel
theorem dL_isRefused_1519 : decode cL_isRefused 1519 = .ok (.irem, 1) := by decide +kernel
theorem dL_isRefused_1520 : decode cL_isRefused 1520 = .ok (.isub, 1) := by decide +kernel
theorem dL_isRefused_1521 : decode cL_isRefused 1521 = .ok (.iconst 0, 1) := by decide +kernel
theorem dL_isRefused_1522 : decode cL_isRefused 1522 = .ok (.iconst 0, 1) := by decide +kernel
theorem dL_isRefused_1523 : decode cL_isRefused 1523 = .ok (.iconst 0, 1) := by decide +kernel
theorem dL_isRefused_1524 : decode cL_isRefused 1524 = .ok (.invokestatic 147, 3) := by decide +kernel
theorem dL_isRefused_1527 : decode cL_isRefused 1527 = .ok (.ifCond .eq 38, 3) := by decide +kernel
theorem dL_isRefused_1530 : decode cL_isRefused 1530 = .ok (.aload_n 0, 1) := by decide +kernel
theorem dL_isRefused_1531 : decode cL_isRefused 1531 = .ok (.bipush 26, 2) := by decide +kernel
theorem dL_isRefused_1533 : decode cL_isRefused 1533 = .ok (.iload 13, 2) := by decide +kernel
theorem dL_isRefused_1535 : decode cL_isRefused 1535 = .ok (.iload 5, 2) := by decide +kernel
theorem dL_isRefused_1537 : decode cL_isRefused 1537 = .ok (.ifCond .eq 13, 3) := by decide +kernel
theorem dL_isRefused_1540 : decode cL_isRefused 1540 = .ok (.iconst (-1), 1) := by decide +kernel
theorem dL_isRefused_1541 : decode cL_isRefused 1541 = .ok (.iload 4, 2) := by decide +kernel
theorem dL_isRefused_1543 : decode cL_isRefused 1543 = .ok (.bipush 30, 2) := by decide +kernel
theorem dL_isRefused_1545 : decode cL_isRefused 1545 = .ok (.irem, 1) := by decide +kernel
theorem dL_isRefused_1546 : decode cL_isRefused 1546 = .ok (.isub, 1) := by decide +kernel
theorem dL_isRefused_1547 : decode cL_isRefused 1547 = .ok (.goto 5, 3) := by decide +kernel
theorem dL_isRefused_1550 : decode cL_isRefused 1550 = .ok (.bipush 8, 2) := by decide +kernel
theorem dL_isRefused_1552 : decode cL_isRefused 1552 = .ok (.iconst 0, 1) := by decide +kernel
theorem dL_isRefused_1553 : decode cL_isRefused 1553 = .ok (.iconst 0, 1) := by decide +kernel
theorem dL_isRefused_1554 : decode cL_isRefused 1554 = .ok (.iconst 0, 1) := by decide +kernel
theorem dL_isRefused_1555 : decode cL_isRefused 1555 = .ok (.invokestatic 147, 3) := by decide +kernel
theorem dL_isRefused_1558 : decode cL_isRefused 1558 = .ok (.ifCond .eq 7, 3) := by decide +kernel
theorem dL_isRefused_1561 : decode cL_isRefused 1561 = .ok (.iconst 1, 1) := by decide +kernel
theorem dL_isRefused_1562 : decode cL_isRefused 1562 = .ok (.goto 4, 3) := by decide +kernel
theorem dL_isRefused_1565 : decode cL_isRefused 1565 = .ok (.iconst 0, 1) := by decide +kernel
theorem dL_isRefused_1566 : decode cL_isRefused 1566 = .ok (.istore 12, 2) := by decide +kernel
theorem dL_isRefused_1568 : decode cL_isRefused 1568 = .ok (.iload 12, 2) := by decide +kernel
theorem dL_isRefused_1570 : decode cL_isRefused 1570 = .ok (.ifCond .eq 19, 3) := by decide +kernel
theorem dL_isRefused_1573 : decode cL_isRefused 1573 = .ok (.aload_n 0, 1) := by decide +kernel
theorem dL_isRefused_1574 : decode cL_isRefused 1574 = .ok (.aload_n 1, 1) := by decide +kernel
theorem dL_isRefused_1575 : decode cL_isRefused 1575 = .ok (.aload_n 2, 1) := by decide +kernel
theorem dL_isRefused_1576 : decode cL_isRefused 1576 = .ok (.invokestatic 143, 3) := by decide +kernel
theorem dL_isRefused_1579 : decode cL_isRefused 1579 = .ok (.lload 10, 2) := by decide +kernel
theorem dL_isRefused_1581 : decode cL_isRefused 1581 = .ok (.lcmp, 1) := by decide +kernel
theorem dL_isRefused_1582 : decode cL_isRefused 1582 = .ok (.ifCond .ne 7, 3) := by decide +kernel
theorem dL_isRefused_1585 : decode cL_isRefused 1585 = .ok (.iconst 1, 1) := by decide +kernel
theorem dL_isRefused_1586 : decode cL_isRefused 1586 = .ok (.goto 4, 3) := by decide +kernel
theorem dL_isRefused_1589 : decode cL_isRefused 1589 = .ok (.iconst 0, 1) := by decide +kernel
theorem dL_isRefused_1590 : decode cL_isRefused 1590 = .ok (.ireturn, 1) := by decide +kernel
theorem dL_areSound_0 : decode cL_areSound 0 = .ok (.lconst 0, 1) := by decide +kernel
theorem dL_areSound_1 : decode cL_areSound 1 = .ok (.lstore 5, 2) := by decide +kernel
theorem dL_areSound_3 : decode cL_areSound 3 = .ok (.iconst 1, 1) := by decide +kernel
theorem dL_areSound_4 : decode cL_areSound 4 = .ok (.istore 7, 2) := by decide +kernel
theorem dL_areSound_6 : decode cL_areSound 6 = .ok (.iconst 0, 1) := by decide +kernel
theorem dL_areSound_7 : decode cL_areSound 7 = .ok (.istore 8, 2) := by decide +kernel
theorem dL_areSound_9 : decode cL_areSound 9 = .ok (.iload 8, 2) := by decide +kernel
theorem dL_areSound_11 : decode cL_areSound 11 = .ok (.bipush 6, 2) := by decide +kernel
theorem dL_areSound_13 : decode cL_areSound 13 = .ok (.if_icmp .ge 63, 3) := by decide +kernel
theorem dL_areSound_16 : decode cL_areSound 16 = .ok (.iload 7, 2) := by decide +kernel
theorem dL_areSound_18 : decode cL_areSound 18 = .ok (.ifCond .eq 58, 3) := by decide +kernel
theorem dL_areSound_21 : decode cL_areSound 21 = .ok (.lload 5, 2) := by decide +kernel
theorem dL_areSound_23 : decode cL_areSound 23 = .ok (.aload_n 0, 1) := by decide +kernel
theorem dL_areSound_24 : decode cL_areSound 24 = .ok (.iload 8, 2) := by decide +kernel
theorem dL_areSound_26 : decode cL_areSound 26 = .ok (.invokevirtual 111, 3) := by decide +kernel
theorem dL_areSound_29 : decode cL_areSound 29 = .ok (.ladd, 1) := by decide +kernel
theorem dL_areSound_30 : decode cL_areSound 30 = .ok (.lstore 5, 2) := by decide +kernel
theorem dL_areSound_32 : decode cL_areSound 32 = .ok (.aload_n 0, 1) := by decide +kernel
theorem dL_areSound_33 : decode cL_areSound 33 = .ok (.iload 8, 2) := by decide +kernel
theorem dL_areSound_35 : decode cL_areSound 35 = .ok (.invokevirtual 111, 3) := by decide +kernel
theorem dL_areSound_38 : decode cL_areSound 38 = .ok (.aload_n 0, 1) := by decide +kernel
theorem dL_areSound_39 : decode cL_areSound 39 = .ok (.iload 8, 2) := by decide +kernel
theorem dL_areSound_41 : decode cL_areSound 41 = .ok (.invokevirtual 115, 3) := by decide +kernel
theorem dL_areSound_44 : decode cL_areSound 44 = .ok (.lcmp, 1) := by decide +kernel
theorem dL_areSound_45 : decode cL_areSound 45 = .ok (.ifCond .ne 22, 3) := by decide +kernel
theorem dL_areSound_48 : decode cL_areSound 48 = .ok (.iload 8, 2) := by decide +kernel
theorem dL_areSound_50 : decode cL_areSound 50 = .ok (.iconst 5, 1) := by decide +kernel
theorem dL_areSound_51 : decode cL_areSound 51 = .ok (.if_icmp .eq 12, 3) := by decide +kernel
theorem dL_areSound_54 : decode cL_areSound 54 = .ok (.aload_n 0, 1) := by decide +kernel
theorem dL_areSound_55 : decode cL_areSound 55 = .ok (.iload 8, 2) := by decide +kernel
theorem dL_areSound_57 : decode cL_areSound 57 = .ok (.invokevirtual 108, 3) := by decide +kernel
theorem dL_areSound_60 : decode cL_areSound 60 = .ok (.ifCond .lt 7, 3) := by decide +kernel
theorem dL_areSound_63 : decode cL_areSound 63 = .ok (.iconst 1, 1) := by decide +kernel
theorem dL_areSound_64 : decode cL_areSound 64 = .ok (.goto 4, 3) := by decide +kernel
theorem dL_areSound_67 : decode cL_areSound 67 = .ok (.iconst 0, 1) := by decide +kernel
theorem dL_areSound_68 : decode cL_areSound 68 = .ok (.istore 7, 2) := by decide +kernel
theorem dL_areSound_70 : decode cL_areSound 70 = .ok (.iinc 8 1, 3) := by decide +kernel
theorem dL_areSound_73 : decode cL_areSound 73 = .ok (.goto (-64), 3) := by decide +kernel
theorem dL_areSound_76 : decode cL_areSound 76 = .ok (.iload 7, 2) := by decide +kernel
theorem dL_areSound_78 : decode cL_areSound 78 = .ok (.ifCond .eq 24, 3) := by decide +kernel
theorem dL_areSound_81 : decode cL_areSound 81 = .ok (.lload 5, 2) := by decide +kernel
theorem dL_areSound_83 : decode cL_areSound 83 = .ok (.lconst 0, 1) := by decide +kernel
theorem dL_areSound_84 : decode cL_areSound 84 = .ok (.lcmp, 1) := by decide +kernel
theorem dL_areSound_85 : decode cL_areSound 85 = .ok (.ifCond .ne 17, 3) := by decide +kernel
theorem dL_areSound_88 : decode cL_areSound 88 = .ok (.aload_n 0, 1) := by decide +kernel
theorem dL_areSound_89 : decode cL_areSound 89 = .ok (.iconst 5, 1) := by decide +kernel
theorem dL_areSound_90 : decode cL_areSound 90 = .ok (.invokevirtual 111, 3) := by decide +kernel
theorem dL_areSound_93 : decode cL_areSound 93 = .ok (.lconst 0, 1) := by decide +kernel
theorem dL_areSound_94 : decode cL_areSound 94 = .ok (.lcmp, 1) := by decide +kernel
theorem dL_areSound_95 : decode cL_areSound 95 = .ok (.ifCond .lt 7, 3) := by decide +kernel
theorem dL_areSound_98 : decode cL_areSound 98 = .ok (.iconst 1, 1) := by decide +kernel
theorem dL_areSound_99 : decode cL_areSound 99 = .ok (.goto 4, 3) := by decide +kernel
theorem dL_areSound_102 : decode cL_areSound 102 = .ok (.iconst 0, 1) := by decide +kernel
theorem dL_areSound_103 : decode cL_areSound 103 = .ok (.istore 7, 2) := by decide +kernel
theorem dL_areSound_105 : decode cL_areSound 105 = .ok (.iconst 0, 1) := by decide +kernel
theorem dL_areSound_106 : decode cL_areSound 106 = .ok (.istore 8, 2) := by decide +kernel
theorem dL_areSound_108 : decode cL_areSound 108 = .ok (.iload 8, 2) := by decide +kernel
theorem dL_areSound_110 : decode cL_areSound 110 = .ok (.aload_n 1, 1) := by decide +kernel
theorem dL_areSound_111 : decode cL_areSound 111 = .ok (.iconst 3, 1) := by decide +kernel
theorem dL_areSound_112 : decode cL_areSound 112 = .ok (.iaload, 1) := by decide +kernel
theorem dL_areSound_113 : decode cL_areSound 113 = .ok (.if_icmp .ge 237, 3) := by decide +kernel
theorem dL_areSound_116 : decode cL_areSound 116 = .ok (.iload 7, 2) := by decide +kernel
theorem dL_areSound_118 : decode cL_areSound 118 = .ok (.ifCond .eq 232, 3) := by decide +kernel
theorem dL_areSound_121 : decode cL_areSound 121 = .ok (.aload_n 0, 1) := by decide +kernel
theorem dL_areSound_122 : decode cL_areSound 122 = .ok (.iload 8, 2) := by decide +kernel
theorem dL_areSound_124 : decode cL_areSound 124 = .ok (.iconst 0, 1) := by decide +kernel
theorem dL_areSound_125 : decode cL_areSound 125 = .ok (.invokevirtual 96, 3) := by decide +kernel
theorem dL_areSound_128 : decode cL_areSound 128 = .ok (.istore 9, 2) := by decide +kernel
theorem dL_areSound_130 : decode cL_areSound 130 = .ok (.iconst 0, 1) := by decide +kernel
theorem dL_areSound_131 : decode cL_areSound 131 = .ok (.istore 10, 2) := by decide +kernel
theorem dL_areSound_133 : decode cL_areSound 133 = .ok (.aload_n 3, 1) := by decide +kernel
theorem dL_areSound_134 : decode cL_areSound 134 = .ok (.iconst 4, 1) := by decide +kernel
theorem dL_areSound_135 : decode cL_areSound 135 = .ok (.iload 8, 2) := by decide +kernel
theorem dL_areSound_137 : decode cL_areSound 137 = .ok (.imul, 1) := by decide +kernel
theorem dL_areSound_138 : decode cL_areSound 138 = .ok (.iconst 1, 1) := by decide +kernel
theorem dL_areSound_139 : decode cL_areSound 139 = .ok (.iadd, 1) := by decide +kernel
theorem dL_areSound_140 : decode cL_areSound 140 = .ok (.iaload, 1) := by decide +kernel
theorem dL_areSound_141 : decode cL_areSound 141 = .ok (.istore 11, 2) := by decide +kernel
theorem dL_areSound_143 : decode cL_areSound 143 = .ok (.iload 11, 2) := by decide +kernel
theorem dL_areSound_145 : decode cL_areSound 145 = .ok (.aload_n 3, 1) := by decide +kernel
theorem dL_areSound_146 : decode cL_areSound 146 = .ok (.iconst 4, 1) := by decide +kernel
theorem dL_areSound_147 : decode cL_areSound 147 = .ok (.iload 8, 2) := by decide +kernel
theorem dL_areSound_149 : decode cL_areSound 149 = .ok (.imul, 1) := by decide +kernel
theorem dL_areSound_150 : decode cL_areSound 150 = .ok (.iconst 2, 1) := by decide +kernel
theorem dL_areSound_151 : decode cL_areSound 151 = .ok (.iadd, 1) := by decide +kernel
theorem dL_areSound_152 : decode cL_areSound 152 = .ok (.iaload, 1) := by decide +kernel
theorem dL_areSound_153 : decode cL_areSound 153 = .ok (.if_icmp .gt 37, 3) := by decide +kernel
theorem dL_areSound_156 : decode cL_areSound 156 = .ok (.iload 10, 2) := by decide +kernel
theorem dL_areSound_158 : decode cL_areSound 158 = .ok (.aload_n 0, 1) := by decide +kernel
theorem dL_areSound_159 : decode cL_areSound 159 = .ok (.aload_n 3, 1) := by decide +kernel
theorem dL_areSound_160 : decode cL_areSound 160 = .ok (.iconst 4, 1) := by decide +kernel
theorem dL_areSound_161 : decode cL_areSound 161 = .ok (.iload 8, 2) := by decide +kernel
theorem dL_areSound_163 : decode cL_areSound 163 = .ok (.imul, 1) := by decide +kernel
theorem dL_areSound_164 : decode cL_areSound 164 = .ok (.iaload, 1) := by decide +kernel
theorem dL_areSound_165 : decode cL_areSound 165 = .ok (.iload 11, 2) := by decide +kernel
theorem dL_areSound_167 : decode cL_areSound 167 = .ok (.iconst 2, 1) := by decide +kernel
theorem dL_areSound_168 : decode cL_areSound 168 = .ok (.invokevirtual 99, 3) := by decide +kernel
theorem dL_areSound_171 : decode cL_areSound 171 = .ok (.iload 8, 2) := by decide +kernel
theorem dL_areSound_173 : decode cL_areSound 173 = .ok (.if_icmp .ne 7, 3) := by decide +kernel
theorem dL_areSound_176 : decode cL_areSound 176 = .ok (.iconst 1, 1) := by decide +kernel
theorem dL_areSound_177 : decode cL_areSound 177 = .ok (.goto 4, 3) := by decide +kernel
theorem dL_areSound_180 : decode cL_areSound 180 = .ok (.iconst 0, 1) := by decide +kernel
theorem dL_areSound_181 : decode cL_areSound 181 = .ok (.iadd, 1) := by decide +kernel
theorem dL_areSound_182 : decode cL_areSound 182 = .ok (.istore 10, 2) := by decide +kernel
theorem dL_areSound_184 : decode cL_areSound 184 = .ok (.iinc 11 1, 3) := by decide +kernel
theorem dL_areSound_187 : decode cL_areSound 187 = .ok (.goto (-44), 3) := by decide +kernel
theorem dL_areSound_190 : decode cL_areSound 190 = .ok (.aload_n 0, 1) := by decide +kernel
theorem dL_areSound_191 : decode cL_areSound 191 = .ok (.iload 8, 2) := by decide +kernel
theorem dL_areSound_193 : decode cL_areSound 193 = .ok (.invokevirtual 90, 3) := by decide +kernel
theorem dL_areSound_196 : decode cL_areSound 196 = .ok (.istore 11, 2) := by decide +kernel
theorem dL_areSound_198 : decode cL_areSound 198 = .ok (.aload_n 0, 1) := by decide +kernel
theorem dL_areSound_199 : decode cL_areSound 199 = .ok (.iload 8, 2) := by decide +kernel
theorem dL_areSound_201 : decode cL_areSound 201 = .ok (.iconst 0, 1) := by decide +kernel
theorem dL_areSound_202 : decode cL_areSound 202 = .ok (.invokevirtual 93, 3) := by decide +kernel
theorem dL_areSound_205 : decode cL_areSound 205 = .ok (.istore 12, 2) := by decide +kernel
theorem dL_areSound_207 : decode cL_areSound 207 = .ok (.aload_n 0, 1) := by decide +kernel
theorem dL_areSound_208 : decode cL_areSound 208 = .ok (.iload 8, 2) := by decide +kernel
theorem dL_areSound_210 : decode cL_areSound 210 = .ok (.iconst 5, 1) := by decide +kernel
theorem dL_areSound_211 : decode cL_areSound 211 = .ok (.invokevirtual 96, 3) := by decide +kernel
theorem dL_areSound_214 : decode cL_areSound 214 = .ok (.iload 10, 2) := by decide +kernel
theorem dL_areSound_216 : decode cL_areSound 216 = .ok (.if_icmp .ne 125, 3) := by decide +kernel
theorem dL_areSound_219 : decode cL_areSound 219 = .ok (.iload 9, 2) := by decide +kernel
theorem dL_areSound_221 : decode cL_areSound 221 = .ok (.iconst 3, 1) := by decide +kernel
theorem dL_areSound_222 : decode cL_areSound 222 = .ok (.if_icmp .eq 19, 3) := by decide +kernel
theorem dL_areSound_225 : decode cL_areSound 225 = .ok (.iload 10, 2) := by decide +kernel
theorem dL_areSound_227 : decode cL_areSound 227 = .ok (.ifCond .ne 114, 3) := by decide +kernel
theorem dL_areSound_230 : decode cL_areSound 230 = .ok (.aload_n 0, 1) := by decide +kernel
theorem dL_areSound_231 : decode cL_areSound 231 = .ok (.iload 8, 2) := by decide +kernel
theorem dL_areSound_233 : decode cL_areSound 233 = .ok (.bipush 6, 2) := by decide +kernel
theorem dL_areSound_235 : decode cL_areSound 235 = .ok (.invokevirtual 96, 3) := by decide +kernel
theorem dL_areSound_238 : decode cL_areSound 238 = .ok (.ifCond .ne 103, 3) := by decide +kernel
theorem dL_areSound_241 : decode cL_areSound 241 = .ok (.iload 11, 2) := by decide +kernel
theorem dL_areSound_243 : decode cL_areSound 243 = .ok (.ifCond .lt 98, 3) := by decide +kernel
theorem dL_areSound_246 : decode cL_areSound 246 = .ok (.iload 11, 2) := by decide +kernel
theorem dL_areSound_248 : decode cL_areSound 248 = .ok (.iconst 4, 1) := by decide +kernel
theorem dL_areSound_249 : decode cL_areSound 249 = .ok (.if_icmp .ge 92, 3) := by decide +kernel
theorem dL_areSound_252 : decode cL_areSound 252 = .ok (.aload_n 0, 1) := by decide +kernel
theorem dL_areSound_253 : decode cL_areSound 253 = .ok (.iload 8, 2) := by decide +kernel
theorem dL_areSound_255 : decode cL_areSound 255 = .ok (.iconst 4, 1) := by decide +kernel
theorem dL_areSound_256 : decode cL_areSound 256 = .ok (.invokevirtual 96, 3) := by decide +kernel
theorem dL_areSound_259 : decode cL_areSound 259 = .ok (.ifCond .lt 82, 3) := by decide +kernel
theorem dL_areSound_262 : decode cL_areSound 262 = .ok (.iload 9, 2) := by decide +kernel
theorem dL_areSound_264 : decode cL_areSound 264 = .ok (.iconst 2, 1) := by decide +kernel
theorem dL_areSound_265 : decode cL_areSound 265 = .ok (.if_icmp .eq 9, 3) := by decide +kernel
theorem dL_areSound_268 : decode cL_areSound 268 = .ok (.iload 9, 2) := by decide +kernel
theorem dL_areSound_270 : decode cL_areSound 270 = .ok (.iconst 4, 1) := by decide +kernel
theorem dL_areSound_271 : decode cL_areSound 271 = .ok (.if_icmp .ne 9, 3) := by decide +kernel
theorem dL_areSound_274 : decode cL_areSound 274 = .ok (.iload 12, 2) := by decide +kernel
theorem dL_areSound_276 : decode cL_areSound 276 = .ok (.iconst (-1), 1) := by decide +kernel
theorem dL_areSound_277 : decode cL_areSound 277 = .ok (.if_icmp .ne 64, 3) := by decide +kernel
theorem dL_areSound_280 : decode cL_areSound 280 = .ok (.iload 11, 2) := by decide +kernel
theorem dL_areSound_282 : decode cL_areSound 282 = .ok (.iconst 3, 1) := by decide +kernel
theorem dL_areSound_283 : decode cL_areSound 283 = .ok (.if_icmp .ne 8, 3) := by decide +kernel
theorem dL_areSound_286 : decode cL_areSound 286 = .ok (.iload 12, 2) := by decide +kernel
theorem dL_areSound_288 : decode cL_areSound 288 = .ok (.ifCond .lt 53, 3) := by decide +kernel
theorem dL_areSound_291 : decode cL_areSound 291 = .ok (.iload 12, 2) := by decide +kernel
theorem dL_areSound_293 : decode cL_areSound 293 = .ok (.ifCond .lt 44, 3) := by decide +kernel
theorem dL_areSound_296 : decode cL_areSound 296 = .ok (.aload_n 0, 1) := by decide +kernel
theorem dL_areSound_297 : decode cL_areSound 297 = .ok (.iload 12, 2) := by decide +kernel
theorem dL_areSound_299 : decode cL_areSound 299 = .ok (.iload 8, 2) := by decide +kernel
theorem dL_areSound_301 : decode cL_areSound 301 = .ok (.invokevirtual 93, 3) := by decide +kernel
theorem dL_areSound_304 : decode cL_areSound 304 = .ok (.iload 8, 2) := by decide +kernel
theorem dL_areSound_306 : decode cL_areSound 306 = .ok (.if_icmp .ne 35, 3) := by decide +kernel
theorem dL_areSound_309 : decode cL_areSound 309 = .ok (.aload_n 0, 1) := by decide +kernel
theorem dL_areSound_310 : decode cL_areSound 310 = .ok (.iload 8, 2) := by decide +kernel
theorem dL_areSound_312 : decode cL_areSound 312 = .ok (.iload 12, 2) := by decide +kernel
theorem dL_areSound_314 : decode cL_areSound 314 = .ok (.invokevirtual 93, 3) := by decide +kernel
theorem dL_areSound_317 : decode cL_areSound 317 = .ok (.iload 12, 2) := by decide +kernel
theorem dL_areSound_319 : decode cL_areSound 319 = .ok (.if_icmp .ne 22, 3) := by decide +kernel
theorem dL_areSound_322 : decode cL_areSound 322 = .ok (.aload_n 0, 1) := by decide +kernel
theorem dL_areSound_323 : decode cL_areSound 323 = .ok (.iload 8, 2) := by decide +kernel
theorem dL_areSound_325 : decode cL_areSound 325 = .ok (.iload 12, 2) := by decide +kernel
theorem dL_areSound_327 : decode cL_areSound 327 = .ok (.iconst 1, 1) := by decide +kernel
theorem dL_areSound_328 : decode cL_areSound 328 = .ok (.iadd, 1) := by decide +kernel
theorem dL_areSound_329 : decode cL_areSound 329 = .ok (.invokevirtual 93, 3) := by decide +kernel
theorem dL_areSound_332 : decode cL_areSound 332 = .ok (.iload 12, 2) := by decide +kernel
theorem dL_areSound_334 : decode cL_areSound 334 = .ok (.if_icmp .eq 7, 3) := by decide +kernel
theorem dL_areSound_337 : decode cL_areSound 337 = .ok (.iconst 1, 1) := by decide +kernel
theorem dL_areSound_338 : decode cL_areSound 338 = .ok (.goto 4, 3) := by decide +kernel
theorem dL_areSound_341 : decode cL_areSound 341 = .ok (.iconst 0, 1) := by decide +kernel
theorem dL_areSound_342 : decode cL_areSound 342 = .ok (.istore 7, 2) := by decide +kernel
theorem dL_areSound_344 : decode cL_areSound 344 = .ok (.iinc 8 1, 3) := by decide +kernel
theorem dL_areSound_347 : decode cL_areSound 347 = .ok (.goto (-239), 3) := by decide +kernel
theorem dL_areSound_350 : decode cL_areSound 350 = .ok (.iconst 0, 1) := by decide +kernel
theorem dL_areSound_351 : decode cL_areSound 351 = .ok (.istore 8, 2) := by decide +kernel
theorem dL_areSound_353 : decode cL_areSound 353 = .ok (.iload 8, 2) := by decide +kernel
theorem dL_areSound_355 : decode cL_areSound 355 = .ok (.aload_n 1, 1) := by decide +kernel
theorem dL_areSound_356 : decode cL_areSound 356 = .ok (.iconst 1, 1) := by decide +kernel
theorem dL_areSound_357 : decode cL_areSound 357 = .ok (.iaload, 1) := by decide +kernel
theorem dL_areSound_358 : decode cL_areSound 358 = .ok (.if_icmp .ge 283, 3) := by decide +kernel
theorem dL_areSound_361 : decode cL_areSound 361 = .ok (.iload 7, 2) := by decide +kernel
theorem dL_areSound_363 : decode cL_areSound 363 = .ok (.ifCond .eq 278, 3) := by decide +kernel
theorem dL_areSound_366 : decode cL_areSound 366 = .ok (.iload 4, 2) := by decide +kernel
theorem dL_areSound_368 : decode cL_areSound 368 = .ok (.aload_n 2, 1) := by decide +kernel
theorem dL_areSound_369 : decode cL_areSound 369 = .ok (.iload 8, 2) := by decide +kernel
theorem dL_areSound_371 : decode cL_areSound 371 = .ok (.iaload, 1) := by decide +kernel
theorem dL_areSound_372 : decode cL_areSound 372 = .ok (.irem, 1) := by decide +kernel
theorem dL_areSound_373 : decode cL_areSound 373 = .ok (.istore 9, 2) := by decide +kernel
theorem dL_areSound_375 : decode cL_areSound 375 = .ok (.aload_n 0, 1) := by decide +kernel
theorem dL_areSound_376 : decode cL_areSound 376 = .ok (.iload 8, 2) := by decide +kernel
theorem dL_areSound_378 : decode cL_areSound 378 = .ok (.iload 9, 2) := by decide +kernel
theorem dL_areSound_380 : decode cL_areSound 380 = .ok (.iconst 2, 1) := by decide +kernel
theorem dL_areSound_381 : decode cL_areSound 381 = .ok (.invokevirtual 99, 3) := by decide +kernel
theorem dL_areSound_384 : decode cL_areSound 384 = .ok (.istore 10, 2) := by decide +kernel
theorem dL_areSound_386 : decode cL_areSound 386 = .ok (.aload_n 0, 1) := by decide +kernel
theorem dL_areSound_387 : decode cL_areSound 387 = .ok (.iload 8, 2) := by decide +kernel
theorem dL_areSound_389 : decode cL_areSound 389 = .ok (.iload 9, 2) := by decide +kernel
theorem dL_areSound_391 : decode cL_areSound 391 = .ok (.iload 9, 2) := by decide +kernel
theorem dL_areSound_393 : decode cL_areSound 393 = .ok (.invokevirtual 102, 3) := by decide +kernel
theorem dL_areSound_396 : decode cL_areSound 396 = .ok (.istore 11, 2) := by decide +kernel
theorem dL_areSound_398 : decode cL_areSound 398 = .ok (.iload 4, 2) := by decide +kernel
theorem dL_areSound_400 : decode cL_areSound 400 = .ok (.bipush 7, 2) := by decide +kernel
theorem dL_areSound_402 : decode cL_areSound 402 = .ok (.idiv, 1) := by decide +kernel
theorem dL_areSound_403 : decode cL_areSound 403 = .ok (.sipush 301, 3) := by decide +kernel
theorem dL_areSound_406 : decode cL_areSound 406 = .ok (.irem, 1) := by decide +kernel
theorem dL_areSound_407 : decode cL_areSound 407 = .ok (.istore 12, 2) := by decide +kernel
theorem dL_areSound_409 : decode cL_areSound 409 = .ok (.aload_n 0, 1) := by decide +kernel
theorem dL_areSound_410 : decode cL_areSound 410 = .ok (.iload 8, 2) := by decide +kernel
theorem dL_areSound_412 : decode cL_areSound 412 = .ok (.iload 9, 2) := by decide +kernel
theorem dL_areSound_414 : decode cL_areSound 414 = .ok (.iload 12, 2) := by decide +kernel
theorem dL_areSound_416 : decode cL_areSound 416 = .ok (.invokevirtual 84, 3) := by decide +kernel
theorem dL_areSound_419 : decode cL_areSound 419 = .ok (.istore 13, 2) := by decide +kernel
theorem dL_areSound_421 : decode cL_areSound 421 = .ok (.aload_n 0, 1) := by decide +kernel
theorem dL_areSound_422 : decode cL_areSound 422 = .ok (.iload 8, 2) := by decide +kernel
theorem dL_areSound_424 : decode cL_areSound 424 = .ok (.invokevirtual 105, 3) := by decide +kernel
theorem dL_areSound_427 : decode cL_areSound 427 = .ok (.ifCond .lt 205, 3) := by decide +kernel
theorem dL_areSound_430 : decode cL_areSound 430 = .ok (.iload 10, 2) := by decide +kernel
