theorem dX8_street_132 : decode cX8_street 132 = .ok (.isub, 1) := by decide +kernel
theorem dX8_street_133 : decode cX8_street 133 = .ok (.ireturn, 1) := by decide +kernel
theorem dX8_surface_0 : decode cX8_surface 0 = .ok (.aload_n 0, 1) := by decide +kernel
theorem dX8_surface_1 : decode cX8_surface 1 = .ok (.iload_n 1, 1) := by decide +kernel
theorem dX8_surface_2 : decode cX8_surface 2 = .ok (.invokevirtual 48, 3) := by decide +kernel
theorem dX8_surface_5 : decode cX8_surface 5 = .ok (.astore_n 2, 1) := by decide +kernel
theorem dX8_surface_6 : decode cX8_surface 6 = .ok (.aload_n 2, 1) := by decide +kernel
theorem dX8_surface_7 : decode cX8_surface 7 = .ok (.ifnonnull 13, 3) := by decide +kernel
theorem dX8_surface_10 : decode cX8_surface 10 = .ok (.new 52, 3) := by decide +kernel
theorem dX8_surface_13 : decode cX8_surface 13 = .ok (.dup, 1) := by decide +kernel
theorem dX8_surface_14 : decode cX8_surface 14 = .ok (.ldc 76, 2) := by decide +kernel
theorem dX8_surface_16 : decode cX8_surface 16 = .ok (.invokespecial 56, 3) := by decide +kernel
theorem dX8_surface_19 : decode cX8_surface 19 = .ok (.athrow, 1) := by decide +kernel
theorem dX8_surface_20 : decode cX8_surface 20 = .ok (.aload_n 2, 1) := by decide +kernel
theorem dX8_surface_21 : decode cX8_surface 21 = .ok (.invokevirtual 78, 3) := by decide +kernel
theorem dX8_surface_24 : decode cX8_surface 24 = .ok (.ifCond .eq 13, 3) := by decide +kernel
theorem dX8_surface_27 : decode cX8_surface 27 = .ok (.new 68, 3) := by decide +kernel
theorem dX8_surface_30 : decode cX8_surface 30 = .ok (.dup, 1) := by decide +kernel
theorem dX8_surface_31 : decode cX8_surface 31 = .ok (.ldc 82, 2) := by decide +kernel
theorem dX8_surface_33 : decode cX8_surface 33 = .ok (.invokespecial 72, 3) := by decide +kernel
theorem dX8_surface_36 : decode cX8_surface 36 = .ok (.athrow, 1) := by decide +kernel
theorem dX8_surface_37 : decode cX8_surface 37 = .ok (.aload_n 2, 1) := by decide +kernel
theorem dX8_surface_38 : decode cX8_surface 38 = .ok (.aload_n 0, 1) := by decide +kernel
theorem dX8_surface_39 : decode cX8_surface 39 = .ok (.invokevirtual 84, 3) := by decide +kernel
theorem dX8_surface_42 : decode cX8_surface 42 = .ok (.putfield 88, 3) := by decide +kernel
theorem dX8_surface_45 : decode cX8_surface 45 = .ok (.aload_n 2, 1) := by decide +kernel
theorem dX8_surface_46 : decode cX8_surface 46 = .ok (.aload_n 0, 1) := by decide +kernel
theorem dX8_surface_47 : decode cX8_surface 47 = .ok (.getfield 43, 3) := by decide +kernel
theorem dX8_surface_50 : decode cX8_surface 50 = .ok (.invokevirtual 91, 3) := by decide +kernel
theorem dX8_surface_53 : decode cX8_surface 53 = .ok (.putfield 94, 3) := by decide +kernel
theorem dX8_surface_56 : decode cX8_surface 56 = .ok (.aload_n 0, 1) := by decide +kernel
theorem dX8_surface_57 : decode cX8_surface 57 = .ok (.new 97, 3) := by decide +kernel
theorem dX8_surface_60 : decode cX8_surface 60 = .ok (.dup, 1) := by decide +kernel
theorem dX8_surface_61 : decode cX8_surface 61 = .ok (.aload_n 2, 1) := by decide +kernel
theorem dX8_surface_62 : decode cX8_surface 62 = .ok (.iconst (-1), 1) := by decide +kernel
theorem dX8_surface_63 : decode cX8_surface 63 = .ok (.aconst_null, 1) := by decide +kernel
theorem dX8_surface_64 : decode cX8_surface 64 = .ok (.aload_n 2, 1) := by decide +kernel
theorem dX8_surface_65 : decode cX8_surface 65 = .ok (.getfield 88, 3) := by decide +kernel
theorem dX8_surface_68 : decode cX8_surface 68 = .ok (.invokespecial 99, 3) := by decide +kernel
theorem dX8_surface_71 : decode cX8_surface 71 = .ok (.invokevirtual 102, 3) := by decide +kernel
theorem dX8_surface_74 : decode cX8_surface 74 = .ok (.aload_n 2, 1) := by decide +kernel
theorem dX8_surface_75 : decode cX8_surface 75 = .ok (.getfield 88, 3) := by decide +kernel
theorem dX8_surface_78 : decode cX8_surface 78 = .ok (.bipush 99, 2) := by decide +kernel
theorem dX8_surface_80 : decode cX8_surface 80 = .ok (.iadd, 1) := by decide +kernel
theorem dX8_surface_81 : decode cX8_surface 81 = .ok (.ireturn, 1) := by decide +kernel
theorem dX8_embargo_0 : decode cX8_embargo 0 = .ok (.aload_n 0, 1) := by decide +kernel
theorem dX8_embargo_1 : decode cX8_embargo 1 = .ok (.iload_n 1, 1) := by decide +kernel
theorem dX8_embargo_2 : decode cX8_embargo 2 = .ok (.invokevirtual 48, 3) := by decide +kernel
theorem dX8_embargo_5 : decode cX8_embargo 5 = .ok (.astore 4, 2) := by decide +kernel
theorem dX8_embargo_7 : decode cX8_embargo 7 = .ok (.aload 4, 2) := by decide +kernel
theorem dX8_embargo_9 : decode cX8_embargo 9 = .ok (.ifnonnull 13, 3) := by decide +kernel
theorem dX8_embargo_12 : decode cX8_embargo 12 = .ok (.new 52, 3) := by decide +kernel
theorem dX8_embargo_15 : decode cX8_embargo 15 = .ok (.dup, 1) := by decide +kernel
theorem dX8_embargo_16 : decode cX8_embargo 16 = .ok (.ldc 76, 2) := by decide +kernel
theorem dX8_embargo_18 : decode cX8_embargo 18 = .ok (.invokespecial 56, 3) := by decide +kernel
theorem dX8_embargo_21 : decode cX8_embargo 21 = .ok (.athrow, 1) := by decide +kernel
theorem dX8_embargo_22 : decode cX8_embargo 22 = .ok (.iload_n 2, 1) := by decide +kernel
theorem dX8_embargo_23 : decode cX8_embargo 23 = .ok (.ifCond .lt 22, 3) := by decide +kernel
theorem dX8_embargo_26 : decode cX8_embargo 26 = .ok (.iload_n 2, 1) := by decide +kernel
theorem dX8_embargo_27 : decode cX8_embargo 27 = .ok (.sipush 999, 3) := by decide +kernel
theorem dX8_embargo_30 : decode cX8_embargo 30 = .ok (.if_icmp .gt 15, 3) := by decide +kernel
theorem dX8_embargo_33 : decode cX8_embargo 33 = .ok (.iload_n 3, 1) := by decide +kernel
theorem dX8_embargo_34 : decode cX8_embargo 34 = .ok (.iload_n 2, 1) := by decide +kernel
theorem dX8_embargo_35 : decode cX8_embargo 35 = .ok (.if_icmp .lt 10, 3) := by decide +kernel
theorem dX8_embargo_38 : decode cX8_embargo 38 = .ok (.iload_n 3, 1) := by decide +kernel
theorem dX8_embargo_39 : decode cX8_embargo 39 = .ok (.sipush 999, 3) := by decide +kernel
theorem dX8_embargo_42 : decode cX8_embargo 42 = .ok (.if_icmp .le 13, 3) := by decide +kernel
theorem dX8_embargo_45 : decode cX8_embargo 45 = .ok (.new 59, 3) := by decide +kernel
theorem dX8_embargo_48 : decode cX8_embargo 48 = .ok (.dup, 1) := by decide +kernel
theorem dX8_embargo_49 : decode cX8_embargo 49 = .ok (.ldc 106, 2) := by decide +kernel
theorem dX8_embargo_51 : decode cX8_embargo 51 = .ok (.invokespecial 63, 3) := by decide +kernel
theorem dX8_embargo_54 : decode cX8_embargo 54 = .ok (.athrow, 1) := by decide +kernel
theorem dX8_embargo_55 : decode cX8_embargo 55 = .ok (.aload 4, 2) := by decide +kernel
theorem dX8_embargo_57 : decode cX8_embargo 57 = .ok (.iload_n 2, 1) := by decide +kernel
theorem dX8_embargo_58 : decode cX8_embargo 58 = .ok (.putfield 108, 3) := by decide +kernel
theorem dX8_embargo_61 : decode cX8_embargo 61 = .ok (.aload 4, 2) := by decide +kernel
theorem dX8_embargo_63 : decode cX8_embargo 63 = .ok (.iload_n 3, 1) := by decide +kernel
theorem dX8_embargo_64 : decode cX8_embargo 64 = .ok (.putfield 111, 3) := by decide +kernel
theorem dX8_embargo_67 : decode cX8_embargo 67 = .ok (.iconst 0, 1) := by decide +kernel
theorem dX8_embargo_68 : decode cX8_embargo 68 = .ok (.istore 5, 2) := by decide +kernel
theorem dX8_embargo_70 : decode cX8_embargo 70 = .ok (.iconst 0, 1) := by decide +kernel
theorem dX8_embargo_71 : decode cX8_embargo 71 = .ok (.istore 6, 2) := by decide +kernel
theorem dX8_embargo_73 : decode cX8_embargo 73 = .ok (.iload 6, 2) := by decide +kernel
theorem dX8_embargo_75 : decode cX8_embargo 75 = .ok (.aload_n 0, 1) := by decide +kernel
theorem dX8_embargo_76 : decode cX8_embargo 76 = .ok (.getfield 23, 3) := by decide +kernel
theorem dX8_embargo_79 : decode cX8_embargo 79 = .ok (.arraylength, 1) := by decide +kernel
theorem dX8_embargo_80 : decode cX8_embargo 80 = .ok (.if_icmp .ge 63, 3) := by decide +kernel
theorem dX8_embargo_83 : decode cX8_embargo 83 = .ok (.aload_n 0, 1) := by decide +kernel
theorem dX8_embargo_84 : decode cX8_embargo 84 = .ok (.getfield 23, 3) := by decide +kernel
theorem dX8_embargo_87 : decode cX8_embargo 87 = .ok (.iload 6, 2) := by decide +kernel
theorem dX8_embargo_89 : decode cX8_embargo 89 = .ok (.aaload, 1) := by decide +kernel
theorem dX8_embargo_90 : decode cX8_embargo 90 = .ok (.astore 7, 2) := by decide +kernel
theorem dX8_embargo_92 : decode cX8_embargo 92 = .ok (.aload 7, 2) := by decide +kernel
theorem dX8_embargo_94 : decode cX8_embargo 94 = .ok (.ifnull 43, 3) := by decide +kernel
theorem dX8_embargo_97 : decode cX8_embargo 97 = .ok (.aload 7, 2) := by decide +kernel
theorem dX8_embargo_99 : decode cX8_embargo 99 = .ok (.getfield 114, 3) := by decide +kernel
theorem dX8_embargo_102 : decode cX8_embargo 102 = .ok (.aload 4, 2) := by decide +kernel
theorem dX8_embargo_104 : decode cX8_embargo 104 = .ok (.if_acmp .ne 33, 3) := by decide +kernel
theorem dX8_embargo_107 : decode cX8_embargo 107 = .ok (.aload 7, 2) := by decide +kernel
theorem dX8_embargo_109 : decode cX8_embargo 109 = .ok (.getfield 118, 3) := by decide +kernel
theorem dX8_embargo_112 : decode cX8_embargo 112 = .ok (.iconst 1, 1) := by decide +kernel
theorem dX8_embargo_113 : decode cX8_embargo 113 = .ok (.if_icmp .ne 24, 3) := by decide +kernel
theorem dX8_embargo_116 : decode cX8_embargo 116 = .ok (.aload 4, 2) := by decide +kernel
theorem dX8_embargo_118 : decode cX8_embargo 118 = .ok (.aload 7, 2) := by decide +kernel
theorem dX8_embargo_120 : decode cX8_embargo 120 = .ok (.getfield 121, 3) := by decide +kernel
theorem dX8_embargo_123 : decode cX8_embargo 123 = .ok (.aload 7, 2) := by decide +kernel
theorem dX8_embargo_125 : decode cX8_embargo 125 = .ok (.getfield 124, 3) := by decide +kernel
theorem dX8_embargo_128 : decode cX8_embargo 128 = .ok (.invokevirtual 127, 3) := by decide +kernel
theorem dX8_embargo_131 : decode cX8_embargo 131 = .ok (.ifCond .eq 6, 3) := by decide +kernel
theorem dX8_embargo_134 : decode cX8_embargo 134 = .ok (.iinc 5 1, 3) := by decide +kernel
theorem dX8_embargo_137 : decode cX8_embargo 137 = .ok (.iinc 6 1, 3) := by decide +kernel
theorem dX8_embargo_140 : decode cX8_embargo 140 = .ok (.goto (-67), 3) := by decide +kernel
theorem dX8_embargo_143 : decode cX8_embargo 143 = .ok (.iload 5, 2) := by decide +kernel
theorem dX8_embargo_145 : decode cX8_embargo 145 = .ok (.ireturn, 1) := by decide +kernel
theorem dX8_thing_0 : decode cX8_thing 0 = .ok (.aload_n 0, 1) := by decide +kernel
theorem dX8_thing_1 : decode cX8_thing 1 = .ok (.iload_n 2, 1) := by decide +kernel
theorem dX8_thing_2 : decode cX8_thing 2 = .ok (.invokevirtual 48, 3) := by decide +kernel
theorem dX8_thing_5 : decode cX8_thing 5 = .ok (.astore 6, 2) := by decide +kernel
theorem dX8_thing_7 : decode cX8_thing 7 = .ok (.iload_n 1, 1) := by decide +kernel
theorem dX8_thing_8 : decode cX8_thing 8 = .ok (.invokestatic 131, 3) := by decide +kernel
theorem dX8_thing_11 : decode cX8_thing 11 = .ok (.ifCond .eq 27, 3) := by decide +kernel
theorem dX8_thing_14 : decode cX8_thing 14 = .ok (.aload 6, 2) := by decide +kernel
theorem dX8_thing_16 : decode cX8_thing 16 = .ok (.ifnull 22, 3) := by decide +kernel
theorem dX8_thing_19 : decode cX8_thing 19 = .ok (.aload 6, 2) := by decide +kernel
theorem dX8_thing_21 : decode cX8_thing 21 = .ok (.iload_n 3, 1) := by decide +kernel
theorem dX8_thing_22 : decode cX8_thing 22 = .ok (.invokevirtual 135, 3) := by decide +kernel
theorem dX8_thing_25 : decode cX8_thing 25 = .ok (.ifnull 13, 3) := by decide +kernel
theorem dX8_thing_28 : decode cX8_thing 28 = .ok (.aload 6, 2) := by decide +kernel
theorem dX8_thing_30 : decode cX8_thing 30 = .ok (.iload 4, 2) := by decide +kernel
theorem dX8_thing_32 : decode cX8_thing 32 = .ok (.invokevirtual 135, 3) := by decide +kernel
theorem dX8_thing_35 : decode cX8_thing 35 = .ok (.ifnonnull 13, 3) := by decide +kernel
theorem dX8_thing_38 : decode cX8_thing 38 = .ok (.new 52, 3) := by decide +kernel
theorem dX8_thing_41 : decode cX8_thing 41 = .ok (.dup, 1) := by decide +kernel
theorem dX8_thing_42 : decode cX8_thing 42 = .ok (.ldc 139, 2) := by decide +kernel
theorem dX8_thing_44 : decode cX8_thing 44 = .ok (.invokespecial 56, 3) := by decide +kernel
theorem dX8_thing_47 : decode cX8_thing 47 = .ok (.athrow, 1) := by decide +kernel
theorem dX8_thing_48 : decode cX8_thing 48 = .ok (.iload 4, 2) := by decide +kernel
theorem dX8_thing_50 : decode cX8_thing 50 = .ok (.iload_n 3, 1) := by decide +kernel
theorem dX8_thing_51 : decode cX8_thing 51 = .ok (.if_icmp .lt 18, 3) := by decide +kernel
theorem dX8_thing_54 : decode cX8_thing 54 = .ok (.iload 5, 2) := by decide +kernel
theorem dX8_thing_56 : decode cX8_thing 56 = .ok (.bipush 10, 2) := by decide +kernel
theorem dX8_thing_58 : decode cX8_thing 58 = .ok (.if_icmp .lt 11, 3) := by decide +kernel
theorem dX8_thing_61 : decode cX8_thing 61 = .ok (.iload 5, 2) := by decide +kernel
theorem dX8_thing_63 : decode cX8_thing 63 = .ok (.sipush 300, 3) := by decide +kernel
theorem dX8_thing_66 : decode cX8_thing 66 = .ok (.if_icmp .le 13, 3) := by decide +kernel
theorem dX8_thing_69 : decode cX8_thing 69 = .ok (.new 59, 3) := by decide +kernel
theorem dX8_thing_72 : decode cX8_thing 72 = .ok (.dup, 1) := by decide +kernel
theorem dX8_thing_73 : decode cX8_thing 73 = .ok (.ldc 141, 2) := by decide +kernel
theorem dX8_thing_75 : decode cX8_thing 75 = .ok (.invokespecial 63, 3) := by decide +kernel
theorem dX8_thing_78 : decode cX8_thing 78 = .ok (.athrow, 1) := by decide +kernel
theorem dX8_thing_79 : decode cX8_thing 79 = .ok (.aload_n 0, 1) := by decide +kernel
theorem dX8_thing_80 : decode cX8_thing 80 = .ok (.getfield 143, 3) := by decide +kernel
theorem dX8_thing_83 : decode cX8_thing 83 = .ok (.aload_n 0, 1) := by decide +kernel
theorem dX8_thing_84 : decode cX8_thing 84 = .ok (.getfield 17, 3) := by decide +kernel
theorem dX8_thing_87 : decode cX8_thing 87 = .ok (.arraylength, 1) := by decide +kernel
theorem dX8_thing_88 : decode cX8_thing 88 = .ok (.if_icmp .lt 13, 3) := by decide +kernel
theorem dX8_thing_91 : decode cX8_thing 91 = .ok (.new 68, 3) := by decide +kernel
theorem dX8_thing_94 : decode cX8_thing 94 = .ok (.dup, 1) := by decide +kernel
theorem dX8_thing_95 : decode cX8_thing 95 = .ok (.ldc 146, 2) := by decide +kernel
theorem dX8_thing_97 : decode cX8_thing 97 = .ok (.invokespecial 72, 3) := by decide +kernel
theorem dX8_thing_100 : decode cX8_thing 100 = .ok (.athrow, 1) := by decide +kernel
theorem dX8_thing_101 : decode cX8_thing 101 = .ok (.aload_n 0, 1) := by decide +kernel
theorem dX8_thing_102 : decode cX8_thing 102 = .ok (.getfield 17, 3) := by decide +kernel
theorem dX8_thing_105 : decode cX8_thing 105 = .ok (.aload_n 0, 1) := by decide +kernel
theorem dX8_thing_106 : decode cX8_thing 106 = .ok (.getfield 143, 3) := by decide +kernel
theorem dX8_thing_109 : decode cX8_thing 109 = .ok (.new 15, 3) := by decide +kernel
theorem dX8_thing_112 : decode cX8_thing 112 = .ok (.dup, 1) := by decide +kernel
theorem dX8_thing_113 : decode cX8_thing 113 = .ok (.iload_n 1, 1) := by decide +kernel
theorem dX8_thing_114 : decode cX8_thing 114 = .ok (.aload 6, 2) := by decide +kernel
theorem dX8_thing_116 : decode cX8_thing 116 = .ok (.iload_n 3, 1) := by decide +kernel
theorem dX8_thing_117 : decode cX8_thing 117 = .ok (.iload 4, 2) := by decide +kernel
theorem dX8_thing_119 : decode cX8_thing 119 = .ok (.iload 5, 2) := by decide +kernel
theorem dX8_thing_121 : decode cX8_thing 121 = .ok (.invokespecial 148, 3) := by decide +kernel
theorem dX8_thing_124 : decode cX8_thing 124 = .ok (.aastore, 1) := by decide +kernel
theorem dX8_thing_125 : decode cX8_thing 125 = .ok (.aload_n 0, 1) := by decide +kernel
theorem dX8_thing_126 : decode cX8_thing 126 = .ok (.dup, 1) := by decide +kernel
theorem dX8_thing_127 : decode cX8_thing 127 = .ok (.getfield 143, 3) := by decide +kernel
theorem dX8_thing_130 : decode cX8_thing 130 = .ok (.iconst 1, 1) := by decide +kernel
theorem dX8_thing_131 : decode cX8_thing 131 = .ok (.iadd, 1) := by decide +kernel
theorem dX8_thing_132 : decode cX8_thing 132 = .ok (.putfield 143, 3) := by decide +kernel
theorem dX8_thing_135 : decode cX8_thing 135 = .ok (.iload_n 3, 1) := by decide +kernel
theorem dX8_thing_136 : decode cX8_thing 136 = .ok (.istore 7, 2) := by decide +kernel
theorem dX8_thing_138 : decode cX8_thing 138 = .ok (.iload 7, 2) := by decide +kernel
theorem dX8_thing_140 : decode cX8_thing 140 = .ok (.iload 4, 2) := by decide +kernel
theorem dX8_thing_142 : decode cX8_thing 142 = .ok (.if_icmp .gt 29, 3) := by decide +kernel
theorem dX8_thing_145 : decode cX8_thing 145 = .ok (.aload 6, 2) := by decide +kernel
theorem dX8_thing_147 : decode cX8_thing 147 = .ok (.iload 7, 2) := by decide +kernel
theorem dX8_thing_149 : decode cX8_thing 149 = .ok (.invokevirtual 135, 3) := by decide +kernel
theorem dX8_thing_152 : decode cX8_thing 152 = .ok (.astore 8, 2) := by decide +kernel
theorem dX8_thing_154 : decode cX8_thing 154 = .ok (.aload 8, 2) := by decide +kernel
theorem dX8_thing_156 : decode cX8_thing 156 = .ok (.ifnull 9, 3) := by decide +kernel
theorem dX8_thing_159 : decode cX8_thing 159 = .ok (.aload 8, 2) := by decide +kernel
theorem dX8_thing_161 : decode cX8_thing 161 = .ok (.iconst 0, 1) := by decide +kernel
theorem dX8_thing_162 : decode cX8_thing 162 = .ok (.putfield 151, 3) := by decide +kernel
theorem dX8_thing_165 : decode cX8_thing 165 = .ok (.iinc 7 1, 3) := by decide +kernel
theorem dX8_thing_168 : decode cX8_thing 168 = .ok (.goto (-30), 3) := by decide +kernel
theorem dX8_thing_171 : decode cX8_thing 171 = .ok (.aload_n 0, 1) := by decide +kernel
theorem dX8_thing_172 : decode cX8_thing 172 = .ok (.getfield 143, 3) := by decide +kernel
theorem dX8_thing_175 : decode cX8_thing 175 = .ok (.iconst 1, 1) := by decide +kernel
theorem dX8_thing_176 : decode cX8_thing 176 = .ok (.isub, 1) := by decide +kernel
theorem dX8_thing_177 : decode cX8_thing 177 = .ok (.ireturn, 1) := by decide +kernel
theorem dX8_record_0 : decode cX8_record 0 = .ok (.aload_n 0, 1) := by decide +kernel
theorem dX8_record_1 : decode cX8_record 1 = .ok (.iload_n 1, 1) := by decide +kernel
theorem dX8_record_2 : decode cX8_record 2 = .ok (.invokevirtual 157, 3) := by decide +kernel
theorem dX8_record_5 : decode cX8_record 5 = .ok (.astore 5, 2) := by decide +kernel
theorem dX8_record_7 : decode cX8_record 7 = .ok (.aload 5, 2) := by decide +kernel
theorem dX8_record_9 : decode cX8_record 9 = .ok (.ifnull 27, 3) := by decide +kernel
theorem dX8_record_12 : decode cX8_record 12 = .ok (.aload 5, 2) := by decide +kernel
theorem dX8_record_14 : decode cX8_record 14 = .ok (.getfield 161, 3) := by decide +kernel
theorem dX8_record_17 : decode cX8_record 17 = .ok (.iload_n 2, 1) := by decide +kernel
theorem dX8_record_18 : decode cX8_record 18 = .ok (.invokevirtual 135, 3) := by decide +kernel
theorem dX8_record_21 : decode cX8_record 21 = .ok (.ifnull 15, 3) := by decide +kernel
theorem dX8_record_24 : decode cX8_record 24 = .ok (.aload 5, 2) := by decide +kernel
theorem dX8_record_26 : decode cX8_record 26 = .ok (.getfield 161, 3) := by decide +kernel
theorem dX8_record_29 : decode cX8_record 29 = .ok (.iload_n 3, 1) := by decide +kernel
theorem dX8_record_30 : decode cX8_record 30 = .ok (.invokevirtual 135, 3) := by decide +kernel
theorem dX8_record_33 : decode cX8_record 33 = .ok (.ifnonnull 13, 3) := by decide +kernel
theorem dX8_record_36 : decode cX8_record 36 = .ok (.new 52, 3) := by decide +kernel
theorem dX8_record_39 : decode cX8_record 39 = .ok (.dup, 1) := by decide +kernel
theorem dX8_record_40 : decode cX8_record 40 = .ok (.ldc 162, 2) := by decide +kernel
theorem dX8_record_42 : decode cX8_record 42 = .ok (.invokespecial 56, 3) := by decide +kernel
theorem dX8_record_45 : decode cX8_record 45 = .ok (.athrow, 1) := by decide +kernel
theorem dX8_record_46 : decode cX8_record 46 = .ok (.iload_n 3, 1) := by decide +kernel
theorem dX8_record_47 : decode cX8_record 47 = .ok (.iload_n 2, 1) := by decide +kernel
theorem dX8_record_48 : decode cX8_record 48 = .ok (.if_icmp .lt 14, 3) := by decide +kernel
theorem dX8_record_51 : decode cX8_record 51 = .ok (.iload 4, 2) := by decide +kernel
theorem dX8_record_53 : decode cX8_record 53 = .ok (.ifCond .lt 9, 3) := by decide +kernel
theorem dX8_record_56 : decode cX8_record 56 = .ok (.iload 4, 2) := by decide +kernel
theorem dX8_record_58 : decode cX8_record 58 = .ok (.iconst 3, 1) := by decide +kernel
theorem dX8_record_59 : decode cX8_record 59 = .ok (.if_icmp .le 13, 3) := by decide +kernel
theorem dX8_record_62 : decode cX8_record 62 = .ok (.new 59, 3) := by decide +kernel
theorem dX8_record_65 : decode cX8_record 65 = .ok (.dup, 1) := by decide +kernel
theorem dX8_record_66 : decode cX8_record 66 = .ok (.ldc 164, 2) := by decide +kernel
theorem dX8_record_68 : decode cX8_record 68 = .ok (.invokespecial 63, 3) := by decide +kernel
theorem dX8_record_71 : decode cX8_record 71 = .ok (.athrow, 1) := by decide +kernel
theorem dX8_record_72 : decode cX8_record 72 = .ok (.aload 5, 2) := by decide +kernel
theorem dX8_record_74 : decode cX8_record 74 = .ok (.iload_n 2, 1) := by decide +kernel
theorem dX8_record_75 : decode cX8_record 75 = .ok (.iload_n 3, 1) := by decide +kernel
theorem dX8_record_76 : decode cX8_record 76 = .ok (.iload 4, 2) := by decide +kernel
theorem dX8_record_78 : decode cX8_record 78 = .ok (.invokevirtual 166, 3) := by decide +kernel
theorem dX8_record_81 : decode cX8_record 81 = .ok (.aload 5, 2) := by decide +kernel
theorem dX8_record_83 : decode cX8_record 83 = .ok (.invokevirtual 170, 3) := by decide +kernel
theorem dX8_record_86 : decode cX8_record 86 = .ok (.ireturn, 1) := by decide +kernel
theorem dX8_lose_0 : decode cX8_lose 0 = .ok (.aload_n 0, 1) := by decide +kernel
theorem dX8_lose_1 : decode cX8_lose 1 = .ok (.iload_n 1, 1) := by decide +kernel
theorem dX8_lose_2 : decode cX8_lose 2 = .ok (.invokevirtual 157, 3) := by decide +kernel
theorem dX8_lose_5 : decode cX8_lose 5 = .ok (.astore_n 2, 1) := by decide +kernel
theorem dX8_lose_6 : decode cX8_lose 6 = .ok (.aload_n 2, 1) := by decide +kernel
theorem dX8_lose_7 : decode cX8_lose 7 = .ok (.ifnonnull 13, 3) := by decide +kernel
theorem dX8_lose_10 : decode cX8_lose 10 = .ok (.new 52, 3) := by decide +kernel
theorem dX8_lose_13 : decode cX8_lose 13 = .ok (.dup, 1) := by decide +kernel
theorem dX8_lose_14 : decode cX8_lose 14 = .ok (.ldc 173, 2) := by decide +kernel
theorem dX8_lose_16 : decode cX8_lose 16 = .ok (.invokespecial 56, 3) := by decide +kernel
theorem dX8_lose_19 : decode cX8_lose 19 = .ok (.athrow, 1) := by decide +kernel
theorem dX8_lose_20 : decode cX8_lose 20 = .ok (.aload_n 2, 1) := by decide +kernel
theorem dX8_lose_21 : decode cX8_lose 21 = .ok (.getfield 175, 3) := by decide +kernel
theorem dX8_lose_24 : decode cX8_lose 24 = .ok (.istore_n 3, 1) := by decide +kernel
theorem dX8_lose_25 : decode cX8_lose 25 = .ok (.aload_n 2, 1) := by decide +kernel
theorem dX8_lose_26 : decode cX8_lose 26 = .ok (.iconst 0, 1) := by decide +kernel
theorem dX8_lose_27 : decode cX8_lose 27 = .ok (.putfield 175, 3) := by decide +kernel
theorem dX8_lose_30 : decode cX8_lose 30 = .ok (.iload_n 3, 1) := by decide +kernel
theorem dX8_lose_31 : decode cX8_lose 31 = .ok (.ireturn, 1) := by decide +kernel
theorem dX8_survey_0 : decode cX8_survey 0 = .ok (.aload_n 0, 1) := by decide +kernel
theorem dX8_survey_1 : decode cX8_survey 1 = .ok (.iload_n 1, 1) := by decide +kernel
theorem dX8_survey_2 : decode cX8_survey 2 = .ok (.invokevirtual 157, 3) := by decide +kernel
theorem dX8_survey_5 : decode cX8_survey 5 = .ok (.astore_n 2, 1) := by decide +kernel
theorem dX8_survey_6 : decode cX8_survey 6 = .ok (.aload_n 2, 1) := by decide +kernel
theorem dX8_survey_7 : decode cX8_survey 7 = .ok (.ifnonnull 13, 3) := by decide +kernel
theorem dX8_survey_10 : decode cX8_survey 10 = .ok (.new 52, 3) := by decide +kernel
theorem dX8_survey_13 : decode cX8_survey 13 = .ok (.dup, 1) := by decide +kernel
theorem dX8_survey_14 : decode cX8_survey 14 = .ok (.ldc 173, 2) := by decide +kernel
theorem dX8_survey_16 : decode cX8_survey 16 = .ok (.invokespecial 56, 3) := by decide +kernel
theorem dX8_survey_19 : decode cX8_survey 19 = .ok (.athrow, 1) := by decide +kernel
theorem dX8_survey_20 : decode cX8_survey 20 = .ok (.aload_n 2, 1) := by decide +kernel
theorem dX8_survey_21 : decode cX8_survey 21 = .ok (.invokevirtual 178, 3) := by decide +kernel
theorem dX8_survey_24 : decode cX8_survey 24 = .ok (.ifCond .ne 13, 3) := by decide +kernel
theorem dX8_survey_27 : decode cX8_survey 27 = .ok (.new 68, 3) := by decide +kernel
theorem dX8_survey_30 : decode cX8_survey 30 = .ok (.dup, 1) := by decide +kernel
theorem dX8_survey_31 : decode cX8_survey 31 = .ok (.ldc 181, 2) := by decide +kernel
theorem dX8_survey_33 : decode cX8_survey 33 = .ok (.invokespecial 72, 3) := by decide +kernel
theorem dX8_survey_36 : decode cX8_survey 36 = .ok (.athrow, 1) := by decide +kernel
theorem dX8_survey_37 : decode cX8_survey 37 = .ok (.aload_n 2, 1) := by decide +kernel
theorem dX8_survey_38 : decode cX8_survey 38 = .ok (.invokevirtual 170, 3) := by decide +kernel
