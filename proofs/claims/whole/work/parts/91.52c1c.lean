theorem dX8_chargeTakers_29 : decode cX8_chargeTakers 29 = .ok (.bipush 50, 2) := by decide +kernel
theorem dX8_chargeTakers_31 : decode cX8_chargeTakers 31 = .ok (.aload_n 2, 1) := by decide +kernel
theorem dX8_chargeTakers_32 : decode cX8_chargeTakers 32 = .ok (.getfield 114, 3) := by decide +kernel
theorem dX8_chargeTakers_35 : decode cX8_chargeTakers 35 = .ok (.invokevirtual 502, 3) := by decide +kernel
theorem dX8_chargeTakers_38 : decode cX8_chargeTakers 38 = .ok (.imul, 1) := by decide +kernel
theorem dX8_chargeTakers_39 : decode cX8_chargeTakers 39 = .ok (.istore_n 3, 1) := by decide +kernel
theorem dX8_chargeTakers_40 : decode cX8_chargeTakers 40 = .ok (.aload_n 2, 1) := by decide +kernel
theorem dX8_chargeTakers_41 : decode cX8_chargeTakers 41 = .ok (.getfield 114, 3) := by decide +kernel
theorem dX8_chargeTakers_44 : decode cX8_chargeTakers 44 = .ok (.getfield 505, 3) := by decide +kernel
theorem dX8_chargeTakers_47 : decode cX8_chargeTakers 47 = .ok (.aload_n 2, 1) := by decide +kernel
theorem dX8_chargeTakers_48 : decode cX8_chargeTakers 48 = .ok (.getfield 260, 3) := by decide +kernel
theorem dX8_chargeTakers_51 : decode cX8_chargeTakers 51 = .ok (.iand, 1) := by decide +kernel
theorem dX8_chargeTakers_52 : decode cX8_chargeTakers 52 = .ok (.ifCond .eq 7, 3) := by decide +kernel
theorem dX8_chargeTakers_55 : decode cX8_chargeTakers 55 = .ok (.iconst 1, 1) := by decide +kernel
theorem dX8_chargeTakers_56 : decode cX8_chargeTakers 56 = .ok (.goto 4, 3) := by decide +kernel
theorem dX8_chargeTakers_59 : decode cX8_chargeTakers 59 = .ok (.iconst 0, 1) := by decide +kernel
theorem dX8_chargeTakers_60 : decode cX8_chargeTakers 60 = .ok (.istore 4, 2) := by decide +kernel
theorem dX8_chargeTakers_62 : decode cX8_chargeTakers 62 = .ok (.aload_n 0, 1) := by decide +kernel
theorem dX8_chargeTakers_63 : decode cX8_chargeTakers 63 = .ok (.aload_n 2, 1) := by decide +kernel
theorem dX8_chargeTakers_64 : decode cX8_chargeTakers 64 = .ok (.getfield 319, 3) := by decide +kernel
theorem dX8_chargeTakers_67 : decode cX8_chargeTakers 67 = .ok (.iconst 5, 1) := by decide +kernel
theorem dX8_chargeTakers_68 : decode cX8_chargeTakers 68 = .ok (.iload 4, 2) := by decide +kernel
theorem dX8_chargeTakers_70 : decode cX8_chargeTakers 70 = .ok (.ifCond .eq 9, 3) := by decide +kernel
theorem dX8_chargeTakers_73 : decode cX8_chargeTakers 73 = .ok (.iload_n 3, 1) := by decide +kernel
theorem dX8_chargeTakers_74 : decode cX8_chargeTakers 74 = .ok (.iconst 2, 1) := by decide +kernel
theorem dX8_chargeTakers_75 : decode cX8_chargeTakers 75 = .ok (.idiv, 1) := by decide +kernel
theorem dX8_chargeTakers_76 : decode cX8_chargeTakers 76 = .ok (.goto 4, 3) := by decide +kernel
theorem dX8_chargeTakers_79 : decode cX8_chargeTakers 79 = .ok (.iload_n 3, 1) := by decide +kernel
theorem dX8_chargeTakers_80 : decode cX8_chargeTakers 80 = .ok (.invokevirtual 366, 3) := by decide +kernel
theorem dX8_chargeTakers_83 : decode cX8_chargeTakers 83 = .ok (.aload_n 2, 1) := by decide +kernel
theorem dX8_chargeTakers_84 : decode cX8_chargeTakers 84 = .ok (.iconst 2, 1) := by decide +kernel
theorem dX8_chargeTakers_85 : decode cX8_chargeTakers 85 = .ok (.invokevirtual 280, 3) := by decide +kernel
theorem dX8_chargeTakers_88 : decode cX8_chargeTakers 88 = .ok (.ifCond .eq 15, 3) := by decide +kernel
theorem dX8_chargeTakers_91 : decode cX8_chargeTakers 91 = .ok (.aload_n 0, 1) := by decide +kernel
theorem dX8_chargeTakers_92 : decode cX8_chargeTakers 92 = .ok (.aload_n 2, 1) := by decide +kernel
theorem dX8_chargeTakers_93 : decode cX8_chargeTakers 93 = .ok (.getfield 319, 3) := by decide +kernel
theorem dX8_chargeTakers_96 : decode cX8_chargeTakers 96 = .ok (.iconst 5, 1) := by decide +kernel
theorem dX8_chargeTakers_97 : decode cX8_chargeTakers 97 = .ok (.sipush 200, 3) := by decide +kernel
theorem dX8_chargeTakers_100 : decode cX8_chargeTakers 100 = .ok (.invokevirtual 366, 3) := by decide +kernel
theorem dX8_chargeTakers_103 : decode cX8_chargeTakers 103 = .ok (.iinc 1 1, 3) := by decide +kernel
theorem dX8_chargeTakers_106 : decode cX8_chargeTakers 106 = .ok (.goto (-104), 3) := by decide +kernel
theorem dX8_chargeTakers_109 : decode cX8_chargeTakers 109 = .ok (.return_, 1) := by decide +kernel
theorem dX8_moveQueues_0 : decode cX8_moveQueues 0 = .ok (.iconst 0, 1) := by decide +kernel
theorem dX8_moveQueues_1 : decode cX8_moveQueues 1 = .ok (.istore_n 1, 1) := by decide +kernel
theorem dX8_moveQueues_2 : decode cX8_moveQueues 2 = .ok (.iload_n 1, 1) := by decide +kernel
theorem dX8_moveQueues_3 : decode cX8_moveQueues 3 = .ok (.aload_n 0, 1) := by decide +kernel
theorem dX8_moveQueues_4 : decode cX8_moveQueues 4 = .ok (.getfield 11, 3) := by decide +kernel
theorem dX8_moveQueues_7 : decode cX8_moveQueues 7 = .ok (.arraylength, 1) := by decide +kernel
theorem dX8_moveQueues_8 : decode cX8_moveQueues 8 = .ok (.if_icmp .ge 24, 3) := by decide +kernel
theorem dX8_moveQueues_11 : decode cX8_moveQueues 11 = .ok (.aload_n 0, 1) := by decide +kernel
theorem dX8_moveQueues_12 : decode cX8_moveQueues 12 = .ok (.getfield 11, 3) := by decide +kernel
theorem dX8_moveQueues_15 : decode cX8_moveQueues 15 = .ok (.iload_n 1, 1) := by decide +kernel
theorem dX8_moveQueues_16 : decode cX8_moveQueues 16 = .ok (.aaload, 1) := by decide +kernel
theorem dX8_moveQueues_17 : decode cX8_moveQueues 17 = .ok (.astore_n 2, 1) := by decide +kernel
theorem dX8_moveQueues_18 : decode cX8_moveQueues 18 = .ok (.aload_n 2, 1) := by decide +kernel
theorem dX8_moveQueues_19 : decode cX8_moveQueues 19 = .ok (.ifnull 7, 3) := by decide +kernel
theorem dX8_moveQueues_22 : decode cX8_moveQueues 22 = .ok (.aload_n 2, 1) := by decide +kernel
theorem dX8_moveQueues_23 : decode cX8_moveQueues 23 = .ok (.invokevirtual 511, 3) := by decide +kernel
theorem dX8_moveQueues_26 : decode cX8_moveQueues 26 = .ok (.iinc 1 1, 3) := by decide +kernel
theorem dX8_moveQueues_29 : decode cX8_moveQueues 29 = .ok (.goto (-27), 3) := by decide +kernel
theorem dX8_moveQueues_32 : decode cX8_moveQueues 32 = .ok (.iconst 0, 1) := by decide +kernel
theorem dX8_moveQueues_33 : decode cX8_moveQueues 33 = .ok (.istore_n 1, 1) := by decide +kernel
theorem dX8_moveQueues_34 : decode cX8_moveQueues 34 = .ok (.iload_n 1, 1) := by decide +kernel
theorem dX8_moveQueues_35 : decode cX8_moveQueues 35 = .ok (.aload_n 0, 1) := by decide +kernel
theorem dX8_moveQueues_36 : decode cX8_moveQueues 36 = .ok (.getfield 11, 3) := by decide +kernel
theorem dX8_moveQueues_39 : decode cX8_moveQueues 39 = .ok (.arraylength, 1) := by decide +kernel
theorem dX8_moveQueues_40 : decode cX8_moveQueues 40 = .ok (.if_icmp .ge 24, 3) := by decide +kernel
theorem dX8_moveQueues_43 : decode cX8_moveQueues 43 = .ok (.aload_n 0, 1) := by decide +kernel
theorem dX8_moveQueues_44 : decode cX8_moveQueues 44 = .ok (.getfield 11, 3) := by decide +kernel
theorem dX8_moveQueues_47 : decode cX8_moveQueues 47 = .ok (.iload_n 1, 1) := by decide +kernel
theorem dX8_moveQueues_48 : decode cX8_moveQueues 48 = .ok (.aaload, 1) := by decide +kernel
theorem dX8_moveQueues_49 : decode cX8_moveQueues 49 = .ok (.astore_n 2, 1) := by decide +kernel
theorem dX8_moveQueues_50 : decode cX8_moveQueues 50 = .ok (.aload_n 2, 1) := by decide +kernel
theorem dX8_moveQueues_51 : decode cX8_moveQueues 51 = .ok (.ifnull 7, 3) := by decide +kernel
theorem dX8_moveQueues_54 : decode cX8_moveQueues 54 = .ok (.aload_n 2, 1) := by decide +kernel
theorem dX8_moveQueues_55 : decode cX8_moveQueues 55 = .ok (.invokevirtual 514, 3) := by decide +kernel
theorem dX8_moveQueues_58 : decode cX8_moveQueues 58 = .ok (.iinc 1 1, 3) := by decide +kernel
theorem dX8_moveQueues_61 : decode cX8_moveQueues 61 = .ok (.goto (-27), 3) := by decide +kernel
theorem dX8_moveQueues_64 : decode cX8_moveQueues 64 = .ok (.return_, 1) := by decide +kernel
theorem dX8_whoIsLiable_0 : decode cX8_whoIsLiable 0 = .ok (.aload_n 2, 1) := by decide +kernel
theorem dX8_whoIsLiable_1 : decode cX8_whoIsLiable 1 = .ok (.iload_n 3, 1) := by decide +kernel
theorem dX8_whoIsLiable_2 : decode cX8_whoIsLiable 2 = .ok (.invokevirtual 517, 3) := by decide +kernel
theorem dX8_whoIsLiable_5 : decode cX8_whoIsLiable 5 = .ok (.astore 4, 2) := by decide +kernel
theorem dX8_whoIsLiable_7 : decode cX8_whoIsLiable 7 = .ok (.aload 4, 2) := by decide +kernel
theorem dX8_whoIsLiable_9 : decode cX8_whoIsLiable 9 = .ok (.ifnull 24, 3) := by decide +kernel
theorem dX8_whoIsLiable_12 : decode cX8_whoIsLiable 12 = .ok (.aload_n 0, 1) := by decide +kernel
theorem dX8_whoIsLiable_13 : decode cX8_whoIsLiable 13 = .ok (.invokevirtual 84, 3) := by decide +kernel
theorem dX8_whoIsLiable_16 : decode cX8_whoIsLiable 16 = .ok (.aload 4, 2) := by decide +kernel
theorem dX8_whoIsLiable_18 : decode cX8_whoIsLiable 18 = .ok (.getfield 521, 3) := by decide +kernel
theorem dX8_whoIsLiable_21 : decode cX8_whoIsLiable 21 = .ok (.isub, 1) := by decide +kernel
theorem dX8_whoIsLiable_22 : decode cX8_whoIsLiable 22 = .ok (.aload 4, 2) := by decide +kernel
theorem dX8_whoIsLiable_24 : decode cX8_whoIsLiable 24 = .ok (.getfield 377, 3) := by decide +kernel
theorem dX8_whoIsLiable_27 : decode cX8_whoIsLiable 27 = .ok (.invokevirtual 408, 3) := by decide +kernel
theorem dX8_whoIsLiable_30 : decode cX8_whoIsLiable 30 = .ok (.if_icmp .le 5, 3) := by decide +kernel
theorem dX8_whoIsLiable_33 : decode cX8_whoIsLiable 33 = .ok (.aconst_null, 1) := by decide +kernel
theorem dX8_whoIsLiable_34 : decode cX8_whoIsLiable 34 = .ok (.areturn, 1) := by decide +kernel
theorem dX8_whoIsLiable_35 : decode cX8_whoIsLiable 35 = .ok (.iload_n 3, 1) := by decide +kernel
theorem dX8_whoIsLiable_36 : decode cX8_whoIsLiable 36 = .ok (.bipush 10, 2) := by decide +kernel
theorem dX8_whoIsLiable_38 : decode cX8_whoIsLiable 38 = .ok (.if_icmp .ge 17, 3) := by decide +kernel
theorem dX8_whoIsLiable_41 : decode cX8_whoIsLiable 41 = .ok (.aload_n 1, 1) := by decide +kernel
theorem dX8_whoIsLiable_42 : decode cX8_whoIsLiable 42 = .ok (.getfield 94, 3) := by decide +kernel
theorem dX8_whoIsLiable_45 : decode cX8_whoIsLiable 45 = .ok (.aload 4, 2) := by decide +kernel
theorem dX8_whoIsLiable_47 : decode cX8_whoIsLiable 47 = .ok (.getfield 522, 3) := by decide +kernel
theorem dX8_whoIsLiable_50 : decode cX8_whoIsLiable 50 = .ok (.if_icmp .le 5, 3) := by decide +kernel
theorem dX8_whoIsLiable_53 : decode cX8_whoIsLiable 53 = .ok (.aconst_null, 1) := by decide +kernel
theorem dX8_whoIsLiable_54 : decode cX8_whoIsLiable 54 = .ok (.areturn, 1) := by decide +kernel
theorem dX8_whoIsLiable_55 : decode cX8_whoIsLiable 55 = .ok (.aload 4, 2) := by decide +kernel
theorem dX8_whoIsLiable_57 : decode cX8_whoIsLiable 57 = .ok (.getfield 377, 3) := by decide +kernel
theorem dX8_whoIsLiable_60 : decode cX8_whoIsLiable 60 = .ok (.areturn, 1) := by decide +kernel
theorem dX9_init_0 : decode cX9_init 0 = .ok (.aload_n 0, 1) := by decide +kernel
theorem dX9_init_1 : decode cX9_init 1 = .ok (.invokespecial 1, 3) := by decide +kernel
theorem dX9_init_4 : decode cX9_init 4 = .ok (.aload_n 0, 1) := by decide +kernel
theorem dX9_init_5 : decode cX9_init 5 = .ok (.bipush 6, 2) := by decide +kernel
theorem dX9_init_7 : decode cX9_init 7 = .ok (.newarray .int, 2) := by decide +kernel
theorem dX9_init_9 : decode cX9_init 9 = .ok (.putfield 7, 3) := by decide +kernel
theorem dX9_init_12 : decode cX9_init 12 = .ok (.aload_n 0, 1) := by decide +kernel
theorem dX9_init_13 : decode cX9_init 13 = .ok (.bipush 6, 2) := by decide +kernel
theorem dX9_init_15 : decode cX9_init 15 = .ok (.newarray .int, 2) := by decide +kernel
theorem dX9_init_17 : decode cX9_init 17 = .ok (.putfield 13, 3) := by decide +kernel
theorem dX9_init_20 : decode cX9_init 20 = .ok (.aload_n 0, 1) := by decide +kernel
theorem dX9_init_21 : decode cX9_init 21 = .ok (.bipush 6, 2) := by decide +kernel
theorem dX9_init_23 : decode cX9_init 23 = .ok (.newarray .int, 2) := by decide +kernel
theorem dX9_init_25 : decode cX9_init 25 = .ok (.putfield 16, 3) := by decide +kernel
theorem dX9_init_28 : decode cX9_init 28 = .ok (.aload_n 0, 1) := by decide +kernel
theorem dX9_init_29 : decode cX9_init 29 = .ok (.bipush 6, 2) := by decide +kernel
theorem dX9_init_31 : decode cX9_init 31 = .ok (.newarray .int, 2) := by decide +kernel
theorem dX9_init_33 : decode cX9_init 33 = .ok (.putfield 19, 3) := by decide +kernel
theorem dX9_init_36 : decode cX9_init 36 = .ok (.aload_n 0, 1) := by decide +kernel
theorem dX9_init_37 : decode cX9_init 37 = .ok (.bipush 6, 2) := by decide +kernel
theorem dX9_init_39 : decode cX9_init 39 = .ok (.newarray .int, 2) := by decide +kernel
theorem dX9_init_41 : decode cX9_init 41 = .ok (.putfield 22, 3) := by decide +kernel
theorem dX9_init_44 : decode cX9_init 44 = .ok (.aload_n 0, 1) := by decide +kernel
theorem dX9_init_45 : decode cX9_init 45 = .ok (.bipush 6, 2) := by decide +kernel
theorem dX9_init_47 : decode cX9_init 47 = .ok (.newarray .int, 2) := by decide +kernel
theorem dX9_init_49 : decode cX9_init 49 = .ok (.putfield 25, 3) := by decide +kernel
theorem dX9_init_52 : decode cX9_init 52 = .ok (.aload_n 0, 1) := by decide +kernel
theorem dX9_init_53 : decode cX9_init 53 = .ok (.bipush 6, 2) := by decide +kernel
theorem dX9_init_55 : decode cX9_init 55 = .ok (.newarray .int, 2) := by decide +kernel
theorem dX9_init_57 : decode cX9_init 57 = .ok (.putfield 28, 3) := by decide +kernel
theorem dX9_init_60 : decode cX9_init 60 = .ok (.aload_n 0, 1) := by decide +kernel
theorem dX9_init_61 : decode cX9_init 61 = .ok (.bipush 6, 2) := by decide +kernel
theorem dX9_init_63 : decode cX9_init 63 = .ok (.newarray .int, 2) := by decide +kernel
theorem dX9_init_65 : decode cX9_init 65 = .ok (.putfield 31, 3) := by decide +kernel
theorem dX9_init_68 : decode cX9_init 68 = .ok (.aload_n 0, 1) := by decide +kernel
theorem dX9_init_69 : decode cX9_init 69 = .ok (.bipush 6, 2) := by decide +kernel
theorem dX9_init_71 : decode cX9_init 71 = .ok (.newarray .int, 2) := by decide +kernel
theorem dX9_init_73 : decode cX9_init 73 = .ok (.putfield 34, 3) := by decide +kernel
theorem dX9_init_76 : decode cX9_init 76 = .ok (.aload_n 0, 1) := by decide +kernel
theorem dX9_init_77 : decode cX9_init 77 = .ok (.bipush 6, 2) := by decide +kernel
theorem dX9_init_79 : decode cX9_init 79 = .ok (.newarray .int, 2) := by decide +kernel
theorem dX9_init_81 : decode cX9_init 81 = .ok (.putfield 37, 3) := by decide +kernel
theorem dX9_init_84 : decode cX9_init 84 = .ok (.aload_n 0, 1) := by decide +kernel
theorem dX9_init_85 : decode cX9_init 85 = .ok (.sipush 240, 3) := by decide +kernel
theorem dX9_init_88 : decode cX9_init 88 = .ok (.newarray .boolean, 2) := by decide +kernel
theorem dX9_init_90 : decode cX9_init 90 = .ok (.putfield 40, 3) := by decide +kernel
theorem dX9_init_93 : decode cX9_init 93 = .ok (.aload_n 0, 1) := by decide +kernel
theorem dX9_init_94 : decode cX9_init 94 = .ok (.sipush 240, 3) := by decide +kernel
theorem dX9_init_97 : decode cX9_init 97 = .ok (.newarray .int, 2) := by decide +kernel
theorem dX9_init_99 : decode cX9_init 99 = .ok (.putfield 44, 3) := by decide +kernel
theorem dX9_init_102 : decode cX9_init 102 = .ok (.aload_n 0, 1) := by decide +kernel
theorem dX9_init_103 : decode cX9_init 103 = .ok (.bipush 30, 2) := by decide +kernel
theorem dX9_init_105 : decode cX9_init 105 = .ok (.newarray .int, 2) := by decide +kernel
theorem dX9_init_107 : decode cX9_init 107 = .ok (.putfield 47, 3) := by decide +kernel
theorem dX9_init_110 : decode cX9_init 110 = .ok (.aload_n 0, 1) := by decide +kernel
theorem dX9_init_111 : decode cX9_init 111 = .ok (.bipush 30, 2) := by decide +kernel
theorem dX9_init_113 : decode cX9_init 113 = .ok (.newarray .int, 2) := by decide +kernel
theorem dX9_init_115 : decode cX9_init 115 = .ok (.putfield 50, 3) := by decide +kernel
theorem dX9_init_118 : decode cX9_init 118 = .ok (.aload_n 0, 1) := by decide +kernel
theorem dX9_init_119 : decode cX9_init 119 = .ok (.bipush 30, 2) := by decide +kernel
theorem dX9_init_121 : decode cX9_init 121 = .ok (.newarray .int, 2) := by decide +kernel
theorem dX9_init_123 : decode cX9_init 123 = .ok (.putfield 53, 3) := by decide +kernel
theorem dX9_init_126 : decode cX9_init 126 = .ok (.aload_n 0, 1) := by decide +kernel
theorem dX9_init_127 : decode cX9_init 127 = .ok (.bipush 30, 2) := by decide +kernel
theorem dX9_init_129 : decode cX9_init 129 = .ok (.newarray .int, 2) := by decide +kernel
theorem dX9_init_131 : decode cX9_init 131 = .ok (.putfield 56, 3) := by decide +kernel
theorem dX9_init_134 : decode cX9_init 134 = .ok (.aload_n 0, 1) := by decide +kernel
theorem dX9_init_135 : decode cX9_init 135 = .ok (.bipush 30, 2) := by decide +kernel
theorem dX9_init_137 : decode cX9_init 137 = .ok (.newarray .int, 2) := by decide +kernel
theorem dX9_init_139 : decode cX9_init 139 = .ok (.putfield 59, 3) := by decide +kernel
theorem dX9_init_142 : decode cX9_init 142 = .ok (.aload_n 0, 1) := by decide +kernel
theorem dX9_init_143 : decode cX9_init 143 = .ok (.bipush 30, 2) := by decide +kernel
theorem dX9_init_145 : decode cX9_init 145 = .ok (.newarray .boolean, 2) := by decide +kernel
theorem dX9_init_147 : decode cX9_init 147 = .ok (.putfield 62, 3) := by decide +kernel
theorem dX9_init_150 : decode cX9_init 150 = .ok (.aload_n 0, 1) := by decide +kernel
theorem dX9_init_151 : decode cX9_init 151 = .ok (.bipush 30, 2) := by decide +kernel
theorem dX9_init_153 : decode cX9_init 153 = .ok (.newarray .int, 2) := by decide +kernel
theorem dX9_init_155 : decode cX9_init 155 = .ok (.putfield 65, 3) := by decide +kernel
theorem dX9_init_158 : decode cX9_init 158 = .ok (.aload_n 0, 1) := by decide +kernel
theorem dX9_init_159 : decode cX9_init 159 = .ok (.bipush 30, 2) := by decide +kernel
theorem dX9_init_161 : decode cX9_init 161 = .ok (.newarray .int, 2) := by decide +kernel
theorem dX9_init_163 : decode cX9_init 163 = .ok (.putfield 68, 3) := by decide +kernel
theorem dX9_init_166 : decode cX9_init 166 = .ok (.aload_n 0, 1) := by decide +kernel
theorem dX9_init_167 : decode cX9_init 167 = .ok (.bipush 24, 2) := by decide +kernel
theorem dX9_init_169 : decode cX9_init 169 = .ok (.newarray .int, 2) := by decide +kernel
theorem dX9_init_171 : decode cX9_init 171 = .ok (.putfield 71, 3) := by decide +kernel
theorem dX9_init_174 : decode cX9_init 174 = .ok (.aload_n 0, 1) := by decide +kernel
theorem dX9_init_175 : decode cX9_init 175 = .ok (.bipush 24, 2) := by decide +kernel
theorem dX9_init_177 : decode cX9_init 177 = .ok (.newarray .int, 2) := by decide +kernel
theorem dX9_init_179 : decode cX9_init 179 = .ok (.putfield 74, 3) := by decide +kernel
theorem dX9_init_182 : decode cX9_init 182 = .ok (.aload_n 0, 1) := by decide +kernel
theorem dX9_init_183 : decode cX9_init 183 = .ok (.bipush 24, 2) := by decide +kernel
theorem dX9_init_185 : decode cX9_init 185 = .ok (.newarray .int, 2) := by decide +kernel
theorem dX9_init_187 : decode cX9_init 187 = .ok (.putfield 77, 3) := by decide +kernel
theorem dX9_init_190 : decode cX9_init 190 = .ok (.aload_n 0, 1) := by decide +kernel
theorem dX9_init_191 : decode cX9_init 191 = .ok (.bipush 24, 2) := by decide +kernel
theorem dX9_init_193 : decode cX9_init 193 = .ok (.newarray .int, 2) := by decide +kernel
theorem dX9_init_195 : decode cX9_init 195 = .ok (.putfield 80, 3) := by decide +kernel
theorem dX9_init_198 : decode cX9_init 198 = .ok (.aload_n 0, 1) := by decide +kernel
theorem dX9_init_199 : decode cX9_init 199 = .ok (.bipush 24, 2) := by decide +kernel
theorem dX9_init_201 : decode cX9_init 201 = .ok (.newarray .int, 2) := by decide +kernel
theorem dX9_init_203 : decode cX9_init 203 = .ok (.putfield 83, 3) := by decide +kernel
theorem dX9_init_206 : decode cX9_init 206 = .ok (.aload_n 0, 1) := by decide +kernel
theorem dX9_init_207 : decode cX9_init 207 = .ok (.bipush 24, 2) := by decide +kernel
theorem dX9_init_209 : decode cX9_init 209 = .ok (.newarray .int, 2) := by decide +kernel
theorem dX9_init_211 : decode cX9_init 211 = .ok (.putfield 86, 3) := by decide +kernel
theorem dX9_init_214 : decode cX9_init 214 = .ok (.aload_n 0, 1) := by decide +kernel
theorem dX9_init_215 : decode cX9_init 215 = .ok (.bipush 24, 2) := by decide +kernel
theorem dX9_init_217 : decode cX9_init 217 = .ok (.newarray .int, 2) := by decide +kernel
theorem dX9_init_219 : decode cX9_init 219 = .ok (.putfield 89, 3) := by decide +kernel
theorem dX9_init_222 : decode cX9_init 222 = .ok (.aload_n 0, 1) := by decide +kernel
theorem dX9_init_223 : decode cX9_init 223 = .ok (.bipush 24, 2) := by decide +kernel
theorem dX9_init_225 : decode cX9_init 225 = .ok (.newarray .int, 2) := by decide +kernel
theorem dX9_init_227 : decode cX9_init 227 = .ok (.putfield 92, 3) := by decide +kernel
theorem dX9_init_230 : decode cX9_init 230 = .ok (.aload_n 0, 1) := by decide +kernel
theorem dX9_init_231 : decode cX9_init 231 = .ok (.bipush 24, 2) := by decide +kernel
theorem dX9_init_233 : decode cX9_init 233 = .ok (.newarray .int, 2) := by decide +kernel
theorem dX9_init_235 : decode cX9_init 235 = .ok (.putfield 95, 3) := by decide +kernel
theorem dX9_init_238 : decode cX9_init 238 = .ok (.aload_n 0, 1) := by decide +kernel
theorem dX9_init_239 : decode cX9_init 239 = .ok (.bipush 24, 2) := by decide +kernel
theorem dX9_init_241 : decode cX9_init 241 = .ok (.newarray .int, 2) := by decide +kernel
theorem dX9_init_243 : decode cX9_init 243 = .ok (.putfield 98, 3) := by decide +kernel
theorem dX9_init_246 : decode cX9_init 246 = .ok (.aload_n 0, 1) := by decide +kernel
theorem dX9_init_247 : decode cX9_init 247 = .ok (.bipush 24, 2) := by decide +kernel
theorem dX9_init_249 : decode cX9_init 249 = .ok (.newarray .int, 2) := by decide +kernel
theorem dX9_init_251 : decode cX9_init 251 = .ok (.putfield 101, 3) := by decide +kernel
theorem dX9_init_254 : decode cX9_init 254 = .ok (.aload_n 0, 1) := by decide +kernel
theorem dX9_init_255 : decode cX9_init 255 = .ok (.bipush 24, 2) := by decide +kernel
theorem dX9_init_257 : decode cX9_init 257 = .ok (.newarray .int, 2) := by decide +kernel
theorem dX9_init_259 : decode cX9_init 259 = .ok (.putfield 104, 3) := by decide +kernel
theorem dX9_init_262 : decode cX9_init 262 = .ok (.aload_n 0, 1) := by decide +kernel
theorem dX9_init_263 : decode cX9_init 263 = .ok (.bipush 24, 2) := by decide +kernel
theorem dX9_init_265 : decode cX9_init 265 = .ok (.newarray .int, 2) := by decide +kernel
theorem dX9_init_267 : decode cX9_init 267 = .ok (.putfield 107, 3) := by decide +kernel
theorem dX9_init_270 : decode cX9_init 270 = .ok (.aload_n 0, 1) := by decide +kernel
theorem dX9_init_271 : decode cX9_init 271 = .ok (.bipush 24, 2) := by decide +kernel
theorem dX9_init_273 : decode cX9_init 273 = .ok (.newarray .boolean, 2) := by decide +kernel
theorem dX9_init_275 : decode cX9_init 275 = .ok (.putfield 110, 3) := by decide +kernel
theorem dX9_init_278 : decode cX9_init 278 = .ok (.aload_n 0, 1) := by decide +kernel
theorem dX9_init_279 : decode cX9_init 279 = .ok (.bipush 24, 2) := by decide +kernel
theorem dX9_init_281 : decode cX9_init 281 = .ok (.newarray .boolean, 2) := by decide +kernel
theorem dX9_init_283 : decode cX9_init 283 = .ok (.putfield 113, 3) := by decide +kernel
theorem dX9_init_286 : decode cX9_init 286 = .ok (.aload_n 0, 1) := by decide +kernel
theorem dX9_init_287 : decode cX9_init 287 = .ok (.sipush 576, 3) := by decide +kernel
theorem dX9_init_290 : decode cX9_init 290 = .ok (.newarray .boolean, 2) := by decide +kernel
theorem dX9_init_292 : decode cX9_init 292 = .ok (.putfield 116, 3) := by decide +kernel
theorem dX9_init_295 : decode cX9_init 295 = .ok (.aload_n 0, 1) := by decide +kernel
theorem dX9_init_296 : decode cX9_init 296 = .ok (.sipush 1024, 3) := by decide +kernel
theorem dX9_init_299 : decode cX9_init 299 = .ok (.newarray .int, 2) := by decide +kernel
theorem dX9_init_301 : decode cX9_init 301 = .ok (.putfield 119, 3) := by decide +kernel
theorem dX9_init_304 : decode cX9_init 304 = .ok (.aload_n 0, 1) := by decide +kernel
theorem dX9_init_305 : decode cX9_init 305 = .ok (.sipush 1024, 3) := by decide +kernel
theorem dX9_init_308 : decode cX9_init 308 = .ok (.newarray .int, 2) := by decide +kernel
theorem dX9_init_310 : decode cX9_init 310 = .ok (.putfield 122, 3) := by decide +kernel
theorem dX9_init_313 : decode cX9_init 313 = .ok (.aload_n 0, 1) := by decide +kernel
theorem dX9_init_314 : decode cX9_init 314 = .ok (.sipush 1024, 3) := by decide +kernel
theorem dX9_init_317 : decode cX9_init 317 = .ok (.newarray .int, 2) := by decide +kernel
theorem dX9_init_319 : decode cX9_init 319 = .ok (.putfield 125, 3) := by decide +kernel
theorem dX9_init_322 : decode cX9_init 322 = .ok (.aload_n 0, 1) := by decide +kernel
theorem dX9_init_323 : decode cX9_init 323 = .ok (.sipush 1024, 3) := by decide +kernel
theorem dX9_init_326 : decode cX9_init 326 = .ok (.newarray .int, 2) := by decide +kernel
theorem dX9_init_328 : decode cX9_init 328 = .ok (.putfield 128, 3) := by decide +kernel
theorem dX9_init_331 : decode cX9_init 331 = .ok (.aload_n 0, 1) := by decide +kernel
theorem dX9_init_332 : decode cX9_init 332 = .ok (.sipush 1024, 3) := by decide +kernel
theorem dX9_init_335 : decode cX9_init 335 = .ok (.newarray .boolean, 2) := by decide +kernel
theorem dX9_init_337 : decode cX9_init 337 = .ok (.putfield 131, 3) := by decide +kernel
theorem dX9_init_340 : decode cX9_init 340 = .ok (.aload_n 0, 1) := by decide +kernel
theorem dX9_init_341 : decode cX9_init 341 = .ok (.iconst 5, 1) := by decide +kernel
theorem dX9_init_342 : decode cX9_init 342 = .ok (.newarray .int, 2) := by decide +kernel
theorem dX9_init_344 : decode cX9_init 344 = .ok (.putfield 134, 3) := by decide +kernel
theorem dX9_init_347 : decode cX9_init 347 = .ok (.aload_n 0, 1) := by decide +kernel
theorem dX9_init_348 : decode cX9_init 348 = .ok (.iconst 5, 1) := by decide +kernel
theorem dX9_init_349 : decode cX9_init 349 = .ok (.newarray .int, 2) := by decide +kernel
theorem dX9_init_351 : decode cX9_init 351 = .ok (.putfield 137, 3) := by decide +kernel
theorem dX9_init_354 : decode cX9_init 354 = .ok (.aload_n 0, 1) := by decide +kernel
theorem dX9_init_355 : decode cX9_init 355 = .ok (.bipush 6, 2) := by decide +kernel
theorem dX9_init_357 : decode cX9_init 357 = .ok (.newarray .long, 2) := by decide +kernel
theorem dX9_init_359 : decode cX9_init 359 = .ok (.putfield 140, 3) := by decide +kernel
theorem dX9_init_362 : decode cX9_init 362 = .ok (.iconst 0, 1) := by decide +kernel
theorem dX9_init_363 : decode cX9_init 363 = .ok (.istore_n 1, 1) := by decide +kernel
theorem dX9_init_364 : decode cX9_init 364 = .ok (.iload_n 1, 1) := by decide +kernel
theorem dX9_init_365 : decode cX9_init 365 = .ok (.sipush 240, 3) := by decide +kernel
theorem dX9_init_368 : decode cX9_init 368 = .ok (.if_icmp .ge 16, 3) := by decide +kernel
theorem dX9_init_371 : decode cX9_init 371 = .ok (.aload_n 0, 1) := by decide +kernel
theorem dX9_init_372 : decode cX9_init 372 = .ok (.getfield 44, 3) := by decide +kernel
theorem dX9_init_375 : decode cX9_init 375 = .ok (.iload_n 1, 1) := by decide +kernel
theorem dX9_init_376 : decode cX9_init 376 = .ok (.iconst (-1), 1) := by decide +kernel
theorem dX9_init_377 : decode cX9_init 377 = .ok (.iastore, 1) := by decide +kernel
theorem dX9_init_378 : decode cX9_init 378 = .ok (.iinc 1 1, 3) := by decide +kernel
theorem dX9_init_381 : decode cX9_init 381 = .ok (.goto (-17), 3) := by decide +kernel
theorem dX9_init_384 : decode cX9_init 384 = .ok (.iconst 0, 1) := by decide +kernel
theorem dX9_init_385 : decode cX9_init 385 = .ok (.istore_n 1, 1) := by decide +kernel
theorem dX9_init_386 : decode cX9_init 386 = .ok (.iload_n 1, 1) := by decide +kernel
theorem dX9_init_387 : decode cX9_init 387 = .ok (.bipush 6, 2) := by decide +kernel
theorem dX9_init_389 : decode cX9_init 389 = .ok (.if_icmp .ge 23, 3) := by decide +kernel
theorem dX9_init_392 : decode cX9_init 392 = .ok (.aload_n 0, 1) := by decide +kernel
theorem dX9_init_393 : decode cX9_init 393 = .ok (.getfield 28, 3) := by decide +kernel
theorem dX9_init_396 : decode cX9_init 396 = .ok (.iload_n 1, 1) := by decide +kernel
theorem dX9_init_397 : decode cX9_init 397 = .ok (.iconst (-1), 1) := by decide +kernel
theorem dX9_init_398 : decode cX9_init 398 = .ok (.iastore, 1) := by decide +kernel
theorem dX9_init_399 : decode cX9_init 399 = .ok (.aload_n 0, 1) := by decide +kernel
theorem dX9_init_400 : decode cX9_init 400 = .ok (.getfield 22, 3) := by decide +kernel
theorem dX9_init_403 : decode cX9_init 403 = .ok (.iload_n 1, 1) := by decide +kernel
theorem dX9_init_404 : decode cX9_init 404 = .ok (.iconst (-1), 1) := by decide +kernel
theorem dX9_init_405 : decode cX9_init 405 = .ok (.iastore, 1) := by decide +kernel
theorem dX9_init_406 : decode cX9_init 406 = .ok (.iinc 1 1, 3) := by decide +kernel
theorem dX9_init_409 : decode cX9_init 409 = .ok (.goto (-23), 3) := by decide +kernel
theorem dX9_init_412 : decode cX9_init 412 = .ok (.return_, 1) := by decide +kernel
theorem dX9_thrown_0 : decode cX9_thrown 0 = .ok (.aload_n 0, 1) := by decide +kernel
theorem dX9_thrown_1 : decode cX9_thrown 1 = .ok (.getfield 144, 3) := by decide +kernel
theorem dX9_thrown_4 : decode cX9_thrown 4 = .ok (.ireturn, 1) := by decide +kernel
theorem dX9_goes_0 : decode cX9_goes 0 = .ok (.aload_n 0, 1) := by decide +kernel
theorem dX9_goes_1 : decode cX9_goes 1 = .ok (.iload_n 1, 1) := by decide +kernel
theorem dX9_goes_2 : decode cX9_goes 2 = .ok (.putfield 144, 3) := by decide +kernel
theorem dX9_goes_5 : decode cX9_goes 5 = .ok (.iload_n 1, 1) := by decide +kernel
theorem dX9_goes_6 : decode cX9_goes 6 = .ok (.ifCond .ne 7, 3) := by decide +kernel
theorem dX9_goes_9 : decode cX9_goes 9 = .ok (.iconst 1, 1) := by decide +kernel
theorem dX9_goes_10 : decode cX9_goes 10 = .ok (.goto 4, 3) := by decide +kernel
theorem dX9_goes_13 : decode cX9_goes 13 = .ok (.iconst 0, 1) := by decide +kernel
theorem dX9_goes_14 : decode cX9_goes 14 = .ok (.ireturn, 1) := by decide +kernel
theorem dX9_isIn_0 : decode cX9_isIn 0 = .ok (.iload_n 0, 1) := by decide +kernel
theorem dX9_isIn_1 : decode cX9_isIn 1 = .ok (.iload_n 1, 1) := by decide +kernel
theorem dX9_isIn_2 : decode cX9_isIn 2 = .ok (.if_icmp .lt 12, 3) := by decide +kernel
theorem dX9_isIn_5 : decode cX9_isIn 5 = .ok (.iload_n 0, 1) := by decide +kernel
theorem dX9_isIn_6 : decode cX9_isIn 6 = .ok (.iload_n 2, 1) := by decide +kernel
theorem dX9_isIn_7 : decode cX9_isIn 7 = .ok (.if_icmp .gt 7, 3) := by decide +kernel
theorem dX9_isIn_10 : decode cX9_isIn 10 = .ok (.iconst 1, 1) := by decide +kernel
theorem dX9_isIn_11 : decode cX9_isIn 11 = .ok (.goto 4, 3) := by decide +kernel
theorem dX9_isIn_14 : decode cX9_isIn 14 = .ok (.iconst 0, 1) := by decide +kernel
theorem dX9_isIn_15 : decode cX9_isIn 15 = .ok (.ireturn, 1) := by decide +kernel
theorem dX9_isStreet_0 : decode cX9_isStreet 0 = .ok (.iload_n 1, 1) := by decide +kernel
theorem dX9_isStreet_1 : decode cX9_isStreet 1 = .ok (.iconst 0, 1) := by decide +kernel
theorem dX9_isStreet_2 : decode cX9_isStreet 2 = .ok (.aload_n 0, 1) := by decide +kernel
theorem dX9_isStreet_3 : decode cX9_isStreet 3 = .ok (.getfield 148, 3) := by decide +kernel
theorem dX9_isStreet_6 : decode cX9_isStreet 6 = .ok (.iconst 1, 1) := by decide +kernel
theorem dX9_isStreet_7 : decode cX9_isStreet 7 = .ok (.isub, 1) := by decide +kernel
theorem dX9_isStreet_8 : decode cX9_isStreet 8 = .ok (.invokestatic 151, 3) := by decide +kernel
theorem dX9_isStreet_11 : decode cX9_isStreet 11 = .ok (.ireturn, 1) := by decide +kernel
theorem dX9_isMetre_0 : decode cX9_isMetre 0 = .ok (.aload_n 0, 1) := by decide +kernel
theorem dX9_isMetre_1 : decode cX9_isMetre 1 = .ok (.iload_n 1, 1) := by decide +kernel
theorem dX9_isMetre_2 : decode cX9_isMetre 2 = .ok (.invokevirtual 155, 3) := by decide +kernel
theorem dX9_isMetre_5 : decode cX9_isMetre 5 = .ok (.ifCond .eq 23, 3) := by decide +kernel
theorem dX9_isMetre_8 : decode cX9_isMetre 8 = .ok (.iload_n 2, 1) := by decide +kernel
theorem dX9_isMetre_9 : decode cX9_isMetre 9 = .ok (.iconst 0, 1) := by decide +kernel
theorem dX9_isMetre_10 : decode cX9_isMetre 10 = .ok (.aload_n 0, 1) := by decide +kernel
theorem dX9_isMetre_11 : decode cX9_isMetre 11 = .ok (.getfield 7, 3) := by decide +kernel
theorem dX9_isMetre_14 : decode cX9_isMetre 14 = .ok (.iload_n 1, 1) := by decide +kernel
theorem dX9_isMetre_15 : decode cX9_isMetre 15 = .ok (.iaload, 1) := by decide +kernel
theorem dX9_isMetre_16 : decode cX9_isMetre 16 = .ok (.iconst 1, 1) := by decide +kernel
theorem dX9_isMetre_17 : decode cX9_isMetre 17 = .ok (.isub, 1) := by decide +kernel
theorem dX9_isMetre_18 : decode cX9_isMetre 18 = .ok (.invokestatic 151, 3) := by decide +kernel
theorem dX9_isMetre_21 : decode cX9_isMetre 21 = .ok (.ifCond .eq 7, 3) := by decide +kernel
theorem dX9_isMetre_24 : decode cX9_isMetre 24 = .ok (.iconst 1, 1) := by decide +kernel
theorem dX9_isMetre_25 : decode cX9_isMetre 25 = .ok (.goto 4, 3) := by decide +kernel
theorem dX9_isMetre_28 : decode cX9_isMetre 28 = .ok (.iconst 0, 1) := by decide +kernel
