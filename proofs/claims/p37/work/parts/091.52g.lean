theorem dX8_plate_14 : decode cX8_plate 14 = .ok (.ldc 225, 2) := by decide +kernel
theorem dX8_plate_16 : decode cX8_plate 16 = .ok (.invokespecial 56, 3) := by decide +kernel
theorem dX8_plate_19 : decode cX8_plate 19 = .ok (.athrow, 1) := by decide +kernel
theorem dX8_plate_20 : decode cX8_plate 20 = .ok (.aload_n 2, 1) := by decide +kernel
theorem dX8_plate_21 : decode cX8_plate 21 = .ok (.getfield 118, 3) := by decide +kernel
theorem dX8_plate_24 : decode cX8_plate 24 = .ok (.iconst 3, 1) := by decide +kernel
theorem dX8_plate_25 : decode cX8_plate 25 = .ok (.if_icmp .eq 14, 3) := by decide +kernel
theorem dX8_plate_28 : decode cX8_plate 28 = .ok (.new 68, 3) := by decide +kernel
theorem dX8_plate_31 : decode cX8_plate 31 = .ok (.dup, 1) := by decide +kernel
theorem dX8_plate_32 : decode cX8_plate 32 = .ok (.ldc_w 326, 3) := by decide +kernel
theorem dX8_plate_35 : decode cX8_plate 35 = .ok (.invokespecial 72, 3) := by decide +kernel
theorem dX8_plate_38 : decode cX8_plate 38 = .ok (.athrow, 1) := by decide +kernel
theorem dX8_plate_39 : decode cX8_plate 39 = .ok (.aload_n 2, 1) := by decide +kernel
theorem dX8_plate_40 : decode cX8_plate 40 = .ok (.aload_n 2, 1) := by decide +kernel
theorem dX8_plate_41 : decode cX8_plate 41 = .ok (.getfield 277, 3) := by decide +kernel
theorem dX8_plate_44 : decode cX8_plate 44 = .ok (.ifCond .ne 7, 3) := by decide +kernel
theorem dX8_plate_47 : decode cX8_plate 47 = .ok (.iconst 1, 1) := by decide +kernel
theorem dX8_plate_48 : decode cX8_plate 48 = .ok (.goto 4, 3) := by decide +kernel
theorem dX8_plate_51 : decode cX8_plate 51 = .ok (.iconst 0, 1) := by decide +kernel
theorem dX8_plate_52 : decode cX8_plate 52 = .ok (.putfield 277, 3) := by decide +kernel
theorem dX8_plate_55 : decode cX8_plate 55 = .ok (.aload_n 2, 1) := by decide +kernel
theorem dX8_plate_56 : decode cX8_plate 56 = .ok (.getfield 277, 3) := by decide +kernel
theorem dX8_plate_59 : decode cX8_plate 59 = .ok (.ireturn, 1) := by decide +kernel
theorem dX8_extend_0 : decode cX8_extend 0 = .ok (.aload_n 0, 1) := by decide +kernel
theorem dX8_extend_1 : decode cX8_extend 1 = .ok (.iload_n 1, 1) := by decide +kernel
theorem dX8_extend_2 : decode cX8_extend 2 = .ok (.invokevirtual 221, 3) := by decide +kernel
theorem dX8_extend_5 : decode cX8_extend 5 = .ok (.astore_n 2, 1) := by decide +kernel
theorem dX8_extend_6 : decode cX8_extend 6 = .ok (.aload_n 2, 1) := by decide +kernel
theorem dX8_extend_7 : decode cX8_extend 7 = .ok (.ifnonnull 13, 3) := by decide +kernel
theorem dX8_extend_10 : decode cX8_extend 10 = .ok (.new 52, 3) := by decide +kernel
theorem dX8_extend_13 : decode cX8_extend 13 = .ok (.dup, 1) := by decide +kernel
theorem dX8_extend_14 : decode cX8_extend 14 = .ok (.ldc 225, 2) := by decide +kernel
theorem dX8_extend_16 : decode cX8_extend 16 = .ok (.invokespecial 56, 3) := by decide +kernel
theorem dX8_extend_19 : decode cX8_extend 19 = .ok (.athrow, 1) := by decide +kernel
theorem dX8_extend_20 : decode cX8_extend 20 = .ok (.aload_n 2, 1) := by decide +kernel
theorem dX8_extend_21 : decode cX8_extend 21 = .ok (.getfield 118, 3) := by decide +kernel
theorem dX8_extend_24 : decode cX8_extend 24 = .ok (.iconst 3, 1) := by decide +kernel
theorem dX8_extend_25 : decode cX8_extend 25 = .ok (.if_icmp .ne 11, 3) := by decide +kernel
theorem dX8_extend_28 : decode cX8_extend 28 = .ok (.aload_n 2, 1) := by decide +kernel
theorem dX8_extend_29 : decode cX8_extend 29 = .ok (.getfield 328, 3) := by decide +kernel
theorem dX8_extend_32 : decode cX8_extend 32 = .ok (.iconst 1, 1) := by decide +kernel
theorem dX8_extend_33 : decode cX8_extend 33 = .ok (.if_icmp .ge 14, 3) := by decide +kernel
theorem dX8_extend_36 : decode cX8_extend 36 = .ok (.new 68, 3) := by decide +kernel
theorem dX8_extend_39 : decode cX8_extend 39 = .ok (.dup, 1) := by decide +kernel
theorem dX8_extend_40 : decode cX8_extend 40 = .ok (.ldc_w 331, 3) := by decide +kernel
theorem dX8_extend_43 : decode cX8_extend 43 = .ok (.invokespecial 72, 3) := by decide +kernel
theorem dX8_extend_46 : decode cX8_extend 46 = .ok (.athrow, 1) := by decide +kernel
theorem dX8_extend_47 : decode cX8_extend 47 = .ok (.aload_n 2, 1) := by decide +kernel
theorem dX8_extend_48 : decode cX8_extend 48 = .ok (.getfield 124, 3) := by decide +kernel
theorem dX8_extend_51 : decode cX8_extend 51 = .ok (.iconst 2, 1) := by decide +kernel
theorem dX8_extend_52 : decode cX8_extend 52 = .ok (.iadd, 1) := by decide +kernel
theorem dX8_extend_53 : decode cX8_extend 53 = .ok (.aload_n 0, 1) := by decide +kernel
theorem dX8_extend_54 : decode cX8_extend 54 = .ok (.invokevirtual 84, 3) := by decide +kernel
theorem dX8_extend_57 : decode cX8_extend 57 = .ok (.invokestatic 333, 3) := by decide +kernel
theorem dX8_extend_60 : decode cX8_extend 60 = .ok (.istore_n 3, 1) := by decide +kernel
theorem dX8_extend_61 : decode cX8_extend 61 = .ok (.aload_n 0, 1) := by decide +kernel
theorem dX8_extend_62 : decode cX8_extend 62 = .ok (.aload_n 2, 1) := by decide +kernel
theorem dX8_extend_63 : decode cX8_extend 63 = .ok (.iload_n 3, 1) := by decide +kernel
theorem dX8_extend_64 : decode cX8_extend 64 = .ok (.iconst 0, 1) := by decide +kernel
theorem dX8_extend_65 : decode cX8_extend 65 = .ok (.iconst 1, 1) := by decide +kernel
theorem dX8_extend_66 : decode cX8_extend 66 = .ok (.invokevirtual 339, 3) := by decide +kernel
theorem dX8_extend_69 : decode cX8_extend 69 = .ok (.iconst (-1), 1) := by decide +kernel
theorem dX8_extend_70 : decode cX8_extend 70 = .ok (.if_icmp .eq 14, 3) := by decide +kernel
theorem dX8_extend_73 : decode cX8_extend 73 = .ok (.new 68, 3) := by decide +kernel
theorem dX8_extend_76 : decode cX8_extend 76 = .ok (.dup, 1) := by decide +kernel
theorem dX8_extend_77 : decode cX8_extend 77 = .ok (.ldc_w 343, 3) := by decide +kernel
theorem dX8_extend_80 : decode cX8_extend 80 = .ok (.invokespecial 72, 3) := by decide +kernel
theorem dX8_extend_83 : decode cX8_extend 83 = .ok (.athrow, 1) := by decide +kernel
theorem dX8_extend_84 : decode cX8_extend 84 = .ok (.aload_n 2, 1) := by decide +kernel
theorem dX8_extend_85 : decode cX8_extend 85 = .ok (.dup, 1) := by decide +kernel
theorem dX8_extend_86 : decode cX8_extend 86 = .ok (.getfield 328, 3) := by decide +kernel
theorem dX8_extend_89 : decode cX8_extend 89 = .ok (.iconst 1, 1) := by decide +kernel
theorem dX8_extend_90 : decode cX8_extend 90 = .ok (.isub, 1) := by decide +kernel
theorem dX8_extend_91 : decode cX8_extend 91 = .ok (.putfield 328, 3) := by decide +kernel
theorem dX8_extend_94 : decode cX8_extend 94 = .ok (.aload_n 2, 1) := by decide +kernel
theorem dX8_extend_95 : decode cX8_extend 95 = .ok (.dup, 1) := by decide +kernel
theorem dX8_extend_96 : decode cX8_extend 96 = .ok (.getfield 124, 3) := by decide +kernel
theorem dX8_extend_99 : decode cX8_extend 99 = .ok (.iconst 2, 1) := by decide +kernel
theorem dX8_extend_100 : decode cX8_extend 100 = .ok (.iadd, 1) := by decide +kernel
theorem dX8_extend_101 : decode cX8_extend 101 = .ok (.putfield 124, 3) := by decide +kernel
theorem dX8_extend_104 : decode cX8_extend 104 = .ok (.aload_n 2, 1) := by decide +kernel
theorem dX8_extend_105 : decode cX8_extend 105 = .ok (.getfield 124, 3) := by decide +kernel
theorem dX8_extend_108 : decode cX8_extend 108 = .ok (.ireturn, 1) := by decide +kernel
theorem dX8_stop_0 : decode cX8_stop 0 = .ok (.aload_n 0, 1) := by decide +kernel
theorem dX8_stop_1 : decode cX8_stop 1 = .ok (.iload_n 1, 1) := by decide +kernel
theorem dX8_stop_2 : decode cX8_stop 2 = .ok (.invokevirtual 221, 3) := by decide +kernel
theorem dX8_stop_5 : decode cX8_stop 5 = .ok (.astore_n 2, 1) := by decide +kernel
theorem dX8_stop_6 : decode cX8_stop 6 = .ok (.aload_n 2, 1) := by decide +kernel
theorem dX8_stop_7 : decode cX8_stop 7 = .ok (.ifnonnull 13, 3) := by decide +kernel
theorem dX8_stop_10 : decode cX8_stop 10 = .ok (.new 52, 3) := by decide +kernel
theorem dX8_stop_13 : decode cX8_stop 13 = .ok (.dup, 1) := by decide +kernel
theorem dX8_stop_14 : decode cX8_stop 14 = .ok (.ldc 225, 2) := by decide +kernel
theorem dX8_stop_16 : decode cX8_stop 16 = .ok (.invokespecial 56, 3) := by decide +kernel
theorem dX8_stop_19 : decode cX8_stop 19 = .ok (.athrow, 1) := by decide +kernel
theorem dX8_stop_20 : decode cX8_stop 20 = .ok (.aload_n 2, 1) := by decide +kernel
theorem dX8_stop_21 : decode cX8_stop 21 = .ok (.getfield 118, 3) := by decide +kernel
theorem dX8_stop_24 : decode cX8_stop 24 = .ok (.iconst 3, 1) := by decide +kernel
theorem dX8_stop_25 : decode cX8_stop 25 = .ok (.if_icmp .ne 10, 3) := by decide +kernel
theorem dX8_stop_28 : decode cX8_stop 28 = .ok (.aload_n 2, 1) := by decide +kernel
theorem dX8_stop_29 : decode cX8_stop 29 = .ok (.getfield 300, 3) := by decide +kernel
theorem dX8_stop_32 : decode cX8_stop 32 = .ok (.ifCond .le 14, 3) := by decide +kernel
theorem dX8_stop_35 : decode cX8_stop 35 = .ok (.new 68, 3) := by decide +kernel
theorem dX8_stop_38 : decode cX8_stop 38 = .ok (.dup, 1) := by decide +kernel
theorem dX8_stop_39 : decode cX8_stop 39 = .ok (.ldc_w 345, 3) := by decide +kernel
theorem dX8_stop_42 : decode cX8_stop 42 = .ok (.invokespecial 72, 3) := by decide +kernel
theorem dX8_stop_45 : decode cX8_stop 45 = .ok (.athrow, 1) := by decide +kernel
theorem dX8_stop_46 : decode cX8_stop 46 = .ok (.aload_n 2, 1) := by decide +kernel
theorem dX8_stop_47 : decode cX8_stop 47 = .ok (.aload_n 0, 1) := by decide +kernel
theorem dX8_stop_48 : decode cX8_stop 48 = .ok (.invokevirtual 84, 3) := by decide +kernel
theorem dX8_stop_51 : decode cX8_stop 51 = .ok (.invokevirtual 347, 3) := by decide +kernel
theorem dX8_stop_54 : decode cX8_stop 54 = .ok (.aload_n 2, 1) := by decide +kernel
theorem dX8_stop_55 : decode cX8_stop 55 = .ok (.getfield 124, 3) := by decide +kernel
theorem dX8_stop_58 : decode cX8_stop 58 = .ok (.isub, 1) := by decide +kernel
theorem dX8_stop_59 : decode cX8_stop 59 = .ok (.istore_n 3, 1) := by decide +kernel
theorem dX8_stop_60 : decode cX8_stop 60 = .ok (.aload_n 2, 1) := by decide +kernel
theorem dX8_stop_61 : decode cX8_stop 61 = .ok (.iconst 4, 1) := by decide +kernel
theorem dX8_stop_62 : decode cX8_stop 62 = .ok (.putfield 118, 3) := by decide +kernel
theorem dX8_stop_65 : decode cX8_stop 65 = .ok (.aload_n 2, 1) := by decide +kernel
theorem dX8_stop_66 : decode cX8_stop 66 = .ok (.iconst 0, 1) := by decide +kernel
theorem dX8_stop_67 : decode cX8_stop 67 = .ok (.putfield 277, 3) := by decide +kernel
theorem dX8_stop_70 : decode cX8_stop 70 = .ok (.iload_n 3, 1) := by decide +kernel
theorem dX8_stop_71 : decode cX8_stop 71 = .ok (.ireturn, 1) := by decide +kernel
theorem dX8_pass_0 : decode cX8_pass 0 = .ok (.iload_n 1, 1) := by decide +kernel
theorem dX8_pass_1 : decode cX8_pass 1 = .ok (.iconst 1, 1) := by decide +kernel
theorem dX8_pass_2 : decode cX8_pass 2 = .ok (.if_icmp .lt 10, 3) := by decide +kernel
theorem dX8_pass_5 : decode cX8_pass 5 = .ok (.iload_n 1, 1) := by decide +kernel
theorem dX8_pass_6 : decode cX8_pass 6 = .ok (.sipush 200, 3) := by decide +kernel
theorem dX8_pass_9 : decode cX8_pass 9 = .ok (.if_icmp .le 14, 3) := by decide +kernel
theorem dX8_pass_12 : decode cX8_pass 12 = .ok (.new 59, 3) := by decide +kernel
theorem dX8_pass_15 : decode cX8_pass 15 = .ok (.dup, 1) := by decide +kernel
theorem dX8_pass_16 : decode cX8_pass 16 = .ok (.ldc_w 350, 3) := by decide +kernel
theorem dX8_pass_19 : decode cX8_pass 19 = .ok (.invokespecial 63, 3) := by decide +kernel
theorem dX8_pass_22 : decode cX8_pass 22 = .ok (.athrow, 1) := by decide +kernel
theorem dX8_pass_23 : decode cX8_pass 23 = .ok (.aload_n 0, 1) := by decide +kernel
theorem dX8_pass_24 : decode cX8_pass 24 = .ok (.getfield 352, 3) := by decide +kernel
theorem dX8_pass_27 : decode cX8_pass 27 = .ok (.iload_n 1, 1) := by decide +kernel
theorem dX8_pass_28 : decode cX8_pass 28 = .ok (.iadd, 1) := by decide +kernel
theorem dX8_pass_29 : decode cX8_pass 29 = .ok (.sipush 9999, 3) := by decide +kernel
theorem dX8_pass_32 : decode cX8_pass 32 = .ok (.if_icmp .le 14, 3) := by decide +kernel
theorem dX8_pass_35 : decode cX8_pass 35 = .ok (.new 68, 3) := by decide +kernel
theorem dX8_pass_38 : decode cX8_pass 38 = .ok (.dup, 1) := by decide +kernel
theorem dX8_pass_39 : decode cX8_pass 39 = .ok (.ldc_w 355, 3) := by decide +kernel
theorem dX8_pass_42 : decode cX8_pass 42 = .ok (.invokespecial 72, 3) := by decide +kernel
theorem dX8_pass_45 : decode cX8_pass 45 = .ok (.athrow, 1) := by decide +kernel
theorem dX8_pass_46 : decode cX8_pass 46 = .ok (.iconst 0, 1) := by decide +kernel
theorem dX8_pass_47 : decode cX8_pass 47 = .ok (.istore_n 2, 1) := by decide +kernel
theorem dX8_pass_48 : decode cX8_pass 48 = .ok (.iload_n 2, 1) := by decide +kernel
theorem dX8_pass_49 : decode cX8_pass 49 = .ok (.iload_n 1, 1) := by decide +kernel
theorem dX8_pass_50 : decode cX8_pass 50 = .ok (.if_icmp .ge 13, 3) := by decide +kernel
theorem dX8_pass_53 : decode cX8_pass 53 = .ok (.aload_n 0, 1) := by decide +kernel
theorem dX8_pass_54 : decode cX8_pass 54 = .ok (.invokevirtual 357, 3) := by decide +kernel
theorem dX8_pass_57 : decode cX8_pass 57 = .ok (.iinc 2 1, 3) := by decide +kernel
theorem dX8_pass_60 : decode cX8_pass 60 = .ok (.goto (-12), 3) := by decide +kernel
theorem dX8_pass_63 : decode cX8_pass 63 = .ok (.aload_n 0, 1) := by decide +kernel
theorem dX8_pass_64 : decode cX8_pass 64 = .ok (.getfield 352, 3) := by decide +kernel
theorem dX8_pass_67 : decode cX8_pass 67 = .ok (.ireturn, 1) := by decide +kernel
theorem dX8_defect_0 : decode cX8_defect 0 = .ok (.aload_n 0, 1) := by decide +kernel
theorem dX8_defect_1 : decode cX8_defect 1 = .ok (.iload_n 1, 1) := by decide +kernel
theorem dX8_defect_2 : decode cX8_defect 2 = .ok (.invokevirtual 48, 3) := by decide +kernel
theorem dX8_defect_5 : decode cX8_defect 5 = .ok (.astore 4, 2) := by decide +kernel
theorem dX8_defect_7 : decode cX8_defect 7 = .ok (.aload 4, 2) := by decide +kernel
theorem dX8_defect_9 : decode cX8_defect 9 = .ok (.ifnonnull 7, 3) := by decide +kernel
theorem dX8_defect_12 : decode cX8_defect 12 = .ok (.aconst_null, 1) := by decide +kernel
theorem dX8_defect_13 : decode cX8_defect 13 = .ok (.goto 9, 3) := by decide +kernel
theorem dX8_defect_16 : decode cX8_defect 16 = .ok (.aload 4, 2) := by decide +kernel
theorem dX8_defect_18 : decode cX8_defect 18 = .ok (.iload_n 2, 1) := by decide +kernel
theorem dX8_defect_19 : decode cX8_defect 19 = .ok (.invokevirtual 135, 3) := by decide +kernel
theorem dX8_defect_22 : decode cX8_defect 22 = .ok (.astore 5, 2) := by decide +kernel
theorem dX8_defect_24 : decode cX8_defect 24 = .ok (.aload 4, 2) := by decide +kernel
theorem dX8_defect_26 : decode cX8_defect 26 = .ok (.ifnull 8, 3) := by decide +kernel
theorem dX8_defect_29 : decode cX8_defect 29 = .ok (.aload 5, 2) := by decide +kernel
theorem dX8_defect_31 : decode cX8_defect 31 = .ok (.ifnonnull 13, 3) := by decide +kernel
theorem dX8_defect_34 : decode cX8_defect 34 = .ok (.new 52, 3) := by decide +kernel
theorem dX8_defect_37 : decode cX8_defect 37 = .ok (.dup, 1) := by decide +kernel
theorem dX8_defect_38 : decode cX8_defect 38 = .ok (.ldc 189, 2) := by decide +kernel
theorem dX8_defect_40 : decode cX8_defect 40 = .ok (.invokespecial 56, 3) := by decide +kernel
theorem dX8_defect_43 : decode cX8_defect 43 = .ok (.athrow, 1) := by decide +kernel
theorem dX8_defect_44 : decode cX8_defect 44 = .ok (.iload_n 3, 1) := by decide +kernel
theorem dX8_defect_45 : decode cX8_defect 45 = .ok (.ifCond .lt 10, 3) := by decide +kernel
theorem dX8_defect_48 : decode cX8_defect 48 = .ok (.iload_n 3, 1) := by decide +kernel
theorem dX8_defect_49 : decode cX8_defect 49 = .ok (.sipush 300, 3) := by decide +kernel
theorem dX8_defect_52 : decode cX8_defect 52 = .ok (.if_icmp .le 14, 3) := by decide +kernel
theorem dX8_defect_55 : decode cX8_defect 55 = .ok (.new 59, 3) := by decide +kernel
theorem dX8_defect_58 : decode cX8_defect 58 = .ok (.dup, 1) := by decide +kernel
theorem dX8_defect_59 : decode cX8_defect 59 = .ok (.ldc_w 360, 3) := by decide +kernel
theorem dX8_defect_62 : decode cX8_defect 62 = .ok (.invokespecial 63, 3) := by decide +kernel
theorem dX8_defect_65 : decode cX8_defect 65 = .ok (.athrow, 1) := by decide +kernel
theorem dX8_defect_66 : decode cX8_defect 66 = .ok (.aload_n 0, 1) := by decide +kernel
theorem dX8_defect_67 : decode cX8_defect 67 = .ok (.aload 4, 2) := by decide +kernel
theorem dX8_defect_69 : decode cX8_defect 69 = .ok (.aload 5, 2) := by decide +kernel
theorem dX8_defect_71 : decode cX8_defect 71 = .ok (.iload_n 3, 1) := by decide +kernel
theorem dX8_defect_72 : decode cX8_defect 72 = .ok (.invokevirtual 362, 3) := by decide +kernel
theorem dX8_defect_75 : decode cX8_defect 75 = .ok (.astore 6, 2) := by decide +kernel
theorem dX8_defect_77 : decode cX8_defect 77 = .ok (.aload 6, 2) := by decide +kernel
theorem dX8_defect_79 : decode cX8_defect 79 = .ok (.ifnonnull 5, 3) := by decide +kernel
theorem dX8_defect_82 : decode cX8_defect 82 = .ok (.iconst (-1), 1) := by decide +kernel
theorem dX8_defect_83 : decode cX8_defect 83 = .ok (.ireturn, 1) := by decide +kernel
theorem dX8_defect_84 : decode cX8_defect 84 = .ok (.aload_n 0, 1) := by decide +kernel
theorem dX8_defect_85 : decode cX8_defect 85 = .ok (.aload 6, 2) := by decide +kernel
theorem dX8_defect_87 : decode cX8_defect 87 = .ok (.getfield 319, 3) := by decide +kernel
theorem dX8_defect_90 : decode cX8_defect 90 = .ok (.iconst 5, 1) := by decide +kernel
theorem dX8_defect_91 : decode cX8_defect 91 = .ok (.sipush 300, 3) := by decide +kernel
theorem dX8_defect_94 : decode cX8_defect 94 = .ok (.invokevirtual 366, 3) := by decide +kernel
theorem dX8_defect_97 : decode cX8_defect 97 = .ok (.aload_n 0, 1) := by decide +kernel
theorem dX8_defect_98 : decode cX8_defect 98 = .ok (.aload 6, 2) := by decide +kernel
theorem dX8_defect_100 : decode cX8_defect 100 = .ok (.getfield 319, 3) := by decide +kernel
theorem dX8_defect_103 : decode cX8_defect 103 = .ok (.invokevirtual 369, 3) := by decide +kernel
theorem dX8_defect_106 : decode cX8_defect 106 = .ok (.aload 6, 2) := by decide +kernel
theorem dX8_defect_108 : decode cX8_defect 108 = .ok (.getfield 218, 3) := by decide +kernel
theorem dX8_defect_111 : decode cX8_defect 111 = .ok (.ireturn, 1) := by decide +kernel
theorem dX8_core_0 : decode cX8_core 0 = .ok (.aload_n 0, 1) := by decide +kernel
theorem dX8_core_1 : decode cX8_core 1 = .ok (.iload_n 1, 1) := by decide +kernel
theorem dX8_core_2 : decode cX8_core 2 = .ok (.invokevirtual 48, 3) := by decide +kernel
theorem dX8_core_5 : decode cX8_core 5 = .ok (.astore_n 3, 1) := by decide +kernel
theorem dX8_core_6 : decode cX8_core 6 = .ok (.aload_n 3, 1) := by decide +kernel
theorem dX8_core_7 : decode cX8_core 7 = .ok (.ifnonnull 7, 3) := by decide +kernel
theorem dX8_core_10 : decode cX8_core 10 = .ok (.aconst_null, 1) := by decide +kernel
theorem dX8_core_11 : decode cX8_core 11 = .ok (.goto 8, 3) := by decide +kernel
theorem dX8_core_14 : decode cX8_core 14 = .ok (.aload_n 3, 1) := by decide +kernel
theorem dX8_core_15 : decode cX8_core 15 = .ok (.iload_n 2, 1) := by decide +kernel
theorem dX8_core_16 : decode cX8_core 16 = .ok (.invokevirtual 135, 3) := by decide +kernel
theorem dX8_core_19 : decode cX8_core 19 = .ok (.astore 4, 2) := by decide +kernel
theorem dX8_core_21 : decode cX8_core 21 = .ok (.aload_n 3, 1) := by decide +kernel
theorem dX8_core_22 : decode cX8_core 22 = .ok (.ifnull 8, 3) := by decide +kernel
theorem dX8_core_25 : decode cX8_core 25 = .ok (.aload 4, 2) := by decide +kernel
theorem dX8_core_27 : decode cX8_core 27 = .ok (.ifnonnull 13, 3) := by decide +kernel
theorem dX8_core_30 : decode cX8_core 30 = .ok (.new 52, 3) := by decide +kernel
theorem dX8_core_33 : decode cX8_core 33 = .ok (.dup, 1) := by decide +kernel
theorem dX8_core_34 : decode cX8_core 34 = .ok (.ldc 189, 2) := by decide +kernel
theorem dX8_core_36 : decode cX8_core 36 = .ok (.invokespecial 56, 3) := by decide +kernel
theorem dX8_core_39 : decode cX8_core 39 = .ok (.athrow, 1) := by decide +kernel
theorem dX8_core_40 : decode cX8_core 40 = .ok (.aload 4, 2) := by decide +kernel
theorem dX8_core_42 : decode cX8_core 42 = .ok (.getfield 309, 3) := by decide +kernel
theorem dX8_core_45 : decode cX8_core 45 = .ok (.astore 5, 2) := by decide +kernel
theorem dX8_core_47 : decode cX8_core 47 = .ok (.aload 5, 2) := by decide +kernel
theorem dX8_core_49 : decode cX8_core 49 = .ok (.ifnull 11, 3) := by decide +kernel
theorem dX8_core_52 : decode cX8_core 52 = .ok (.aload 5, 2) := by decide +kernel
theorem dX8_core_54 : decode cX8_core 54 = .ok (.getfield 372, 3) := by decide +kernel
theorem dX8_core_57 : decode cX8_core 57 = .ok (.ifCond .eq 14, 3) := by decide +kernel
theorem dX8_core_60 : decode cX8_core 60 = .ok (.new 68, 3) := by decide +kernel
theorem dX8_core_63 : decode cX8_core 63 = .ok (.dup, 1) := by decide +kernel
theorem dX8_core_64 : decode cX8_core 64 = .ok (.ldc_w 375, 3) := by decide +kernel
theorem dX8_core_67 : decode cX8_core 67 = .ok (.invokespecial 72, 3) := by decide +kernel
theorem dX8_core_70 : decode cX8_core 70 = .ok (.athrow, 1) := by decide +kernel
theorem dX8_core_71 : decode cX8_core 71 = .ok (.aload 5, 2) := by decide +kernel
theorem dX8_core_73 : decode cX8_core 73 = .ok (.iconst 1, 1) := by decide +kernel
theorem dX8_core_74 : decode cX8_core 74 = .ok (.putfield 372, 3) := by decide +kernel
theorem dX8_core_77 : decode cX8_core 77 = .ok (.aload_n 0, 1) := by decide +kernel
theorem dX8_core_78 : decode cX8_core 78 = .ok (.aload 5, 2) := by decide +kernel
theorem dX8_core_80 : decode cX8_core 80 = .ok (.getfield 377, 3) := by decide +kernel
theorem dX8_core_83 : decode cX8_core 83 = .ok (.getfield 319, 3) := by decide +kernel
theorem dX8_core_86 : decode cX8_core 86 = .ok (.invokevirtual 381, 3) := by decide +kernel
theorem dX8_core_89 : decode cX8_core 89 = .ok (.aload 5, 2) := by decide +kernel
theorem dX8_core_91 : decode cX8_core 91 = .ok (.getfield 384, 3) := by decide +kernel
theorem dX8_core_94 : decode cX8_core 94 = .ok (.bipush 80, 2) := by decide +kernel
theorem dX8_core_96 : decode cX8_core 96 = .ok (.if_icmp .ge 15, 3) := by decide +kernel
theorem dX8_core_99 : decode cX8_core 99 = .ok (.aload_n 0, 1) := by decide +kernel
theorem dX8_core_100 : decode cX8_core 100 = .ok (.aload 5, 2) := by decide +kernel
theorem dX8_core_102 : decode cX8_core 102 = .ok (.getfield 377, 3) := by decide +kernel
theorem dX8_core_105 : decode cX8_core 105 = .ok (.getfield 319, 3) := by decide +kernel
theorem dX8_core_108 : decode cX8_core 108 = .ok (.invokevirtual 369, 3) := by decide +kernel
theorem dX8_core_111 : decode cX8_core 111 = .ok (.aload 5, 2) := by decide +kernel
theorem dX8_core_113 : decode cX8_core 113 = .ok (.getfield 384, 3) := by decide +kernel
theorem dX8_core_116 : decode cX8_core 116 = .ok (.ireturn, 1) := by decide +kernel
theorem dX8_liable_0 : decode cX8_liable 0 = .ok (.aload_n 0, 1) := by decide +kernel
theorem dX8_liable_1 : decode cX8_liable 1 = .ok (.iload_n 1, 1) := by decide +kernel
theorem dX8_liable_2 : decode cX8_liable 2 = .ok (.invokevirtual 48, 3) := by decide +kernel
theorem dX8_liable_5 : decode cX8_liable 5 = .ok (.astore 4, 2) := by decide +kernel
theorem dX8_liable_7 : decode cX8_liable 7 = .ok (.aload 4, 2) := by decide +kernel
theorem dX8_liable_9 : decode cX8_liable 9 = .ok (.ifnonnull 7, 3) := by decide +kernel
theorem dX8_liable_12 : decode cX8_liable 12 = .ok (.aconst_null, 1) := by decide +kernel
theorem dX8_liable_13 : decode cX8_liable 13 = .ok (.goto 9, 3) := by decide +kernel
theorem dX8_liable_16 : decode cX8_liable 16 = .ok (.aload 4, 2) := by decide +kernel
theorem dX8_liable_18 : decode cX8_liable 18 = .ok (.iload_n 2, 1) := by decide +kernel
theorem dX8_liable_19 : decode cX8_liable 19 = .ok (.invokevirtual 135, 3) := by decide +kernel
theorem dX8_liable_22 : decode cX8_liable 22 = .ok (.astore 5, 2) := by decide +kernel
theorem dX8_liable_24 : decode cX8_liable 24 = .ok (.aload 4, 2) := by decide +kernel
theorem dX8_liable_26 : decode cX8_liable 26 = .ok (.ifnull 8, 3) := by decide +kernel
theorem dX8_liable_29 : decode cX8_liable 29 = .ok (.aload 5, 2) := by decide +kernel
theorem dX8_liable_31 : decode cX8_liable 31 = .ok (.ifnonnull 13, 3) := by decide +kernel
theorem dX8_liable_34 : decode cX8_liable 34 = .ok (.new 52, 3) := by decide +kernel
theorem dX8_liable_37 : decode cX8_liable 37 = .ok (.dup, 1) := by decide +kernel
theorem dX8_liable_38 : decode cX8_liable 38 = .ok (.ldc 189, 2) := by decide +kernel
