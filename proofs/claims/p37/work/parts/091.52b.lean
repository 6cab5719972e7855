theorem dX4_noticeOf_14 : decode cX4_noticeOf 14 = .ok (.bipush 8, 2) := by decide +kernel
theorem dX4_noticeOf_16 : decode cX4_noticeOf 16 = .ok (.goto 13, 3) := by decide +kernel
theorem dX4_noticeOf_19 : decode cX4_noticeOf 19 = .ok (.iload_n 1, 1) := by decide +kernel
theorem dX4_noticeOf_20 : decode cX4_noticeOf 20 = .ok (.iconst 2, 1) := by decide +kernel
theorem dX4_noticeOf_21 : decode cX4_noticeOf 21 = .ok (.if_icmp .ne 7, 3) := by decide +kernel
theorem dX4_noticeOf_24 : decode cX4_noticeOf 24 = .ok (.iconst 3, 1) := by decide +kernel
theorem dX4_noticeOf_25 : decode cX4_noticeOf 25 = .ok (.goto 4, 3) := by decide +kernel
theorem dX4_noticeOf_28 : decode cX4_noticeOf 28 = .ok (.iconst 0, 1) := by decide +kernel
theorem dX4_noticeOf_29 : decode cX4_noticeOf 29 = .ok (.istore_n 2, 1) := by decide +kernel
theorem dX4_noticeOf_30 : decode cX4_noticeOf 30 = .ok (.aload_n 0, 1) := by decide +kernel
theorem dX4_noticeOf_31 : decode cX4_noticeOf 31 = .ok (.getfield 27, 3) := by decide +kernel
theorem dX4_noticeOf_34 : decode cX4_noticeOf 34 = .ok (.iconst 1, 1) := by decide +kernel
theorem dX4_noticeOf_35 : decode cX4_noticeOf 35 = .ok (.if_icmp .gt 9, 3) := by decide +kernel
theorem dX4_noticeOf_38 : decode cX4_noticeOf 38 = .ok (.iconst 2, 1) := by decide +kernel
theorem dX4_noticeOf_39 : decode cX4_noticeOf 39 = .ok (.iload_n 2, 1) := by decide +kernel
theorem dX4_noticeOf_40 : decode cX4_noticeOf 40 = .ok (.imul, 1) := by decide +kernel
theorem dX4_noticeOf_41 : decode cX4_noticeOf 41 = .ok (.goto 4, 3) := by decide +kernel
theorem dX4_noticeOf_44 : decode cX4_noticeOf 44 = .ok (.iload_n 2, 1) := by decide +kernel
theorem dX4_noticeOf_45 : decode cX4_noticeOf 45 = .ok (.ireturn, 1) := by decide +kernel
theorem dX4_sendFlow_0 : decode cX4_sendFlow 0 = .ok (.iconst 0, 1) := by decide +kernel
theorem dX4_sendFlow_1 : decode cX4_sendFlow 1 = .ok (.istore_n 1, 1) := by decide +kernel
theorem dX4_sendFlow_2 : decode cX4_sendFlow 2 = .ok (.aload_n 0, 1) := by decide +kernel
theorem dX4_sendFlow_3 : decode cX4_sendFlow 3 = .ok (.getfield 57, 3) := by decide +kernel
theorem dX4_sendFlow_6 : decode cX4_sendFlow 6 = .ok (.ifCond .eq 30, 3) := by decide +kernel
theorem dX4_sendFlow_9 : decode cX4_sendFlow 9 = .ok (.aload_n 0, 1) := by decide +kernel
theorem dX4_sendFlow_10 : decode cX4_sendFlow 10 = .ok (.getfield 33, 3) := by decide +kernel
theorem dX4_sendFlow_13 : decode cX4_sendFlow 13 = .ok (.ifnull 23, 3) := by decide +kernel
theorem dX4_sendFlow_16 : decode cX4_sendFlow 16 = .ok (.aload_n 0, 1) := by decide +kernel
theorem dX4_sendFlow_17 : decode cX4_sendFlow 17 = .ok (.getfield 30, 3) := by decide +kernel
theorem dX4_sendFlow_20 : decode cX4_sendFlow 20 = .ok (.iconst 2, 1) := by decide +kernel
theorem dX4_sendFlow_21 : decode cX4_sendFlow 21 = .ok (.idiv, 1) := by decide +kernel
theorem dX4_sendFlow_22 : decode cX4_sendFlow 22 = .ok (.istore_n 1, 1) := by decide +kernel
theorem dX4_sendFlow_23 : decode cX4_sendFlow 23 = .ok (.aload_n 0, 1) := by decide +kernel
theorem dX4_sendFlow_24 : decode cX4_sendFlow 24 = .ok (.getfield 33, 3) := by decide +kernel
theorem dX4_sendFlow_27 : decode cX4_sendFlow 27 = .ok (.dup, 1) := by decide +kernel
theorem dX4_sendFlow_28 : decode cX4_sendFlow 28 = .ok (.getfield 60, 3) := by decide +kernel
theorem dX4_sendFlow_31 : decode cX4_sendFlow 31 = .ok (.iload_n 1, 1) := by decide +kernel
theorem dX4_sendFlow_32 : decode cX4_sendFlow 32 = .ok (.iadd, 1) := by decide +kernel
theorem dX4_sendFlow_33 : decode cX4_sendFlow 33 = .ok (.putfield 60, 3) := by decide +kernel
theorem dX4_sendFlow_36 : decode cX4_sendFlow 36 = .ok (.aload_n 0, 1) := by decide +kernel
theorem dX4_sendFlow_37 : decode cX4_sendFlow 37 = .ok (.dup, 1) := by decide +kernel
theorem dX4_sendFlow_38 : decode cX4_sendFlow 38 = .ok (.getfield 60, 3) := by decide +kernel
theorem dX4_sendFlow_41 : decode cX4_sendFlow 41 = .ok (.aload_n 0, 1) := by decide +kernel
theorem dX4_sendFlow_42 : decode cX4_sendFlow 42 = .ok (.getfield 30, 3) := by decide +kernel
theorem dX4_sendFlow_45 : decode cX4_sendFlow 45 = .ok (.iload_n 1, 1) := by decide +kernel
theorem dX4_sendFlow_46 : decode cX4_sendFlow 46 = .ok (.isub, 1) := by decide +kernel
theorem dX4_sendFlow_47 : decode cX4_sendFlow 47 = .ok (.iadd, 1) := by decide +kernel
theorem dX4_sendFlow_48 : decode cX4_sendFlow 48 = .ok (.putfield 60, 3) := by decide +kernel
theorem dX4_sendFlow_51 : decode cX4_sendFlow 51 = .ok (.return_, 1) := by decide +kernel
theorem dX4_letThrough_0 : decode cX4_letThrough 0 = .ok (.bipush 100, 2) := by decide +kernel
theorem dX4_letThrough_2 : decode cX4_letThrough 2 = .ok (.bipush 40, 2) := by decide +kernel
theorem dX4_letThrough_4 : decode cX4_letThrough 4 = .ok (.iconst 3, 1) := by decide +kernel
theorem dX4_letThrough_5 : decode cX4_letThrough 5 = .ok (.aload_n 0, 1) := by decide +kernel
theorem dX4_letThrough_6 : decode cX4_letThrough 6 = .ok (.getfield 27, 3) := by decide +kernel
theorem dX4_letThrough_9 : decode cX4_letThrough 9 = .ok (.isub, 1) := by decide +kernel
theorem dX4_letThrough_10 : decode cX4_letThrough 10 = .ok (.imul, 1) := by decide +kernel
theorem dX4_letThrough_11 : decode cX4_letThrough 11 = .ok (.iadd, 1) := by decide +kernel
theorem dX4_letThrough_12 : decode cX4_letThrough 12 = .ok (.istore_n 1, 1) := by decide +kernel
theorem dX4_letThrough_13 : decode cX4_letThrough 13 = .ok (.aload_n 0, 1) := by decide +kernel
theorem dX4_letThrough_14 : decode cX4_letThrough 14 = .ok (.getfield 57, 3) := by decide +kernel
theorem dX4_letThrough_17 : decode cX4_letThrough 17 = .ok (.ifCond .eq 7, 3) := by decide +kernel
theorem dX4_letThrough_20 : decode cX4_letThrough 20 = .ok (.iload_n 1, 1) := by decide +kernel
theorem dX4_letThrough_21 : decode cX4_letThrough 21 = .ok (.iconst 2, 1) := by decide +kernel
theorem dX4_letThrough_22 : decode cX4_letThrough 22 = .ok (.idiv, 1) := by decide +kernel
theorem dX4_letThrough_23 : decode cX4_letThrough 23 = .ok (.istore_n 1, 1) := by decide +kernel
theorem dX4_letThrough_24 : decode cX4_letThrough 24 = .ok (.aload_n 0, 1) := by decide +kernel
theorem dX4_letThrough_25 : decode cX4_letThrough 25 = .ok (.aload_n 0, 1) := by decide +kernel
theorem dX4_letThrough_26 : decode cX4_letThrough 26 = .ok (.getfield 63, 3) := by decide +kernel
theorem dX4_letThrough_29 : decode cX4_letThrough 29 = .ok (.aload_n 0, 1) := by decide +kernel
theorem dX4_letThrough_30 : decode cX4_letThrough 30 = .ok (.getfield 60, 3) := by decide +kernel
theorem dX4_letThrough_33 : decode cX4_letThrough 33 = .ok (.iadd, 1) := by decide +kernel
theorem dX4_letThrough_34 : decode cX4_letThrough 34 = .ok (.iload_n 1, 1) := by decide +kernel
theorem dX4_letThrough_35 : decode cX4_letThrough 35 = .ok (.isub, 1) := by decide +kernel
theorem dX4_letThrough_36 : decode cX4_letThrough 36 = .ok (.iconst 0, 1) := by decide +kernel
theorem dX4_letThrough_37 : decode cX4_letThrough 37 = .ok (.invokestatic 37, 3) := by decide +kernel
theorem dX4_letThrough_40 : decode cX4_letThrough 40 = .ok (.putfield 63, 3) := by decide +kernel
theorem dX4_letThrough_43 : decode cX4_letThrough 43 = .ok (.aload_n 0, 1) := by decide +kernel
theorem dX4_letThrough_44 : decode cX4_letThrough 44 = .ok (.iconst 0, 1) := by decide +kernel
theorem dX4_letThrough_45 : decode cX4_letThrough 45 = .ok (.putfield 60, 3) := by decide +kernel
theorem dX4_letThrough_48 : decode cX4_letThrough 48 = .ok (.return_, 1) := by decide +kernel
theorem dX5_init_0 : decode cX5_init 0 = .ok (.aload_n 0, 1) := by decide +kernel
theorem dX5_init_1 : decode cX5_init 1 = .ok (.invokespecial 1, 3) := by decide +kernel
theorem dX5_init_4 : decode cX5_init 4 = .ok (.aload_n 0, 1) := by decide +kernel
theorem dX5_init_5 : decode cX5_init 5 = .ok (.aload_n 1, 1) := by decide +kernel
theorem dX5_init_6 : decode cX5_init 6 = .ok (.putfield 7, 3) := by decide +kernel
theorem dX5_init_9 : decode cX5_init 9 = .ok (.aload_n 0, 1) := by decide +kernel
theorem dX5_init_10 : decode cX5_init 10 = .ok (.iload_n 2, 1) := by decide +kernel
theorem dX5_init_11 : decode cX5_init 11 = .ok (.putfield 13, 3) := by decide +kernel
theorem dX5_init_14 : decode cX5_init 14 = .ok (.aload_n 0, 1) := by decide +kernel
theorem dX5_init_15 : decode cX5_init 15 = .ok (.aload_n 3, 1) := by decide +kernel
theorem dX5_init_16 : decode cX5_init 16 = .ok (.putfield 17, 3) := by decide +kernel
theorem dX5_init_19 : decode cX5_init 19 = .ok (.aload_n 0, 1) := by decide +kernel
theorem dX5_init_20 : decode cX5_init 20 = .ok (.iload 4, 2) := by decide +kernel
theorem dX5_init_22 : decode cX5_init 22 = .ok (.putfield 21, 3) := by decide +kernel
theorem dX5_init_25 : decode cX5_init 25 = .ok (.return_, 1) := by decide +kernel
theorem dX5_isFillOf_0 : decode cX5_isFillOf 0 = .ok (.aload_n 0, 1) := by decide +kernel
theorem dX5_isFillOf_1 : decode cX5_isFillOf 1 = .ok (.getfield 17, 3) := by decide +kernel
theorem dX5_isFillOf_4 : decode cX5_isFillOf 4 = .ok (.ifnull 23, 3) := by decide +kernel
theorem dX5_isFillOf_7 : decode cX5_isFillOf 7 = .ok (.aload_n 0, 1) := by decide +kernel
theorem dX5_isFillOf_8 : decode cX5_isFillOf 8 = .ok (.getfield 7, 3) := by decide +kernel
theorem dX5_isFillOf_11 : decode cX5_isFillOf 11 = .ok (.aload_n 1, 1) := by decide +kernel
theorem dX5_isFillOf_12 : decode cX5_isFillOf 12 = .ok (.if_acmp .ne 15, 3) := by decide +kernel
theorem dX5_isFillOf_15 : decode cX5_isFillOf 15 = .ok (.aload_n 0, 1) := by decide +kernel
theorem dX5_isFillOf_16 : decode cX5_isFillOf 16 = .ok (.getfield 13, 3) := by decide +kernel
theorem dX5_isFillOf_19 : decode cX5_isFillOf 19 = .ok (.iload_n 2, 1) := by decide +kernel
theorem dX5_isFillOf_20 : decode cX5_isFillOf 20 = .ok (.if_icmp .ne 7, 3) := by decide +kernel
theorem dX5_isFillOf_23 : decode cX5_isFillOf 23 = .ok (.iconst 1, 1) := by decide +kernel
theorem dX5_isFillOf_24 : decode cX5_isFillOf 24 = .ok (.goto 4, 3) := by decide +kernel
theorem dX5_isFillOf_27 : decode cX5_isFillOf 27 = .ok (.iconst 0, 1) := by decide +kernel
theorem dX5_isFillOf_28 : decode cX5_isFillOf 28 = .ok (.ireturn, 1) := by decide +kernel
theorem dX5_isSurfaceOf_0 : decode cX5_isSurfaceOf 0 = .ok (.aload_n 0, 1) := by decide +kernel
theorem dX5_isSurfaceOf_1 : decode cX5_isSurfaceOf 1 = .ok (.getfield 17, 3) := by decide +kernel
theorem dX5_isSurfaceOf_4 : decode cX5_isSurfaceOf 4 = .ok (.ifnonnull 15, 3) := by decide +kernel
theorem dX5_isSurfaceOf_7 : decode cX5_isSurfaceOf 7 = .ok (.aload_n 0, 1) := by decide +kernel
theorem dX5_isSurfaceOf_8 : decode cX5_isSurfaceOf 8 = .ok (.getfield 7, 3) := by decide +kernel
theorem dX5_isSurfaceOf_11 : decode cX5_isSurfaceOf 11 = .ok (.aload_n 1, 1) := by decide +kernel
theorem dX5_isSurfaceOf_12 : decode cX5_isSurfaceOf 12 = .ok (.if_acmp .ne 7, 3) := by decide +kernel
theorem dX5_isSurfaceOf_15 : decode cX5_isSurfaceOf 15 = .ok (.iconst 1, 1) := by decide +kernel
theorem dX5_isSurfaceOf_16 : decode cX5_isSurfaceOf 16 = .ok (.goto 4, 3) := by decide +kernel
theorem dX5_isSurfaceOf_19 : decode cX5_isSurfaceOf 19 = .ok (.iconst 0, 1) := by decide +kernel
theorem dX5_isSurfaceOf_20 : decode cX5_isSurfaceOf 20 = .ok (.ireturn, 1) := by decide +kernel
theorem dX6_init_0 : decode cX6_init 0 = .ok (.aload_n 0, 1) := by decide +kernel
theorem dX6_init_1 : decode cX6_init 1 = .ok (.invokespecial 1, 3) := by decide +kernel
theorem dX6_init_4 : decode cX6_init 4 = .ok (.aload_n 0, 1) := by decide +kernel
theorem dX6_init_5 : decode cX6_init 5 = .ok (.iload_n 1, 1) := by decide +kernel
theorem dX6_init_6 : decode cX6_init 6 = .ok (.putfield 7, 3) := by decide +kernel
theorem dX6_init_9 : decode cX6_init 9 = .ok (.aload_n 0, 1) := by decide +kernel
theorem dX6_init_10 : decode cX6_init 10 = .ok (.aload_n 2, 1) := by decide +kernel
theorem dX6_init_11 : decode cX6_init 11 = .ok (.putfield 13, 3) := by decide +kernel
theorem dX6_init_14 : decode cX6_init 14 = .ok (.aload_n 0, 1) := by decide +kernel
theorem dX6_init_15 : decode cX6_init 15 = .ok (.iload_n 3, 1) := by decide +kernel
theorem dX6_init_16 : decode cX6_init 16 = .ok (.putfield 17, 3) := by decide +kernel
theorem dX6_init_19 : decode cX6_init 19 = .ok (.aload_n 0, 1) := by decide +kernel
theorem dX6_init_20 : decode cX6_init 20 = .ok (.iload 4, 2) := by decide +kernel
theorem dX6_init_22 : decode cX6_init 22 = .ok (.putfield 20, 3) := by decide +kernel
theorem dX6_init_25 : decode cX6_init 25 = .ok (.aload_n 0, 1) := by decide +kernel
theorem dX6_init_26 : decode cX6_init 26 = .ok (.iload 5, 2) := by decide +kernel
theorem dX6_init_28 : decode cX6_init 28 = .ok (.putfield 23, 3) := by decide +kernel
theorem dX6_init_31 : decode cX6_init 31 = .ok (.return_, 1) := by decide +kernel
theorem dX6_putRecord_0 : decode cX6_putRecord 0 = .ok (.aload_n 0, 1) := by decide +kernel
theorem dX6_putRecord_1 : decode cX6_putRecord 1 = .ok (.iconst 1, 1) := by decide +kernel
theorem dX6_putRecord_2 : decode cX6_putRecord 2 = .ok (.putfield 26, 3) := by decide +kernel
theorem dX6_putRecord_5 : decode cX6_putRecord 5 = .ok (.aload_n 0, 1) := by decide +kernel
theorem dX6_putRecord_6 : decode cX6_putRecord 6 = .ok (.iload_n 1, 1) := by decide +kernel
theorem dX6_putRecord_7 : decode cX6_putRecord 7 = .ok (.iload_n 3, 1) := by decide +kernel
theorem dX6_putRecord_8 : decode cX6_putRecord 8 = .ok (.isub, 1) := by decide +kernel
theorem dX6_putRecord_9 : decode cX6_putRecord 9 = .ok (.iconst 0, 1) := by decide +kernel
theorem dX6_putRecord_10 : decode cX6_putRecord 10 = .ok (.invokestatic 30, 3) := by decide +kernel
theorem dX6_putRecord_13 : decode cX6_putRecord 13 = .ok (.putfield 36, 3) := by decide +kernel
theorem dX6_putRecord_16 : decode cX6_putRecord 16 = .ok (.aload_n 0, 1) := by decide +kernel
theorem dX6_putRecord_17 : decode cX6_putRecord 17 = .ok (.iload_n 2, 1) := by decide +kernel
theorem dX6_putRecord_18 : decode cX6_putRecord 18 = .ok (.iload_n 3, 1) := by decide +kernel
theorem dX6_putRecord_19 : decode cX6_putRecord 19 = .ok (.iadd, 1) := by decide +kernel
theorem dX6_putRecord_20 : decode cX6_putRecord 20 = .ok (.aload_n 0, 1) := by decide +kernel
theorem dX6_putRecord_21 : decode cX6_putRecord 21 = .ok (.getfield 13, 3) := by decide +kernel
theorem dX6_putRecord_24 : decode cX6_putRecord 24 = .ok (.getfield 39, 3) := by decide +kernel
theorem dX6_putRecord_27 : decode cX6_putRecord 27 = .ok (.arraylength, 1) := by decide +kernel
theorem dX6_putRecord_28 : decode cX6_putRecord 28 = .ok (.iconst 1, 1) := by decide +kernel
theorem dX6_putRecord_29 : decode cX6_putRecord 29 = .ok (.isub, 1) := by decide +kernel
theorem dX6_putRecord_30 : decode cX6_putRecord 30 = .ok (.invokestatic 45, 3) := by decide +kernel
theorem dX6_putRecord_33 : decode cX6_putRecord 33 = .ok (.putfield 48, 3) := by decide +kernel
theorem dX6_putRecord_36 : decode cX6_putRecord 36 = .ok (.return_, 1) := by decide +kernel
theorem dX6_suspectMetres_0 : decode cX6_suspectMetres 0 = .ok (.aload_n 0, 1) := by decide +kernel
theorem dX6_suspectMetres_1 : decode cX6_suspectMetres 1 = .ok (.getfield 26, 3) := by decide +kernel
theorem dX6_suspectMetres_4 : decode cX6_suspectMetres 4 = .ok (.ifCond .eq 17, 3) := by decide +kernel
theorem dX6_suspectMetres_7 : decode cX6_suspectMetres 7 = .ok (.aload_n 0, 1) := by decide +kernel
theorem dX6_suspectMetres_8 : decode cX6_suspectMetres 8 = .ok (.getfield 48, 3) := by decide +kernel
theorem dX6_suspectMetres_11 : decode cX6_suspectMetres 11 = .ok (.aload_n 0, 1) := by decide +kernel
theorem dX6_suspectMetres_12 : decode cX6_suspectMetres 12 = .ok (.getfield 36, 3) := by decide +kernel
theorem dX6_suspectMetres_15 : decode cX6_suspectMetres 15 = .ok (.isub, 1) := by decide +kernel
theorem dX6_suspectMetres_16 : decode cX6_suspectMetres 16 = .ok (.iconst 1, 1) := by decide +kernel
theorem dX6_suspectMetres_17 : decode cX6_suspectMetres 17 = .ok (.iadd, 1) := by decide +kernel
theorem dX6_suspectMetres_18 : decode cX6_suspectMetres 18 = .ok (.goto 4, 3) := by decide +kernel
theorem dX6_suspectMetres_21 : decode cX6_suspectMetres 21 = .ok (.iconst 0, 1) := by decide +kernel
theorem dX6_suspectMetres_22 : decode cX6_suspectMetres 22 = .ok (.ireturn, 1) := by decide +kernel
theorem dX6_liesAt_0 : decode cX6_liesAt 0 = .ok (.aload_n 0, 1) := by decide +kernel
theorem dX6_liesAt_1 : decode cX6_liesAt 1 = .ok (.getfield 13, 3) := by decide +kernel
theorem dX6_liesAt_4 : decode cX6_liesAt 4 = .ok (.aload_n 1, 1) := by decide +kernel
theorem dX6_liesAt_5 : decode cX6_liesAt 5 = .ok (.if_acmp .ne 23, 3) := by decide +kernel
theorem dX6_liesAt_8 : decode cX6_liesAt 8 = .ok (.aload_n 0, 1) := by decide +kernel
theorem dX6_liesAt_9 : decode cX6_liesAt 9 = .ok (.getfield 17, 3) := by decide +kernel
theorem dX6_liesAt_12 : decode cX6_liesAt 12 = .ok (.iload_n 2, 1) := by decide +kernel
theorem dX6_liesAt_13 : decode cX6_liesAt 13 = .ok (.if_icmp .gt 15, 3) := by decide +kernel
theorem dX6_liesAt_16 : decode cX6_liesAt 16 = .ok (.iload_n 2, 1) := by decide +kernel
theorem dX6_liesAt_17 : decode cX6_liesAt 17 = .ok (.aload_n 0, 1) := by decide +kernel
theorem dX6_liesAt_18 : decode cX6_liesAt 18 = .ok (.getfield 20, 3) := by decide +kernel
theorem dX6_liesAt_21 : decode cX6_liesAt 21 = .ok (.if_icmp .gt 7, 3) := by decide +kernel
theorem dX6_liesAt_24 : decode cX6_liesAt 24 = .ok (.iconst 1, 1) := by decide +kernel
theorem dX6_liesAt_25 : decode cX6_liesAt 25 = .ok (.goto 4, 3) := by decide +kernel
theorem dX6_liesAt_28 : decode cX6_liesAt 28 = .ok (.iconst 0, 1) := by decide +kernel
theorem dX6_liesAt_29 : decode cX6_liesAt 29 = .ok (.ireturn, 1) := by decide +kernel
theorem dX6_liesInSureMetre_0 : decode cX6_liesInSureMetre 0 = .ok (.aload_n 0, 1) := by decide +kernel
theorem dX6_liesInSureMetre_1 : decode cX6_liesInSureMetre 1 = .ok (.getfield 17, 3) := by decide +kernel
theorem dX6_liesInSureMetre_4 : decode cX6_liesInSureMetre 4 = .ok (.istore_n 1, 1) := by decide +kernel
theorem dX6_liesInSureMetre_5 : decode cX6_liesInSureMetre 5 = .ok (.iload_n 1, 1) := by decide +kernel
theorem dX6_liesInSureMetre_6 : decode cX6_liesInSureMetre 6 = .ok (.aload_n 0, 1) := by decide +kernel
theorem dX6_liesInSureMetre_7 : decode cX6_liesInSureMetre 7 = .ok (.getfield 20, 3) := by decide +kernel
theorem dX6_liesInSureMetre_10 : decode cX6_liesInSureMetre 10 = .ok (.if_icmp .gt 31, 3) := by decide +kernel
theorem dX6_liesInSureMetre_13 : decode cX6_liesInSureMetre 13 = .ok (.aload_n 0, 1) := by decide +kernel
theorem dX6_liesInSureMetre_14 : decode cX6_liesInSureMetre 14 = .ok (.getfield 13, 3) := by decide +kernel
theorem dX6_liesInSureMetre_17 : decode cX6_liesInSureMetre 17 = .ok (.iload_n 1, 1) := by decide +kernel
theorem dX6_liesInSureMetre_18 : decode cX6_liesInSureMetre 18 = .ok (.invokevirtual 51, 3) := by decide +kernel
theorem dX6_liesInSureMetre_21 : decode cX6_liesInSureMetre 21 = .ok (.astore_n 2, 1) := by decide +kernel
theorem dX6_liesInSureMetre_22 : decode cX6_liesInSureMetre 22 = .ok (.aload_n 2, 1) := by decide +kernel
theorem dX6_liesInSureMetre_23 : decode cX6_liesInSureMetre 23 = .ok (.ifnull 12, 3) := by decide +kernel
theorem dX6_liesInSureMetre_26 : decode cX6_liesInSureMetre 26 = .ok (.aload_n 2, 1) := by decide +kernel
theorem dX6_liesInSureMetre_27 : decode cX6_liesInSureMetre 27 = .ok (.getfield 55, 3) := by decide +kernel
theorem dX6_liesInSureMetre_30 : decode cX6_liesInSureMetre 30 = .ok (.ifCond .eq 5, 3) := by decide +kernel
theorem dX6_liesInSureMetre_33 : decode cX6_liesInSureMetre 33 = .ok (.iconst 1, 1) := by decide +kernel
theorem dX6_liesInSureMetre_34 : decode cX6_liesInSureMetre 34 = .ok (.ireturn, 1) := by decide +kernel
theorem dX6_liesInSureMetre_35 : decode cX6_liesInSureMetre 35 = .ok (.iinc 1 1, 3) := by decide +kernel
theorem dX6_liesInSureMetre_38 : decode cX6_liesInSureMetre 38 = .ok (.goto (-33), 3) := by decide +kernel
theorem dX6_liesInSureMetre_41 : decode cX6_liesInSureMetre 41 = .ok (.iconst 0, 1) := by decide +kernel
theorem dX6_liesInSureMetre_42 : decode cX6_liesInSureMetre 42 = .ok (.ireturn, 1) := by decide +kernel
theorem dX7_init_0 : decode cX7_init 0 = .ok (.aload_n 0, 1) := by decide +kernel
theorem dX7_init_1 : decode cX7_init 1 = .ok (.invokespecial 3, 3) := by decide +kernel
theorem dX7_init_4 : decode cX7_init 4 = .ok (.aload_n 0, 1) := by decide +kernel
theorem dX7_init_5 : decode cX7_init 5 = .ok (.iload_n 1, 1) := by decide +kernel
theorem dX7_init_6 : decode cX7_init 6 = .ok (.putfield 9, 3) := by decide +kernel
theorem dX7_init_9 : decode cX7_init 9 = .ok (.aload_n 0, 1) := by decide +kernel
theorem dX7_init_10 : decode cX7_init 10 = .ok (.iload_n 2, 1) := by decide +kernel
theorem dX7_init_11 : decode cX7_init 11 = .ok (.putfield 15, 3) := by decide +kernel
theorem dX7_init_14 : decode cX7_init 14 = .ok (.aload_n 0, 1) := by decide +kernel
theorem dX7_init_15 : decode cX7_init 15 = .ok (.aload_n 3, 1) := by decide +kernel
theorem dX7_init_16 : decode cX7_init 16 = .ok (.putfield 18, 3) := by decide +kernel
theorem dX7_init_19 : decode cX7_init 19 = .ok (.aload_n 0, 1) := by decide +kernel
theorem dX7_init_20 : decode cX7_init 20 = .ok (.iload 4, 2) := by decide +kernel
theorem dX7_init_22 : decode cX7_init 22 = .ok (.putfield 22, 3) := by decide +kernel
theorem dX7_init_25 : decode cX7_init 25 = .ok (.aload_n 0, 1) := by decide +kernel
theorem dX7_init_26 : decode cX7_init 26 = .ok (.iload 5, 2) := by decide +kernel
theorem dX7_init_28 : decode cX7_init 28 = .ok (.putfield 25, 3) := by decide +kernel
theorem dX7_init_31 : decode cX7_init 31 = .ok (.aload_n 0, 1) := by decide +kernel
theorem dX7_init_32 : decode cX7_init 32 = .ok (.iload 4, 2) := by decide +kernel
theorem dX7_init_34 : decode cX7_init 34 = .ok (.iconst 3, 1) := by decide +kernel
theorem dX7_init_35 : decode cX7_init 35 = .ok (.if_icmp .ne 7, 3) := by decide +kernel
theorem dX7_init_38 : decode cX7_init 38 = .ok (.iconst 1, 1) := by decide +kernel
theorem dX7_init_39 : decode cX7_init 39 = .ok (.goto 4, 3) := by decide +kernel
theorem dX7_init_42 : decode cX7_init 42 = .ok (.iconst 0, 1) := by decide +kernel
theorem dX7_init_43 : decode cX7_init 43 = .ok (.putfield 28, 3) := by decide +kernel
theorem dX7_init_46 : decode cX7_init 46 = .ok (.return_, 1) := by decide +kernel
theorem dX7_placeAt_0 : decode cX7_placeAt 0 = .ok (.aload_n 0, 1) := by decide +kernel
theorem dX7_placeAt_1 : decode cX7_placeAt 1 = .ok (.iload_n 1, 1) := by decide +kernel
theorem dX7_placeAt_2 : decode cX7_placeAt 2 = .ok (.putfield 31, 3) := by decide +kernel
theorem dX7_placeAt_5 : decode cX7_placeAt 5 = .ok (.aload_n 0, 1) := by decide +kernel
theorem dX7_placeAt_6 : decode cX7_placeAt 6 = .ok (.iload_n 2, 1) := by decide +kernel
theorem dX7_placeAt_7 : decode cX7_placeAt 7 = .ok (.putfield 34, 3) := by decide +kernel
theorem dX7_placeAt_10 : decode cX7_placeAt 10 = .ok (.aload_n 0, 1) := by decide +kernel
theorem dX7_placeAt_11 : decode cX7_placeAt 11 = .ok (.iload_n 3, 1) := by decide +kernel
theorem dX7_placeAt_12 : decode cX7_placeAt 12 = .ok (.putfield 37, 3) := by decide +kernel
theorem dX7_placeAt_15 : decode cX7_placeAt 15 = .ok (.return_, 1) := by decide +kernel
theorem dX7_planFor_0 : decode cX7_planFor 0 = .ok (.aload_n 0, 1) := by decide +kernel
theorem dX7_planFor_1 : decode cX7_planFor 1 = .ok (.iload_n 1, 1) := by decide +kernel
theorem dX7_planFor_2 : decode cX7_planFor 2 = .ok (.putfield 40, 3) := by decide +kernel
theorem dX7_planFor_5 : decode cX7_planFor 5 = .ok (.aload_n 0, 1) := by decide +kernel
theorem dX7_planFor_6 : decode cX7_planFor 6 = .ok (.iload_n 1, 1) := by decide +kernel
theorem dX7_planFor_7 : decode cX7_planFor 7 = .ok (.iload_n 2, 1) := by decide +kernel
theorem dX7_planFor_8 : decode cX7_planFor 8 = .ok (.iadd, 1) := by decide +kernel
theorem dX7_planFor_9 : decode cX7_planFor 9 = .ok (.iconst 1, 1) := by decide +kernel
theorem dX7_planFor_10 : decode cX7_planFor 10 = .ok (.isub, 1) := by decide +kernel
theorem dX7_planFor_11 : decode cX7_planFor 11 = .ok (.putfield 43, 3) := by decide +kernel
theorem dX7_planFor_14 : decode cX7_planFor 14 = .ok (.return_, 1) := by decide +kernel
theorem dX7_bit_0 : decode cX7_bit 0 = .ok (.iconst 1, 1) := by decide +kernel
theorem dX7_bit_1 : decode cX7_bit 1 = .ok (.aload_n 0, 1) := by decide +kernel
theorem dX7_bit_2 : decode cX7_bit 2 = .ok (.getfield 9, 3) := by decide +kernel
theorem dX7_bit_5 : decode cX7_bit 5 = .ok (.ishl, 1) := by decide +kernel
theorem dX7_bit_6 : decode cX7_bit 6 = .ok (.ireturn, 1) := by decide +kernel
theorem dX7_agreesWith_0 : decode cX7_agreesWith 0 = .ok (.aload_n 0, 1) := by decide +kernel
theorem dX7_agreesWith_1 : decode cX7_agreesWith 1 = .ok (.getfield 46, 3) := by decide +kernel
theorem dX7_agreesWith_4 : decode cX7_agreesWith 4 = .ok (.aload_n 1, 1) := by decide +kernel
theorem dX7_agreesWith_5 : decode cX7_agreesWith 5 = .ok (.invokevirtual 49, 3) := by decide +kernel
theorem dX7_agreesWith_8 : decode cX7_agreesWith 8 = .ok (.iand, 1) := by decide +kernel
theorem dX7_agreesWith_9 : decode cX7_agreesWith 9 = .ok (.ifCond .eq 7, 3) := by decide +kernel
theorem dX7_agreesWith_12 : decode cX7_agreesWith 12 = .ok (.iconst 1, 1) := by decide +kernel
theorem dX7_agreesWith_13 : decode cX7_agreesWith 13 = .ok (.goto 4, 3) := by decide +kernel
theorem dX7_agreesWith_16 : decode cX7_agreesWith 16 = .ok (.iconst 0, 1) := by decide +kernel
theorem dX7_agreesWith_17 : decode cX7_agreesWith 17 = .ok (.ireturn, 1) := by decide +kernel
theorem dX7_isStanding_0 : decode cX7_isStanding 0 = .ok (.aload_n 0, 1) := by decide +kernel
theorem dX7_isStanding_1 : decode cX7_isStanding 1 = .ok (.getfield 28, 3) := by decide +kernel
theorem dX7_isStanding_4 : decode cX7_isStanding 4 = .ok (.iconst 1, 1) := by decide +kernel
theorem dX7_isStanding_5 : decode cX7_isStanding 5 = .ok (.if_icmp .eq 11, 3) := by decide +kernel
theorem dX7_isStanding_8 : decode cX7_isStanding 8 = .ok (.aload_n 0, 1) := by decide +kernel
theorem dX7_isStanding_9 : decode cX7_isStanding 9 = .ok (.getfield 28, 3) := by decide +kernel
theorem dX7_isStanding_12 : decode cX7_isStanding 12 = .ok (.iconst 3, 1) := by decide +kernel
