theorem d_Bl_join_17 : decode b_Bl_join 17 = .ok (.ifCond .eq 47, 3) := by decide +kernel
theorem d_Bl_join_20 : decode b_Bl_join 20 = .ok (.aload_n 0, 1) := by decide +kernel
theorem d_Bl_join_21 : decode b_Bl_join 21 = .ok (.getfield 19, 3) := by decide +kernel
theorem d_Bl_join_24 : decode b_Bl_join 24 = .ok (.iload_n 2, 1) := by decide +kernel
theorem d_Bl_join_25 : decode b_Bl_join 25 = .ok (.iaload, 1) := by decide +kernel
theorem d_Bl_join_26 : decode b_Bl_join 26 = .ok (.istore_n 3, 1) := by decide +kernel
theorem d_Bl_join_27 : decode b_Bl_join 27 = .ok (.aload_n 0, 1) := by decide +kernel
theorem d_Bl_join_28 : decode b_Bl_join 28 = .ok (.getfield 19, 3) := by decide +kernel
theorem d_Bl_join_31 : decode b_Bl_join 31 = .ok (.iload_n 1, 1) := by decide +kernel
theorem d_Bl_join_32 : decode b_Bl_join 32 = .ok (.iload_n 3, 1) := by decide +kernel
theorem d_Bl_join_33 : decode b_Bl_join 33 = .ok (.iastore, 1) := by decide +kernel
theorem d_Bl_join_34 : decode b_Bl_join 34 = .ok (.aload_n 0, 1) := by decide +kernel
theorem d_Bl_join_35 : decode b_Bl_join 35 = .ok (.getfield 14, 3) := by decide +kernel
theorem d_Bl_join_38 : decode b_Bl_join 38 = .ok (.iload_n 3, 1) := by decide +kernel
theorem d_Bl_join_39 : decode b_Bl_join 39 = .ok (.bipush 31, 2) := by decide +kernel
theorem d_Bl_join_41 : decode b_Bl_join 41 = .ok (.invokevirtual 80, 3) := by decide +kernel
theorem d_Bl_join_44 : decode b_Bl_join 44 = .ok (.aload_n 0, 1) := by decide +kernel
theorem d_Bl_join_45 : decode b_Bl_join 45 = .ok (.getfield 23, 3) := by decide +kernel
theorem d_Bl_join_48 : decode b_Bl_join 48 = .ok (.aload_n 0, 1) := by decide +kernel
theorem d_Bl_join_49 : decode b_Bl_join 49 = .ok (.getfield 40, 3) := by decide +kernel
theorem d_Bl_join_52 : decode b_Bl_join 52 = .ok (.iload_n 2, 1) := by decide +kernel
theorem d_Bl_join_53 : decode b_Bl_join 53 = .ok (.iastore, 1) := by decide +kernel
theorem d_Bl_join_54 : decode b_Bl_join 54 = .ok (.aload_n 0, 1) := by decide +kernel
theorem d_Bl_join_55 : decode b_Bl_join 55 = .ok (.dup, 1) := by decide +kernel
theorem d_Bl_join_56 : decode b_Bl_join 56 = .ok (.getfield 40, 3) := by decide +kernel
theorem d_Bl_join_59 : decode b_Bl_join 59 = .ok (.iconst 1, 1) := by decide +kernel
theorem d_Bl_join_60 : decode b_Bl_join 60 = .ok (.iadd, 1) := by decide +kernel
theorem d_Bl_join_61 : decode b_Bl_join 61 = .ok (.putfield 40, 3) := by decide +kernel
theorem d_Bl_join_64 : decode b_Bl_join 64 = .ok (.return_, 1) := by decide +kernel
theorem d_Bl_isAllAlike_0 : decode b_Bl_isAllAlike 0 = .ok (.aload_n 0, 1) := by decide +kernel
theorem d_Bl_isAllAlike_1 : decode b_Bl_isAllAlike 1 = .ok (.getfield 19, 3) := by decide +kernel
theorem d_Bl_isAllAlike_4 : decode b_Bl_isAllAlike 4 = .ok (.iload_n 1, 1) := by decide +kernel
theorem d_Bl_isAllAlike_5 : decode b_Bl_isAllAlike 5 = .ok (.iaload, 1) := by decide +kernel
theorem d_Bl_isAllAlike_6 : decode b_Bl_isAllAlike 6 = .ok (.istore_n 2, 1) := by decide +kernel
theorem d_Bl_isAllAlike_7 : decode b_Bl_isAllAlike 7 = .ok (.iload_n 2, 1) := by decide +kernel
theorem d_Bl_isAllAlike_8 : decode b_Bl_isAllAlike 8 = .ok (.ifCond .ge 5, 3) := by decide +kernel
theorem d_Bl_isAllAlike_11 : decode b_Bl_isAllAlike 11 = .ok (.iconst 0, 1) := by decide +kernel
theorem d_Bl_isAllAlike_12 : decode b_Bl_isAllAlike 12 = .ok (.ireturn, 1) := by decide +kernel
theorem d_Bl_isAllAlike_13 : decode b_Bl_isAllAlike 13 = .ok (.iconst 1, 1) := by decide +kernel
theorem d_Bl_isAllAlike_14 : decode b_Bl_isAllAlike 14 = .ok (.istore_n 3, 1) := by decide +kernel
theorem d_Bl_isAllAlike_15 : decode b_Bl_isAllAlike 15 = .ok (.iload_n 3, 1) := by decide +kernel
theorem d_Bl_isAllAlike_16 : decode b_Bl_isAllAlike 16 = .ok (.bipush 32, 2) := by decide +kernel
theorem d_Bl_isAllAlike_18 : decode b_Bl_isAllAlike 18 = .ok (.if_icmp .ge 23, 3) := by decide +kernel
theorem d_Bl_isAllAlike_21 : decode b_Bl_isAllAlike 21 = .ok (.aload_n 0, 1) := by decide +kernel
theorem d_Bl_isAllAlike_22 : decode b_Bl_isAllAlike 22 = .ok (.getfield 19, 3) := by decide +kernel
theorem d_Bl_isAllAlike_25 : decode b_Bl_isAllAlike 25 = .ok (.iload_n 1, 1) := by decide +kernel
theorem d_Bl_isAllAlike_26 : decode b_Bl_isAllAlike 26 = .ok (.iload_n 3, 1) := by decide +kernel
theorem d_Bl_isAllAlike_27 : decode b_Bl_isAllAlike 27 = .ok (.iadd, 1) := by decide +kernel
theorem d_Bl_isAllAlike_28 : decode b_Bl_isAllAlike 28 = .ok (.iaload, 1) := by decide +kernel
theorem d_Bl_isAllAlike_29 : decode b_Bl_isAllAlike 29 = .ok (.iload_n 2, 1) := by decide +kernel
theorem d_Bl_isAllAlike_30 : decode b_Bl_isAllAlike 30 = .ok (.if_icmp .eq 5, 3) := by decide +kernel
theorem d_Bl_isAllAlike_33 : decode b_Bl_isAllAlike 33 = .ok (.iconst 0, 1) := by decide +kernel
theorem d_Bl_isAllAlike_34 : decode b_Bl_isAllAlike 34 = .ok (.ireturn, 1) := by decide +kernel
theorem d_Bl_isAllAlike_35 : decode b_Bl_isAllAlike 35 = .ok (.iinc 3 1, 3) := by decide +kernel
theorem d_Bl_isAllAlike_38 : decode b_Bl_isAllAlike 38 = .ok (.goto (-23), 3) := by decide +kernel
theorem d_Bl_isAllAlike_41 : decode b_Bl_isAllAlike 41 = .ok (.iconst 1, 1) := by decide +kernel
theorem d_Bl_isAllAlike_42 : decode b_Bl_isAllAlike 42 = .ok (.ireturn, 1) := by decide +kernel
theorem d_La_mark_0 : decode b_La_mark 0 = .ok (.aload 6, 2) := by decide +kernel
theorem d_La_mark_2 : decode b_La_mark 2 = .ok (.iconst 0, 1) := by decide +kernel
theorem d_La_mark_3 : decode b_La_mark 3 = .ok (.aload_n 0, 1) := by decide +kernel
theorem d_La_mark_4 : decode b_La_mark 4 = .ok (.iload_n 1, 1) := by decide +kernel
theorem d_La_mark_5 : decode b_La_mark 5 = .ok (.iload_n 2, 1) := by decide +kernel
theorem d_La_mark_6 : decode b_La_mark 6 = .ok (.iload_n 3, 1) := by decide +kernel
theorem d_La_mark_7 : decode b_La_mark 7 = .ok (.iload 4, 2) := by decide +kernel
theorem d_La_mark_9 : decode b_La_mark 9 = .ok (.iload 5, 2) := by decide +kernel
theorem d_La_mark_11 : decode b_La_mark 11 = .ok (.invokevirtual 15, 3) := by decide +kernel
theorem d_La_mark_14 : decode b_La_mark 14 = .ok (.i2l, 1) := by decide +kernel
theorem d_La_mark_15 : decode b_La_mark 15 = .ok (.lastore, 1) := by decide +kernel
theorem d_La_mark_16 : decode b_La_mark 16 = .ok (.goto 7, 3) := by decide +kernel
theorem d_La_mark_19 : decode b_La_mark 19 = .ok (.astore 7, 2) := by decide +kernel
theorem d_La_mark_21 : decode b_La_mark 21 = .ok (.iconst 1, 1) := by decide +kernel
theorem d_La_mark_22 : decode b_La_mark 22 = .ok (.ireturn, 1) := by decide +kernel
theorem d_La_mark_23 : decode b_La_mark 23 = .ok (.iconst 0, 1) := by decide +kernel
theorem d_La_mark_24 : decode b_La_mark 24 = .ok (.ireturn, 1) := by decide +kernel
theorem d_La_get_0 : decode b_La_get 0 = .ok (.aload_n 3, 1) := by decide +kernel
theorem d_La_get_1 : decode b_La_get 1 = .ok (.iconst 0, 1) := by decide +kernel
theorem d_La_get_2 : decode b_La_get 2 = .ok (.aload_n 0, 1) := by decide +kernel
theorem d_La_get_3 : decode b_La_get 3 = .ok (.iload_n 1, 1) := by decide +kernel
theorem d_La_get_4 : decode b_La_get 4 = .ok (.iload_n 2, 1) := by decide +kernel
theorem d_La_get_5 : decode b_La_get 5 = .ok (.invokevirtual 19, 3) := by decide +kernel
theorem d_La_get_8 : decode b_La_get 8 = .ok (.i2l, 1) := by decide +kernel
theorem d_La_get_9 : decode b_La_get 9 = .ok (.lastore, 1) := by decide +kernel
theorem d_La_get_10 : decode b_La_get 10 = .ok (.goto 7, 3) := by decide +kernel
theorem d_La_get_13 : decode b_La_get 13 = .ok (.astore 4, 2) := by decide +kernel
theorem d_La_get_15 : decode b_La_get 15 = .ok (.iconst 1, 1) := by decide +kernel
theorem d_La_get_16 : decode b_La_get 16 = .ok (.ireturn, 1) := by decide +kernel
theorem d_La_get_17 : decode b_La_get 17 = .ok (.iconst 0, 1) := by decide +kernel
theorem d_La_get_18 : decode b_La_get 18 = .ok (.ireturn, 1) := by decide +kernel
theorem d_Pt_get_0 : decode b_Pt_get 0 = .ok (.iload_n 1, 1) := by decide +kernel
theorem d_Pt_get_1 : decode b_Pt_get 1 = .ok (.invokestatic 41, 3) := by decide +kernel
theorem d_Pt_get_4 : decode b_Pt_get 4 = .ok (.iload_n 2, 1) := by decide +kernel
theorem d_Pt_get_5 : decode b_Pt_get 5 = .ok (.invokestatic 24, 3) := by decide +kernel
theorem d_Pt_get_8 : decode b_Pt_get 8 = .ok (.aload_n 0, 1) := by decide +kernel
theorem d_Pt_get_9 : decode b_Pt_get 9 = .ok (.iload_n 1, 1) := by decide +kernel
theorem d_Pt_get_10 : decode b_Pt_get 10 = .ok (.iload_n 2, 1) := by decide +kernel
theorem d_Pt_get_11 : decode b_Pt_get 11 = .ok (.invokevirtual 44, 3) := by decide +kernel
theorem d_Pt_get_14 : decode b_Pt_get 14 = .ok (.ireturn, 1) := by decide +kernel
theorem d_Pt_checkPoint_0 : decode b_Pt_checkPoint 0 = .ok (.iload_n 0, 1) := by decide +kernel
theorem d_Pt_checkPoint_1 : decode b_Pt_checkPoint 1 = .ok (.ifCond .lt 9, 3) := by decide +kernel
theorem d_Pt_checkPoint_4 : decode b_Pt_checkPoint 4 = .ok (.iload_n 0, 1) := by decide +kernel
theorem d_Pt_checkPoint_5 : decode b_Pt_checkPoint 5 = .ok (.ldc 48, 2) := by decide +kernel
theorem d_Pt_checkPoint_7 : decode b_Pt_checkPoint 7 = .ok (.if_icmp .le 13, 3) := by decide +kernel
theorem d_Pt_checkPoint_10 : decode b_Pt_checkPoint 10 = .ok (.new 71, 3) := by decide +kernel
theorem d_Pt_checkPoint_13 : decode b_Pt_checkPoint 13 = .ok (.dup, 1) := by decide +kernel
theorem d_Pt_checkPoint_14 : decode b_Pt_checkPoint 14 = .ok (.ldc 73, 2) := by decide +kernel
theorem d_Pt_checkPoint_16 : decode b_Pt_checkPoint 16 = .ok (.invokespecial 75, 3) := by decide +kernel
theorem d_Pt_checkPoint_19 : decode b_Pt_checkPoint 19 = .ok (.athrow, 1) := by decide +kernel
theorem d_Pt_checkPoint_20 : decode b_Pt_checkPoint 20 = .ok (.return_, 1) := by decide +kernel
theorem d_Pt_valueAt_0 : decode b_Pt_valueAt 0 = .ok (.aload_n 0, 1) := by decide +kernel
theorem d_Pt_valueAt_1 : decode b_Pt_valueAt 1 = .ok (.getfield 12, 3) := by decide +kernel
theorem d_Pt_valueAt_4 : decode b_Pt_valueAt 4 = .ok (.getfield 28, 3) := by decide +kernel
theorem d_Pt_valueAt_7 : decode b_Pt_valueAt 7 = .ok (.aload_n 0, 1) := by decide +kernel
theorem d_Pt_valueAt_8 : decode b_Pt_valueAt 8 = .ok (.getfield 12, 3) := by decide +kernel
theorem d_Pt_valueAt_11 : decode b_Pt_valueAt 11 = .ok (.iload_n 1, 1) := by decide +kernel
theorem d_Pt_valueAt_12 : decode b_Pt_valueAt 12 = .ok (.invokevirtual 58, 3) := by decide +kernel
theorem d_Pt_valueAt_15 : decode b_Pt_valueAt 15 = .ok (.iload_n 2, 1) := by decide +kernel
theorem d_Pt_valueAt_16 : decode b_Pt_valueAt 16 = .ok (.invokevirtual 68, 3) := by decide +kernel
theorem d_Pt_valueAt_19 : decode b_Pt_valueAt 19 = .ok (.ireturn, 1) := by decide +kernel
theorem d_Rc_value_0 : decode b_Rc_value 0 = .ok (.aload_n 0, 1) := by decide +kernel
theorem d_Rc_value_1 : decode b_Rc_value 1 = .ok (.getfield 11, 3) := by decide +kernel
theorem d_Rc_value_4 : decode b_Rc_value 4 = .ok (.iload_n 1, 1) := by decide +kernel
theorem d_Rc_value_5 : decode b_Rc_value 5 = .ok (.bipush 8, 2) := by decide +kernel
theorem d_Rc_value_7 : decode b_Rc_value 7 = .ok (.imul, 1) := by decide +kernel
theorem d_Rc_value_8 : decode b_Rc_value 8 = .ok (.iload_n 2, 1) := by decide +kernel
theorem d_Rc_value_9 : decode b_Rc_value 9 = .ok (.iadd, 1) := by decide +kernel
theorem d_Rc_value_10 : decode b_Rc_value 10 = .ok (.iaload, 1) := by decide +kernel
theorem d_Rc_value_11 : decode b_Rc_value 11 = .ok (.ireturn, 1) := by decide +kernel
theorem d_La_change_0 : decode b_La_change 0 = .ok (.aload_n 3, 1) := by decide +kernel
theorem d_La_change_1 : decode b_La_change 1 = .ok (.iconst 0, 1) := by decide +kernel
theorem d_La_change_2 : decode b_La_change 2 = .ok (.aload_n 0, 1) := by decide +kernel
theorem d_La_change_3 : decode b_La_change 3 = .ok (.iload_n 1, 1) := by decide +kernel
theorem d_La_change_4 : decode b_La_change 4 = .ok (.iload_n 2, 1) := by decide +kernel
theorem d_La_change_5 : decode b_La_change 5 = .ok (.invokevirtual 23, 3) := by decide +kernel
theorem d_La_change_8 : decode b_La_change 8 = .ok (.i2l, 1) := by decide +kernel
theorem d_La_change_9 : decode b_La_change 9 = .ok (.lastore, 1) := by decide +kernel
theorem d_La_change_10 : decode b_La_change 10 = .ok (.goto 7, 3) := by decide +kernel
theorem d_La_change_13 : decode b_La_change 13 = .ok (.astore 4, 2) := by decide +kernel
theorem d_La_change_15 : decode b_La_change 15 = .ok (.iconst 1, 1) := by decide +kernel
theorem d_La_change_16 : decode b_La_change 16 = .ok (.ireturn, 1) := by decide +kernel
theorem d_La_change_17 : decode b_La_change 17 = .ok (.iconst 0, 1) := by decide +kernel
theorem d_La_change_18 : decode b_La_change 18 = .ok (.ireturn, 1) := by decide +kernel
theorem d_Pt_change_0 : decode b_Pt_change 0 = .ok (.iload_n 1, 1) := by decide +kernel
theorem d_Pt_change_1 : decode b_Pt_change 1 = .ok (.invokestatic 41, 3) := by decide +kernel
theorem d_Pt_change_4 : decode b_Pt_change 4 = .ok (.iload_n 2, 1) := by decide +kernel
theorem d_Pt_change_5 : decode b_Pt_change 5 = .ok (.invokestatic 24, 3) := by decide +kernel
theorem d_Pt_change_8 : decode b_Pt_change 8 = .ok (.aload_n 0, 1) := by decide +kernel
theorem d_Pt_change_9 : decode b_Pt_change 9 = .ok (.iload_n 1, 1) := by decide +kernel
theorem d_Pt_change_10 : decode b_Pt_change 10 = .ok (.iload_n 2, 1) := by decide +kernel
theorem d_Pt_change_11 : decode b_Pt_change 11 = .ok (.invokevirtual 44, 3) := by decide +kernel
theorem d_Pt_change_14 : decode b_Pt_change 14 = .ok (.istore_n 3, 1) := by decide +kernel
theorem d_Pt_change_15 : decode b_Pt_change 15 = .ok (.iload_n 1, 1) := by decide +kernel
theorem d_Pt_change_16 : decode b_Pt_change 16 = .ok (.istore 4, 2) := by decide +kernel
theorem d_Pt_change_18 : decode b_Pt_change 18 = .ok (.iload 4, 2) := by decide +kernel
theorem d_Pt_change_20 : decode b_Pt_change 20 = .ok (.ldc 48, 2) := by decide +kernel
theorem d_Pt_change_22 : decode b_Pt_change 22 = .ok (.if_icmp .gt 36, 3) := by decide +kernel
theorem d_Pt_change_25 : decode b_Pt_change 25 = .ok (.aload_n 0, 1) := by decide +kernel
theorem d_Pt_change_26 : decode b_Pt_change 26 = .ok (.iload 4, 2) := by decide +kernel
theorem d_Pt_change_28 : decode b_Pt_change 28 = .ok (.iload_n 2, 1) := by decide +kernel
theorem d_Pt_change_29 : decode b_Pt_change 29 = .ok (.invokevirtual 44, 3) := by decide +kernel
theorem d_Pt_change_32 : decode b_Pt_change 32 = .ok (.iload_n 3, 1) := by decide +kernel
theorem d_Pt_change_33 : decode b_Pt_change 33 = .ok (.if_icmp .eq 6, 3) := by decide +kernel
theorem d_Pt_change_36 : decode b_Pt_change 36 = .ok (.iload 4, 2) := by decide +kernel
theorem d_Pt_change_38 : decode b_Pt_change 38 = .ok (.ireturn, 1) := by decide +kernel
theorem d_Pt_change_39 : decode b_Pt_change 39 = .ok (.iload 4, 2) := by decide +kernel
theorem d_Pt_change_41 : decode b_Pt_change 41 = .ok (.aload_n 0, 1) := by decide +kernel
theorem d_Pt_change_42 : decode b_Pt_change 42 = .ok (.getfield 12, 3) := by decide +kernel
theorem d_Pt_change_45 : decode b_Pt_change 45 = .ok (.getfield 49, 3) := by decide +kernel
theorem d_Pt_change_48 : decode b_Pt_change 48 = .ok (.invokestatic 53, 3) := by decide +kernel
theorem d_Pt_change_51 : decode b_Pt_change 51 = .ok (.iconst 1, 1) := by decide +kernel
theorem d_Pt_change_52 : decode b_Pt_change 52 = .ok (.iadd, 1) := by decide +kernel
theorem d_Pt_change_53 : decode b_Pt_change 53 = .ok (.istore 4, 2) := by decide +kernel
theorem d_Pt_change_55 : decode b_Pt_change 55 = .ok (.goto (-37), 3) := by decide +kernel
theorem d_Pt_change_58 : decode b_Pt_change 58 = .ok (.iconst (-1), 1) := by decide +kernel
theorem d_Pt_change_59 : decode b_Pt_change 59 = .ok (.ireturn, 1) := by decide +kernel
theorem d_La_alike_0 : decode b_La_alike 0 = .ok (.aload_n 3, 1) := by decide +kernel
theorem d_La_alike_1 : decode b_La_alike 1 = .ok (.iconst 0, 1) := by decide +kernel
theorem d_La_alike_2 : decode b_La_alike 2 = .ok (.aload_n 0, 1) := by decide +kernel
theorem d_La_alike_3 : decode b_La_alike 3 = .ok (.iload_n 1, 1) := by decide +kernel
theorem d_La_alike_4 : decode b_La_alike 4 = .ok (.iload_n 2, 1) := by decide +kernel
theorem d_La_alike_5 : decode b_La_alike 5 = .ok (.invokevirtual 26, 3) := by decide +kernel
theorem d_La_alike_8 : decode b_La_alike 8 = .ok (.ifCond .eq 7, 3) := by decide +kernel
theorem d_La_alike_11 : decode b_La_alike 11 = .ok (.lconst 1, 1) := by decide +kernel
theorem d_La_alike_12 : decode b_La_alike 12 = .ok (.goto 4, 3) := by decide +kernel
theorem d_La_alike_15 : decode b_La_alike 15 = .ok (.lconst 0, 1) := by decide +kernel
theorem d_La_alike_16 : decode b_La_alike 16 = .ok (.lastore, 1) := by decide +kernel
theorem d_La_alike_17 : decode b_La_alike 17 = .ok (.goto 7, 3) := by decide +kernel
theorem d_La_alike_20 : decode b_La_alike 20 = .ok (.astore 4, 2) := by decide +kernel
theorem d_La_alike_22 : decode b_La_alike 22 = .ok (.iconst 1, 1) := by decide +kernel
theorem d_La_alike_23 : decode b_La_alike 23 = .ok (.ireturn, 1) := by decide +kernel
theorem d_La_alike_24 : decode b_La_alike 24 = .ok (.iconst 0, 1) := by decide +kernel
theorem d_La_alike_25 : decode b_La_alike 25 = .ok (.ireturn, 1) := by decide +kernel
theorem d_Pt_alike_0 : decode b_Pt_alike 0 = .ok (.iload_n 1, 1) := by decide +kernel
theorem d_Pt_alike_1 : decode b_Pt_alike 1 = .ok (.invokestatic 41, 3) := by decide +kernel
theorem d_Pt_alike_4 : decode b_Pt_alike 4 = .ok (.iload_n 2, 1) := by decide +kernel
theorem d_Pt_alike_5 : decode b_Pt_alike 5 = .ok (.invokestatic 41, 3) := by decide +kernel
theorem d_Pt_alike_8 : decode b_Pt_alike 8 = .ok (.aload_n 0, 1) := by decide +kernel
theorem d_Pt_alike_9 : decode b_Pt_alike 9 = .ok (.getfield 12, 3) := by decide +kernel
theorem d_Pt_alike_12 : decode b_Pt_alike 12 = .ok (.iload_n 1, 1) := by decide +kernel
theorem d_Pt_alike_13 : decode b_Pt_alike 13 = .ok (.invokevirtual 58, 3) := by decide +kernel
theorem d_Pt_alike_16 : decode b_Pt_alike 16 = .ok (.aload_n 0, 1) := by decide +kernel
theorem d_Pt_alike_17 : decode b_Pt_alike 17 = .ok (.getfield 12, 3) := by decide +kernel
theorem d_Pt_alike_20 : decode b_Pt_alike 20 = .ok (.iload_n 2, 1) := by decide +kernel
theorem d_Pt_alike_21 : decode b_Pt_alike 21 = .ok (.invokevirtual 58, 3) := by decide +kernel
theorem d_Pt_alike_24 : decode b_Pt_alike 24 = .ok (.if_icmp .ne 7, 3) := by decide +kernel
theorem d_Pt_alike_27 : decode b_Pt_alike 27 = .ok (.iconst 1, 1) := by decide +kernel
theorem d_Pt_alike_28 : decode b_Pt_alike 28 = .ok (.goto 4, 3) := by decide +kernel
theorem d_Pt_alike_31 : decode b_Pt_alike 31 = .ok (.iconst 0, 1) := by decide +kernel
theorem d_Pt_alike_32 : decode b_Pt_alike 32 = .ok (.ireturn, 1) := by decide +kernel
theorem d_La_hash_0 : decode b_La_hash 0 = .ok (.aload 4, 2) := by decide +kernel
theorem d_La_hash_2 : decode b_La_hash 2 = .ok (.iconst 0, 1) := by decide +kernel
theorem d_La_hash_3 : decode b_La_hash 3 = .ok (.aload_n 0, 1) := by decide +kernel
theorem d_La_hash_4 : decode b_La_hash 4 = .ok (.iload_n 1, 1) := by decide +kernel
theorem d_La_hash_5 : decode b_La_hash 5 = .ok (.iload_n 2, 1) := by decide +kernel
theorem d_La_hash_6 : decode b_La_hash 6 = .ok (.iload_n 3, 1) := by decide +kernel
theorem d_La_hash_7 : decode b_La_hash 7 = .ok (.invokevirtual 30, 3) := by decide +kernel
theorem d_La_hash_10 : decode b_La_hash 10 = .ok (.i2l, 1) := by decide +kernel
theorem d_La_hash_11 : decode b_La_hash 11 = .ok (.lastore, 1) := by decide +kernel
theorem d_La_hash_12 : decode b_La_hash 12 = .ok (.goto 7, 3) := by decide +kernel
theorem d_La_hash_15 : decode b_La_hash 15 = .ok (.astore 5, 2) := by decide +kernel
theorem d_La_hash_17 : decode b_La_hash 17 = .ok (.iconst 1, 1) := by decide +kernel
theorem d_La_hash_18 : decode b_La_hash 18 = .ok (.ireturn, 1) := by decide +kernel
theorem d_La_hash_19 : decode b_La_hash 19 = .ok (.iconst 0, 1) := by decide +kernel
theorem d_La_hash_20 : decode b_La_hash 20 = .ok (.ireturn, 1) := by decide +kernel
theorem d_Pt_hash_0 : decode b_Pt_hash 0 = .ok (.iload_n 1, 1) := by decide +kernel
theorem d_Pt_hash_1 : decode b_Pt_hash 1 = .ok (.iload_n 2, 1) := by decide +kernel
theorem d_Pt_hash_2 : decode b_Pt_hash 2 = .ok (.invokestatic 20, 3) := by decide +kernel
theorem d_Pt_hash_5 : decode b_Pt_hash 5 = .ok (.iload_n 2, 1) := by decide +kernel
theorem d_Pt_hash_6 : decode b_Pt_hash 6 = .ok (.iload_n 1, 1) := by decide +kernel
theorem d_Pt_hash_7 : decode b_Pt_hash 7 = .ok (.isub, 1) := by decide +kernel
theorem d_Pt_hash_8 : decode b_Pt_hash 8 = .ok (.iconst 1, 1) := by decide +kernel
theorem d_Pt_hash_9 : decode b_Pt_hash 9 = .ok (.iadd, 1) := by decide +kernel
theorem d_Pt_hash_10 : decode b_Pt_hash 10 = .ok (.invokestatic 62, 3) := by decide +kernel
theorem d_Pt_hash_13 : decode b_Pt_hash 13 = .ok (.iload_n 3, 1) := by decide +kernel
theorem d_Pt_hash_14 : decode b_Pt_hash 14 = .ok (.invokestatic 24, 3) := by decide +kernel
theorem d_Pt_hash_17 : decode b_Pt_hash 17 = .ok (.iconst 1, 1) := by decide +kernel
theorem d_Pt_hash_18 : decode b_Pt_hash 18 = .ok (.istore 4, 2) := by decide +kernel
theorem d_Pt_hash_20 : decode b_Pt_hash 20 = .ok (.iconst 0, 1) := by decide +kernel
theorem d_Pt_hash_21 : decode b_Pt_hash 21 = .ok (.istore 5, 2) := by decide +kernel
theorem d_Pt_hash_23 : decode b_Pt_hash 23 = .ok (.iconst (-1), 1) := by decide +kernel
theorem d_Pt_hash_24 : decode b_Pt_hash 24 = .ok (.istore 6, 2) := by decide +kernel
theorem d_Pt_hash_26 : decode b_Pt_hash 26 = .ok (.iload_n 1, 1) := by decide +kernel
theorem d_Pt_hash_27 : decode b_Pt_hash 27 = .ok (.istore 7, 2) := by decide +kernel
theorem d_Pt_hash_29 : decode b_Pt_hash 29 = .ok (.iload 7, 2) := by decide +kernel
theorem d_Pt_hash_31 : decode b_Pt_hash 31 = .ok (.iload_n 2, 1) := by decide +kernel
theorem d_Pt_hash_32 : decode b_Pt_hash 32 = .ok (.if_icmp .gt 44, 3) := by decide +kernel
theorem d_Pt_hash_35 : decode b_Pt_hash 35 = .ok (.iload 7, 2) := by decide +kernel
theorem d_Pt_hash_37 : decode b_Pt_hash 37 = .ok (.iload 6, 2) := by decide +kernel
theorem d_Pt_hash_39 : decode b_Pt_hash 39 = .ok (.if_icmp .le 21, 3) := by decide +kernel
theorem d_Pt_hash_42 : decode b_Pt_hash 42 = .ok (.aload_n 0, 1) := by decide +kernel
theorem d_Pt_hash_43 : decode b_Pt_hash 43 = .ok (.iload 7, 2) := by decide +kernel
theorem d_Pt_hash_45 : decode b_Pt_hash 45 = .ok (.iload_n 3, 1) := by decide +kernel
theorem d_Pt_hash_46 : decode b_Pt_hash 46 = .ok (.invokevirtual 44, 3) := by decide +kernel
theorem d_Pt_hash_49 : decode b_Pt_hash 49 = .ok (.istore 5, 2) := by decide +kernel
theorem d_Pt_hash_51 : decode b_Pt_hash 51 = .ok (.aload_n 0, 1) := by decide +kernel
theorem d_Pt_hash_52 : decode b_Pt_hash 52 = .ok (.getfield 12, 3) := by decide +kernel
theorem d_Pt_hash_55 : decode b_Pt_hash 55 = .ok (.getfield 49, 3) := by decide +kernel
theorem d_Pt_hash_58 : decode b_Pt_hash 58 = .ok (.istore 6, 2) := by decide +kernel
theorem d_Pt_hash_60 : decode b_Pt_hash 60 = .ok (.bipush 31, 2) := by decide +kernel
theorem d_Pt_hash_62 : decode b_Pt_hash 62 = .ok (.iload 4, 2) := by decide +kernel
theorem d_Pt_hash_64 : decode b_Pt_hash 64 = .ok (.imul, 1) := by decide +kernel
theorem d_Pt_hash_65 : decode b_Pt_hash 65 = .ok (.iload 5, 2) := by decide +kernel
theorem d_Pt_hash_67 : decode b_Pt_hash 67 = .ok (.iadd, 1) := by decide +kernel
theorem d_Pt_hash_68 : decode b_Pt_hash 68 = .ok (.istore 4, 2) := by decide +kernel
theorem d_Pt_hash_70 : decode b_Pt_hash 70 = .ok (.iinc 7 1, 3) := by decide +kernel
theorem d_Pt_hash_73 : decode b_Pt_hash 73 = .ok (.goto (-44), 3) := by decide +kernel
theorem d_Pt_hash_76 : decode b_Pt_hash 76 = .ok (.iload 4, 2) := by decide +kernel
theorem d_Pt_hash_78 : decode b_Pt_hash 78 = .ok (.ireturn, 1) := by decide +kernel
theorem d_Pt_checkLength_0 : decode b_Pt_checkLength 0 = .ok (.iload_n 0, 1) := by decide +kernel
theorem d_Pt_checkLength_1 : decode b_Pt_checkLength 1 = .ok (.sipush 4000, 3) := by decide +kernel
theorem d_Pt_checkLength_4 : decode b_Pt_checkLength 4 = .ok (.if_icmp .le 13, 3) := by decide +kernel
theorem d_Pt_checkLength_7 : decode b_Pt_checkLength 7 = .ok (.new 71, 3) := by decide +kernel
theorem d_Pt_checkLength_10 : decode b_Pt_checkLength 10 = .ok (.dup, 1) := by decide +kernel
theorem d_Pt_checkLength_11 : decode b_Pt_checkLength 11 = .ok (.ldc 82, 2) := by decide +kernel
theorem d_Pt_checkLength_13 : decode b_Pt_checkLength 13 = .ok (.invokespecial 75, 3) := by decide +kernel
theorem d_Pt_checkLength_16 : decode b_Pt_checkLength 16 = .ok (.athrow, 1) := by decide +kernel
theorem d_Pt_checkLength_17 : decode b_Pt_checkLength 17 = .ok (.return_, 1) := by decide +kernel
theorem d_Mo_init_0 : decode b_Mo_init 0 = .ok (.aload_n 0, 1) := by decide +kernel
theorem d_Mo_init_1 : decode b_Mo_init 1 = .ok (.invokespecial 1, 3) := by decide +kernel
theorem d_Mo_init_4 : decode b_Mo_init 4 = .ok (.aload_n 0, 1) := by decide +kernel
theorem d_Mo_init_5 : decode b_Mo_init 5 = .ok (.iconst 1, 1) := by decide +kernel
theorem d_Mo_init_6 : decode b_Mo_init 6 = .ok (.putfield 7, 3) := by decide +kernel
theorem d_Mo_init_9 : decode b_Mo_init 9 = .ok (.aload_n 0, 1) := by decide +kernel
theorem d_Mo_init_10 : decode b_Mo_init 10 = .ok (.sipush 9000, 3) := by decide +kernel
theorem d_Mo_init_13 : decode b_Mo_init 13 = .ok (.newarray .int, 2) := by decide +kernel
theorem d_Mo_init_15 : decode b_Mo_init 15 = .ok (.putfield 13, 3) := by decide +kernel
theorem d_Mo_init_18 : decode b_Mo_init 18 = .ok (.aload_n 0, 1) := by decide +kernel
theorem d_Mo_init_19 : decode b_Mo_init 19 = .ok (.ldc 17, 2) := by decide +kernel
theorem d_Mo_init_21 : decode b_Mo_init 21 = .ok (.newarray .int, 2) := by decide +kernel
theorem d_Mo_init_23 : decode b_Mo_init 23 = .ok (.putfield 18, 3) := by decide +kernel
theorem d_Mo_init_26 : decode b_Mo_init 26 = .ok (.return_, 1) := by decide +kernel
theorem d_Mo_thrown_0 : decode b_Mo_thrown 0 = .ok (.aload_n 0, 1) := by decide +kernel
theorem d_Mo_thrown_1 : decode b_Mo_thrown 1 = .ok (.getfield 21, 3) := by decide +kernel
theorem d_Mo_thrown_4 : decode b_Mo_thrown 4 = .ok (.ireturn, 1) := by decide +kernel
theorem d_Mo_set_0 : decode b_Mo_set 0 = .ok (.aload_n 0, 1) := by decide +kernel
theorem d_Mo_set_1 : decode b_Mo_set 1 = .ok (.iload_n 1, 1) := by decide +kernel
theorem d_Mo_set_2 : decode b_Mo_set 2 = .ok (.iload_n 2, 1) := by decide +kernel
theorem d_Mo_set_3 : decode b_Mo_set 3 = .ok (.iload_n 3, 1) := by decide +kernel
theorem d_Mo_set_4 : decode b_Mo_set 4 = .ok (.iload 4, 2) := by decide +kernel
theorem d_Mo_set_6 : decode b_Mo_set 6 = .ok (.iconst 0, 1) := by decide +kernel
theorem d_Mo_set_7 : decode b_Mo_set 7 = .ok (.invokevirtual 29, 3) := by decide +kernel
theorem d_Mo_set_10 : decode b_Mo_set 10 = .ok (.ireturn, 1) := by decide +kernel
theorem d_Mo_mark_0 : decode b_Mo_mark 0 = .ok (.aload_n 0, 1) := by decide +kernel
theorem d_Mo_mark_1 : decode b_Mo_mark 1 = .ok (.iconst 0, 1) := by decide +kernel
theorem d_Mo_mark_2 : decode b_Mo_mark 2 = .ok (.putfield 21, 3) := by decide +kernel
theorem d_Mo_mark_5 : decode b_Mo_mark 5 = .ok (.aload_n 0, 1) := by decide +kernel
theorem d_Mo_mark_6 : decode b_Mo_mark 6 = .ok (.iload_n 1, 1) := by decide +kernel
theorem d_Mo_mark_7 : decode b_Mo_mark 7 = .ok (.invokevirtual 33, 3) := by decide +kernel
theorem d_Mo_mark_10 : decode b_Mo_mark 10 = .ok (.ifCond .ne 26, 3) := by decide +kernel
theorem d_Mo_mark_13 : decode b_Mo_mark 13 = .ok (.aload_n 0, 1) := by decide +kernel
theorem d_Mo_mark_14 : decode b_Mo_mark 14 = .ok (.iload_n 2, 1) := by decide +kernel
theorem d_Mo_mark_15 : decode b_Mo_mark 15 = .ok (.invokevirtual 33, 3) := by decide +kernel
theorem d_Mo_mark_18 : decode b_Mo_mark 18 = .ok (.ifCond .ne 18, 3) := by decide +kernel
theorem d_Mo_mark_21 : decode b_Mo_mark 21 = .ok (.iload_n 2, 1) := by decide +kernel
theorem d_Mo_mark_22 : decode b_Mo_mark 22 = .ok (.iload_n 1, 1) := by decide +kernel
theorem d_Mo_mark_23 : decode b_Mo_mark 23 = .ok (.if_icmp .lt 13, 3) := by decide +kernel
theorem d_Mo_mark_26 : decode b_Mo_mark 26 = .ok (.iload_n 3, 1) := by decide +kernel
theorem d_Mo_mark_27 : decode b_Mo_mark 27 = .ok (.ifCond .lt 9, 3) := by decide +kernel
theorem d_Mo_mark_30 : decode b_Mo_mark 30 = .ok (.iload_n 3, 1) := by decide +kernel
theorem d_Mo_mark_31 : decode b_Mo_mark 31 = .ok (.bipush 7, 2) := by decide +kernel
theorem d_Mo_mark_33 : decode b_Mo_mark 33 = .ok (.if_icmp .le 9, 3) := by decide +kernel
theorem d_Mo_mark_36 : decode b_Mo_mark 36 = .ok (.aload_n 0, 1) := by decide +kernel
theorem d_Mo_mark_37 : decode b_Mo_mark 37 = .ok (.iconst 1, 1) := by decide +kernel
theorem d_Mo_mark_38 : decode b_Mo_mark 38 = .ok (.invokevirtual 37, 3) := by decide +kernel
theorem d_Mo_mark_41 : decode b_Mo_mark 41 = .ok (.ireturn, 1) := by decide +kernel
theorem d_Mo_mark_42 : decode b_Mo_mark 42 = .ok (.aload_n 0, 1) := by decide +kernel
theorem d_Mo_mark_43 : decode b_Mo_mark 43 = .ok (.iload_n 1, 1) := by decide +kernel
theorem d_Mo_mark_44 : decode b_Mo_mark 44 = .ok (.invokevirtual 40, 3) := by decide +kernel
theorem d_Mo_mark_47 : decode b_Mo_mark 47 = .ok (.aload_n 0, 1) := by decide +kernel
theorem d_Mo_mark_48 : decode b_Mo_mark 48 = .ok (.iload_n 2, 1) := by decide +kernel
theorem d_Mo_mark_49 : decode b_Mo_mark 49 = .ok (.iconst 1, 1) := by decide +kernel
theorem d_Mo_mark_50 : decode b_Mo_mark 50 = .ok (.iadd, 1) := by decide +kernel
theorem d_Mo_mark_51 : decode b_Mo_mark 51 = .ok (.invokevirtual 40, 3) := by decide +kernel
theorem d_Mo_mark_54 : decode b_Mo_mark 54 = .ok (.aload_n 0, 1) := by decide +kernel
theorem d_Mo_mark_55 : decode b_Mo_mark 55 = .ok (.iload_n 1, 1) := by decide +kernel
theorem d_Mo_mark_56 : decode b_Mo_mark 56 = .ok (.invokevirtual 25, 3) := by decide +kernel
theorem d_Mo_mark_59 : decode b_Mo_mark 59 = .ok (.istore 6, 2) := by decide +kernel
theorem d_Mo_mark_61 : decode b_Mo_mark 61 = .ok (.iload 6, 2) := by decide +kernel
theorem d_Mo_mark_63 : decode b_Mo_mark 63 = .ok (.aload_n 0, 1) := by decide +kernel
theorem d_Mo_mark_64 : decode b_Mo_mark 64 = .ok (.getfield 7, 3) := by decide +kernel
theorem d_Mo_mark_67 : decode b_Mo_mark 67 = .ok (.if_icmp .ge 50, 3) := by decide +kernel
theorem d_Mo_mark_70 : decode b_Mo_mark 70 = .ok (.aload_n 0, 1) := by decide +kernel
theorem d_Mo_mark_71 : decode b_Mo_mark 71 = .ok (.getfield 13, 3) := by decide +kernel
theorem d_Mo_mark_74 : decode b_Mo_mark 74 = .ok (.iload 6, 2) := by decide +kernel
theorem d_Mo_mark_76 : decode b_Mo_mark 76 = .ok (.iaload, 1) := by decide +kernel
theorem d_Mo_mark_77 : decode b_Mo_mark 77 = .ok (.iload_n 2, 1) := by decide +kernel
theorem d_Mo_mark_78 : decode b_Mo_mark 78 = .ok (.if_icmp .gt 39, 3) := by decide +kernel
theorem d_Mo_mark_81 : decode b_Mo_mark 81 = .ok (.aload_n 0, 1) := by decide +kernel
theorem d_Mo_mark_82 : decode b_Mo_mark 82 = .ok (.getfield 18, 3) := by decide +kernel
theorem d_Mo_mark_85 : decode b_Mo_mark 85 = .ok (.bipush 8, 2) := by decide +kernel
theorem d_Mo_mark_87 : decode b_Mo_mark 87 = .ok (.iload 6, 2) := by decide +kernel
theorem d_Mo_mark_89 : decode b_Mo_mark 89 = .ok (.imul, 1) := by decide +kernel
theorem d_Mo_mark_90 : decode b_Mo_mark 90 = .ok (.iload_n 3, 1) := by decide +kernel
theorem d_Mo_mark_91 : decode b_Mo_mark 91 = .ok (.iadd, 1) := by decide +kernel
theorem d_Mo_mark_92 : decode b_Mo_mark 92 = .ok (.aload_n 0, 1) := by decide +kernel
theorem d_Mo_mark_93 : decode b_Mo_mark 93 = .ok (.getfield 18, 3) := by decide +kernel
theorem d_Mo_mark_96 : decode b_Mo_mark 96 = .ok (.bipush 8, 2) := by decide +kernel
theorem d_Mo_mark_98 : decode b_Mo_mark 98 = .ok (.iload 6, 2) := by decide +kernel
theorem d_Mo_mark_100 : decode b_Mo_mark 100 = .ok (.imul, 1) := by decide +kernel
theorem d_Mo_mark_101 : decode b_Mo_mark 101 = .ok (.iload_n 3, 1) := by decide +kernel
theorem d_Mo_mark_102 : decode b_Mo_mark 102 = .ok (.iadd, 1) := by decide +kernel
theorem d_Mo_mark_103 : decode b_Mo_mark 103 = .ok (.iaload, 1) := by decide +kernel
theorem d_Mo_mark_104 : decode b_Mo_mark 104 = .ok (.iload 5, 2) := by decide +kernel
theorem d_Mo_mark_106 : decode b_Mo_mark 106 = .ok (.iand, 1) := by decide +kernel
theorem d_Mo_mark_107 : decode b_Mo_mark 107 = .ok (.iload 4, 2) := by decide +kernel
theorem d_Mo_mark_109 : decode b_Mo_mark 109 = .ok (.ior, 1) := by decide +kernel
theorem d_Mo_mark_110 : decode b_Mo_mark 110 = .ok (.iastore, 1) := by decide +kernel
theorem d_Mo_mark_111 : decode b_Mo_mark 111 = .ok (.iinc 6 1, 3) := by decide +kernel
theorem d_Mo_mark_114 : decode b_Mo_mark 114 = .ok (.goto (-53), 3) := by decide +kernel
theorem d_Mo_mark_117 : decode b_Mo_mark 117 = .ok (.iload_n 2, 1) := by decide +kernel
theorem d_Mo_mark_118 : decode b_Mo_mark 118 = .ok (.iload_n 1, 1) := by decide +kernel
theorem d_Mo_mark_119 : decode b_Mo_mark 119 = .ok (.isub, 1) := by decide +kernel
theorem d_Mo_mark_120 : decode b_Mo_mark 120 = .ok (.iconst 1, 1) := by decide +kernel
theorem d_Mo_mark_121 : decode b_Mo_mark 121 = .ok (.iadd, 1) := by decide +kernel
theorem d_Mo_mark_122 : decode b_Mo_mark 122 = .ok (.ireturn, 1) := by decide +kernel
theorem d_Mo_out_0 : decode b_Mo_out 0 = .ok (.iload_n 1, 1) := by decide +kernel
theorem d_Mo_out_1 : decode b_Mo_out 1 = .ok (.ifCond .lt 9, 3) := by decide +kernel
theorem d_Mo_out_4 : decode b_Mo_out 4 = .ok (.iload_n 1, 1) := by decide +kernel
theorem d_Mo_out_5 : decode b_Mo_out 5 = .ok (.ldc 24, 2) := by decide +kernel
theorem d_Mo_out_7 : decode b_Mo_out 7 = .ok (.if_icmp .le 7, 3) := by decide +kernel
theorem d_Mo_out_10 : decode b_Mo_out 10 = .ok (.iconst 1, 1) := by decide +kernel
theorem d_Mo_out_11 : decode b_Mo_out 11 = .ok (.goto 4, 3) := by decide +kernel
theorem d_Mo_out_14 : decode b_Mo_out 14 = .ok (.iconst 0, 1) := by decide +kernel
theorem d_Mo_out_15 : decode b_Mo_out 15 = .ok (.ireturn, 1) := by decide +kernel
theorem d_Mo_fail_0 : decode b_Mo_fail 0 = .ok (.aload_n 0, 1) := by decide +kernel
theorem d_Mo_fail_1 : decode b_Mo_fail 1 = .ok (.iload_n 1, 1) := by decide +kernel
theorem d_Mo_fail_2 : decode b_Mo_fail 2 = .ok (.putfield 21, 3) := by decide +kernel
theorem d_Mo_fail_5 : decode b_Mo_fail 5 = .ok (.iconst 0, 1) := by decide +kernel
theorem d_Mo_fail_6 : decode b_Mo_fail 6 = .ok (.ireturn, 1) := by decide +kernel
theorem d_Mo_cut_0 : decode b_Mo_cut 0 = .ok (.iload_n 1, 1) := by decide +kernel
theorem d_Mo_cut_1 : decode b_Mo_cut 1 = .ok (.ldc 24, 2) := by decide +kernel
theorem d_Mo_cut_3 : decode b_Mo_cut 3 = .ok (.if_icmp .le 4, 3) := by decide +kernel
theorem d_Mo_cut_6 : decode b_Mo_cut 6 = .ok (.return_, 1) := by decide +kernel
theorem d_Mo_cut_7 : decode b_Mo_cut 7 = .ok (.aload_n 0, 1) := by decide +kernel
theorem d_Mo_cut_8 : decode b_Mo_cut 8 = .ok (.iload_n 1, 1) := by decide +kernel
theorem d_Mo_cut_9 : decode b_Mo_cut 9 = .ok (.invokevirtual 25, 3) := by decide +kernel
theorem d_Mo_cut_12 : decode b_Mo_cut 12 = .ok (.istore_n 2, 1) := by decide +kernel
theorem d_Mo_cut_13 : decode b_Mo_cut 13 = .ok (.aload_n 0, 1) := by decide +kernel
theorem d_Mo_cut_14 : decode b_Mo_cut 14 = .ok (.getfield 13, 3) := by decide +kernel
theorem d_Mo_cut_17 : decode b_Mo_cut 17 = .ok (.iload_n 2, 1) := by decide +kernel
theorem d_Mo_cut_18 : decode b_Mo_cut 18 = .ok (.iaload, 1) := by decide +kernel
theorem d_Mo_cut_19 : decode b_Mo_cut 19 = .ok (.iload_n 1, 1) := by decide +kernel
theorem d_Mo_cut_20 : decode b_Mo_cut 20 = .ok (.if_icmp .ne 4, 3) := by decide +kernel
theorem d_Mo_cut_23 : decode b_Mo_cut 23 = .ok (.return_, 1) := by decide +kernel
theorem d_Mo_cut_24 : decode b_Mo_cut 24 = .ok (.aload_n 0, 1) := by decide +kernel
theorem d_Mo_cut_25 : decode b_Mo_cut 25 = .ok (.getfield 7, 3) := by decide +kernel
theorem d_Mo_cut_28 : decode b_Mo_cut 28 = .ok (.istore_n 3, 1) := by decide +kernel
theorem d_Mo_cut_29 : decode b_Mo_cut 29 = .ok (.iload_n 3, 1) := by decide +kernel
theorem d_Mo_cut_30 : decode b_Mo_cut 30 = .ok (.iload_n 2, 1) := by decide +kernel
theorem d_Mo_cut_31 : decode b_Mo_cut 31 = .ok (.iconst 1, 1) := by decide +kernel
theorem d_Mo_cut_32 : decode b_Mo_cut 32 = .ok (.iadd, 1) := by decide +kernel
theorem d_Mo_cut_33 : decode b_Mo_cut 33 = .ok (.if_icmp .le 66, 3) := by decide +kernel
theorem d_Mo_cut_36 : decode b_Mo_cut 36 = .ok (.aload_n 0, 1) := by decide +kernel
theorem d_Mo_cut_37 : decode b_Mo_cut 37 = .ok (.getfield 13, 3) := by decide +kernel
theorem d_Mo_cut_40 : decode b_Mo_cut 40 = .ok (.iload_n 3, 1) := by decide +kernel
theorem d_Mo_cut_41 : decode b_Mo_cut 41 = .ok (.aload_n 0, 1) := by decide +kernel
theorem d_Mo_cut_42 : decode b_Mo_cut 42 = .ok (.getfield 13, 3) := by decide +kernel
theorem d_Mo_cut_45 : decode b_Mo_cut 45 = .ok (.iload_n 3, 1) := by decide +kernel
theorem d_Mo_cut_46 : decode b_Mo_cut 46 = .ok (.iconst 1, 1) := by decide +kernel
theorem d_Mo_cut_47 : decode b_Mo_cut 47 = .ok (.isub, 1) := by decide +kernel
theorem d_Mo_cut_48 : decode b_Mo_cut 48 = .ok (.iaload, 1) := by decide +kernel
