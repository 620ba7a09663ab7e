theorem d_Pt_init_0 : decode b_Pt_init 0 = .ok (.aload_n 0, 1) := by decide +kernel
theorem d_Pt_init_1 : decode b_Pt_init 1 = .ok (.invokespecial 3, 3) := by decide +kernel
theorem d_Pt_init_4 : decode b_Pt_init 4 = .ok (.aload_n 0, 1) := by decide +kernel
theorem d_Pt_init_5 : decode b_Pt_init 5 = .ok (.new 9, 3) := by decide +kernel
theorem d_Pt_init_8 : decode b_Pt_init 8 = .ok (.dup, 1) := by decide +kernel
theorem d_Pt_init_9 : decode b_Pt_init 9 = .ok (.invokespecial 11, 3) := by decide +kernel
theorem d_Pt_init_12 : decode b_Pt_init 12 = .ok (.putfield 12, 3) := by decide +kernel
theorem d_Pt_init_15 : decode b_Pt_init 15 = .ok (.return_, 1) := by decide +kernel
theorem d_Bl_init_0 : decode b_Bl_init 0 = .ok (.aload_n 0, 1) := by decide +kernel
theorem d_Bl_init_1 : decode b_Bl_init 1 = .ok (.invokespecial 5, 3) := by decide +kernel
theorem d_Bl_init_4 : decode b_Bl_init 4 = .ok (.aload_n 0, 1) := by decide +kernel
theorem d_Bl_init_5 : decode b_Bl_init 5 = .ok (.new 11, 3) := by decide +kernel
theorem d_Bl_init_8 : decode b_Bl_init 8 = .ok (.dup, 1) := by decide +kernel
theorem d_Bl_init_9 : decode b_Bl_init 9 = .ok (.invokespecial 13, 3) := by decide +kernel
theorem d_Bl_init_12 : decode b_Bl_init 12 = .ok (.putfield 14, 3) := by decide +kernel
theorem d_Bl_init_15 : decode b_Bl_init 15 = .ok (.aload_n 0, 1) := by decide +kernel
theorem d_Bl_init_16 : decode b_Bl_init 16 = .ok (.ldc 18, 2) := by decide +kernel
theorem d_Bl_init_18 : decode b_Bl_init 18 = .ok (.newarray .int, 2) := by decide +kernel
theorem d_Bl_init_20 : decode b_Bl_init 20 = .ok (.putfield 19, 3) := by decide +kernel
theorem d_Bl_init_23 : decode b_Bl_init 23 = .ok (.aload_n 0, 1) := by decide +kernel
theorem d_Bl_init_24 : decode b_Bl_init 24 = .ok (.sipush 2048, 3) := by decide +kernel
theorem d_Bl_init_27 : decode b_Bl_init 27 = .ok (.newarray .int, 2) := by decide +kernel
theorem d_Bl_init_29 : decode b_Bl_init 29 = .ok (.putfield 23, 3) := by decide +kernel
theorem d_Bl_init_32 : decode b_Bl_init 32 = .ok (.aload_n 0, 1) := by decide +kernel
theorem d_Bl_init_33 : decode b_Bl_init 33 = .ok (.invokevirtual 26, 3) := by decide +kernel
theorem d_Bl_init_36 : decode b_Bl_init 36 = .ok (.return_, 1) := by decide +kernel
theorem d_Rc_init_0 : decode b_Rc_init 0 = .ok (.aload_n 0, 1) := by decide +kernel
theorem d_Rc_init_1 : decode b_Rc_init 1 = .ok (.invokespecial 3, 3) := by decide +kernel
theorem d_Rc_init_4 : decode b_Rc_init 4 = .ok (.aload_n 0, 1) := by decide +kernel
theorem d_Rc_init_5 : decode b_Rc_init 5 = .ok (.sipush 8224, 3) := by decide +kernel
theorem d_Rc_init_8 : decode b_Rc_init 8 = .ok (.newarray .int, 2) := by decide +kernel
theorem d_Rc_init_10 : decode b_Rc_init 10 = .ok (.putfield 11, 3) := by decide +kernel
theorem d_Rc_init_13 : decode b_Rc_init 13 = .ok (.aload_n 0, 1) := by decide +kernel
theorem d_Rc_init_14 : decode b_Rc_init 14 = .ok (.sipush 1028, 3) := by decide +kernel
theorem d_Rc_init_17 : decode b_Rc_init 17 = .ok (.newarray .int, 2) := by decide +kernel
theorem d_Rc_init_19 : decode b_Rc_init 19 = .ok (.putfield 15, 3) := by decide +kernel
theorem d_Rc_init_22 : decode b_Rc_init 22 = .ok (.aload_n 0, 1) := by decide +kernel
theorem d_Rc_init_23 : decode b_Rc_init 23 = .ok (.sipush 1028, 3) := by decide +kernel
theorem d_Rc_init_26 : decode b_Rc_init 26 = .ok (.newarray .int, 2) := by decide +kernel
theorem d_Rc_init_28 : decode b_Rc_init 28 = .ok (.putfield 18, 3) := by decide +kernel
theorem d_Rc_init_31 : decode b_Rc_init 31 = .ok (.aload_n 0, 1) := by decide +kernel
theorem d_Rc_init_32 : decode b_Rc_init 32 = .ok (.sipush 1024, 3) := by decide +kernel
theorem d_Rc_init_35 : decode b_Rc_init 35 = .ok (.newarray .int, 2) := by decide +kernel
theorem d_Rc_init_37 : decode b_Rc_init 37 = .ok (.putfield 21, 3) := by decide +kernel
theorem d_Rc_init_40 : decode b_Rc_init 40 = .ok (.aload_n 0, 1) := by decide +kernel
theorem d_Rc_init_41 : decode b_Rc_init 41 = .ok (.sipush 1028, 3) := by decide +kernel
theorem d_Rc_init_44 : decode b_Rc_init 44 = .ok (.newarray .int, 2) := by decide +kernel
theorem d_Rc_init_46 : decode b_Rc_init 46 = .ok (.putfield 24, 3) := by decide +kernel
theorem d_Rc_init_49 : decode b_Rc_init 49 = .ok (.aload_n 0, 1) := by decide +kernel
theorem d_Rc_init_50 : decode b_Rc_init 50 = .ok (.sipush 1028, 3) := by decide +kernel
theorem d_Rc_init_53 : decode b_Rc_init 53 = .ok (.newarray .int, 2) := by decide +kernel
theorem d_Rc_init_55 : decode b_Rc_init 55 = .ok (.putfield 27, 3) := by decide +kernel
theorem d_Rc_init_58 : decode b_Rc_init 58 = .ok (.aload_n 0, 1) := by decide +kernel
theorem d_Rc_init_59 : decode b_Rc_init 59 = .ok (.bipush 8, 2) := by decide +kernel
theorem d_Rc_init_61 : decode b_Rc_init 61 = .ok (.newarray .int, 2) := by decide +kernel
theorem d_Rc_init_63 : decode b_Rc_init 63 = .ok (.putfield 30, 3) := by decide +kernel
theorem d_Rc_init_66 : decode b_Rc_init 66 = .ok (.aload_n 0, 1) := by decide +kernel
theorem d_Rc_init_67 : decode b_Rc_init 67 = .ok (.invokevirtual 33, 3) := by decide +kernel
theorem d_Rc_init_70 : decode b_Rc_init 70 = .ok (.return_, 1) := by decide +kernel
theorem d_Rc_empty_0 : decode b_Rc_empty 0 = .ok (.aload_n 0, 1) := by decide +kernel
theorem d_Rc_empty_1 : decode b_Rc_empty 1 = .ok (.getfield 21, 3) := by decide +kernel
theorem d_Rc_empty_4 : decode b_Rc_empty 4 = .ok (.iconst (-1), 1) := by decide +kernel
theorem d_Rc_empty_5 : decode b_Rc_empty 5 = .ok (.invokestatic 36, 3) := by decide +kernel
theorem d_Rc_empty_8 : decode b_Rc_empty 8 = .ok (.aload_n 0, 1) := by decide +kernel
theorem d_Rc_empty_9 : decode b_Rc_empty 9 = .ok (.getfield 15, 3) := by decide +kernel
theorem d_Rc_empty_12 : decode b_Rc_empty 12 = .ok (.iconst 0, 1) := by decide +kernel
theorem d_Rc_empty_13 : decode b_Rc_empty 13 = .ok (.invokestatic 36, 3) := by decide +kernel
theorem d_Rc_empty_16 : decode b_Rc_empty 16 = .ok (.iconst 0, 1) := by decide +kernel
theorem d_Rc_empty_17 : decode b_Rc_empty 17 = .ok (.istore_n 1, 1) := by decide +kernel
theorem d_Rc_empty_18 : decode b_Rc_empty 18 = .ok (.iload_n 1, 1) := by decide +kernel
theorem d_Rc_empty_19 : decode b_Rc_empty 19 = .ok (.sipush 1028, 3) := by decide +kernel
theorem d_Rc_empty_22 : decode b_Rc_empty 22 = .ok (.if_icmp .ge 20, 3) := by decide +kernel
theorem d_Rc_empty_25 : decode b_Rc_empty 25 = .ok (.aload_n 0, 1) := by decide +kernel
theorem d_Rc_empty_26 : decode b_Rc_empty 26 = .ok (.getfield 18, 3) := by decide +kernel
theorem d_Rc_empty_29 : decode b_Rc_empty 29 = .ok (.iload_n 1, 1) := by decide +kernel
theorem d_Rc_empty_30 : decode b_Rc_empty 30 = .ok (.sipush 1027, 3) := by decide +kernel
theorem d_Rc_empty_33 : decode b_Rc_empty 33 = .ok (.iload_n 1, 1) := by decide +kernel
theorem d_Rc_empty_34 : decode b_Rc_empty 34 = .ok (.isub, 1) := by decide +kernel
theorem d_Rc_empty_35 : decode b_Rc_empty 35 = .ok (.iastore, 1) := by decide +kernel
theorem d_Rc_empty_36 : decode b_Rc_empty 36 = .ok (.iinc 1 1, 3) := by decide +kernel
theorem d_Rc_empty_39 : decode b_Rc_empty 39 = .ok (.goto (-21), 3) := by decide +kernel
theorem d_Rc_empty_42 : decode b_Rc_empty 42 = .ok (.aload_n 0, 1) := by decide +kernel
theorem d_Rc_empty_43 : decode b_Rc_empty 43 = .ok (.sipush 1028, 3) := by decide +kernel
theorem d_Rc_empty_46 : decode b_Rc_empty 46 = .ok (.putfield 42, 3) := by decide +kernel
theorem d_Rc_empty_49 : decode b_Rc_empty 49 = .ok (.aload_n 0, 1) := by decide +kernel
theorem d_Rc_empty_50 : decode b_Rc_empty 50 = .ok (.getfield 30, 3) := by decide +kernel
theorem d_Rc_empty_53 : decode b_Rc_empty 53 = .ok (.iconst 0, 1) := by decide +kernel
theorem d_Rc_empty_54 : decode b_Rc_empty 54 = .ok (.invokestatic 36, 3) := by decide +kernel
theorem d_Rc_empty_57 : decode b_Rc_empty 57 = .ok (.aload_n 0, 1) := by decide +kernel
theorem d_Rc_empty_58 : decode b_Rc_empty 58 = .ok (.aload_n 0, 1) := by decide +kernel
theorem d_Rc_empty_59 : decode b_Rc_empty 59 = .ok (.aload_n 0, 1) := by decide +kernel
theorem d_Rc_empty_60 : decode b_Rc_empty 60 = .ok (.getfield 30, 3) := by decide +kernel
theorem d_Rc_empty_63 : decode b_Rc_empty 63 = .ok (.iconst 0, 1) := by decide +kernel
theorem d_Rc_empty_64 : decode b_Rc_empty 64 = .ok (.invokestatic 46, 3) := by decide +kernel
theorem d_Rc_empty_67 : decode b_Rc_empty 67 = .ok (.invokevirtual 50, 3) := by decide +kernel
theorem d_Rc_empty_70 : decode b_Rc_empty 70 = .ok (.iconst 1, 1) := by decide +kernel
theorem d_Rc_empty_71 : decode b_Rc_empty 71 = .ok (.invokevirtual 54, 3) := by decide +kernel
theorem d_Rc_empty_74 : decode b_Rc_empty 74 = .ok (.return_, 1) := by decide +kernel
theorem d_Ar_fill2_0 : decode b_Ar_fill2 0 = .ok (.iconst 0, 1) := by decide +kernel
theorem d_Ar_fill2_1 : decode b_Ar_fill2 1 = .ok (.istore_n 2, 1) := by decide +kernel
theorem d_Ar_fill2_2 : decode b_Ar_fill2 2 = .ok (.aload_n 0, 1) := by decide +kernel
theorem d_Ar_fill2_3 : decode b_Ar_fill2 3 = .ok (.arraylength, 1) := by decide +kernel
theorem d_Ar_fill2_4 : decode b_Ar_fill2 4 = .ok (.istore_n 3, 1) := by decide +kernel
theorem d_Ar_fill2_5 : decode b_Ar_fill2 5 = .ok (.iload_n 2, 1) := by decide +kernel
theorem d_Ar_fill2_6 : decode b_Ar_fill2 6 = .ok (.iload_n 3, 1) := by decide +kernel
theorem d_Ar_fill2_7 : decode b_Ar_fill2 7 = .ok (.if_icmp .ge 13, 3) := by decide +kernel
theorem d_Ar_fill2_10 : decode b_Ar_fill2 10 = .ok (.aload_n 0, 1) := by decide +kernel
theorem d_Ar_fill2_11 : decode b_Ar_fill2 11 = .ok (.iload_n 2, 1) := by decide +kernel
theorem d_Ar_fill2_12 : decode b_Ar_fill2 12 = .ok (.iload_n 1, 1) := by decide +kernel
theorem d_Ar_fill2_13 : decode b_Ar_fill2 13 = .ok (.iastore, 1) := by decide +kernel
theorem d_Ar_fill2_14 : decode b_Ar_fill2 14 = .ok (.iinc 2 1, 3) := by decide +kernel
theorem d_Ar_fill2_17 : decode b_Ar_fill2 17 = .ok (.goto (-12), 3) := by decide +kernel
theorem d_Ar_fill2_20 : decode b_Ar_fill2 20 = .ok (.return_, 1) := by decide +kernel
theorem d_Rc_chainOf_0 : decode b_Rc_chainOf 0 = .ok (.iconst 0, 1) := by decide +kernel
theorem d_Rc_chainOf_1 : decode b_Rc_chainOf 1 = .ok (.istore_n 2, 1) := by decide +kernel
theorem d_Rc_chainOf_2 : decode b_Rc_chainOf 2 = .ok (.iload_n 1, 1) := by decide +kernel
theorem d_Rc_chainOf_3 : decode b_Rc_chainOf 3 = .ok (.istore_n 3, 1) := by decide +kernel
theorem d_Rc_chainOf_4 : decode b_Rc_chainOf 4 = .ok (.iload_n 3, 1) := by decide +kernel
theorem d_Rc_chainOf_5 : decode b_Rc_chainOf 5 = .ok (.iload_n 1, 1) := by decide +kernel
theorem d_Rc_chainOf_6 : decode b_Rc_chainOf 6 = .ok (.bipush 8, 2) := by decide +kernel
theorem d_Rc_chainOf_8 : decode b_Rc_chainOf 8 = .ok (.iadd, 1) := by decide +kernel
theorem d_Rc_chainOf_9 : decode b_Rc_chainOf 9 = .ok (.if_icmp .ge 18, 3) := by decide +kernel
theorem d_Rc_chainOf_12 : decode b_Rc_chainOf 12 = .ok (.bipush 31, 2) := by decide +kernel
theorem d_Rc_chainOf_14 : decode b_Rc_chainOf 14 = .ok (.iload_n 2, 1) := by decide +kernel
theorem d_Rc_chainOf_15 : decode b_Rc_chainOf 15 = .ok (.imul, 1) := by decide +kernel
theorem d_Rc_chainOf_16 : decode b_Rc_chainOf 16 = .ok (.aload_n 0, 1) := by decide +kernel
theorem d_Rc_chainOf_17 : decode b_Rc_chainOf 17 = .ok (.iload_n 3, 1) := by decide +kernel
theorem d_Rc_chainOf_18 : decode b_Rc_chainOf 18 = .ok (.iaload, 1) := by decide +kernel
theorem d_Rc_chainOf_19 : decode b_Rc_chainOf 19 = .ok (.iadd, 1) := by decide +kernel
theorem d_Rc_chainOf_20 : decode b_Rc_chainOf 20 = .ok (.istore_n 2, 1) := by decide +kernel
theorem d_Rc_chainOf_21 : decode b_Rc_chainOf 21 = .ok (.iinc 3 1, 3) := by decide +kernel
theorem d_Rc_chainOf_24 : decode b_Rc_chainOf 24 = .ok (.goto (-20), 3) := by decide +kernel
theorem d_Rc_chainOf_27 : decode b_Rc_chainOf 27 = .ok (.iload_n 2, 1) := by decide +kernel
theorem d_Rc_chainOf_28 : decode b_Rc_chainOf 28 = .ok (.iload_n 2, 1) := by decide +kernel
theorem d_Rc_chainOf_29 : decode b_Rc_chainOf 29 = .ok (.bipush 20, 2) := by decide +kernel
theorem d_Rc_chainOf_31 : decode b_Rc_chainOf 31 = .ok (.iushr, 1) := by decide +kernel
theorem d_Rc_chainOf_32 : decode b_Rc_chainOf 32 = .ok (.iload_n 2, 1) := by decide +kernel
theorem d_Rc_chainOf_33 : decode b_Rc_chainOf 33 = .ok (.bipush 10, 2) := by decide +kernel
theorem d_Rc_chainOf_35 : decode b_Rc_chainOf 35 = .ok (.iushr, 1) := by decide +kernel
theorem d_Rc_chainOf_36 : decode b_Rc_chainOf 36 = .ok (.ixor, 1) := by decide +kernel
theorem d_Rc_chainOf_37 : decode b_Rc_chainOf 37 = .ok (.ixor, 1) := by decide +kernel
theorem d_Rc_chainOf_38 : decode b_Rc_chainOf 38 = .ok (.istore_n 2, 1) := by decide +kernel
theorem d_Rc_chainOf_39 : decode b_Rc_chainOf 39 = .ok (.iload_n 2, 1) := by decide +kernel
theorem d_Rc_chainOf_40 : decode b_Rc_chainOf 40 = .ok (.sipush 1023, 3) := by decide +kernel
theorem d_Rc_chainOf_43 : decode b_Rc_chainOf 43 = .ok (.iand, 1) := by decide +kernel
theorem d_Rc_chainOf_44 : decode b_Rc_chainOf 44 = .ok (.ireturn, 1) := by decide +kernel
theorem d_Rc_keepWanted_0 : decode b_Rc_keepWanted 0 = .ok (.aload_n 0, 1) := by decide +kernel
theorem d_Rc_keepWanted_1 : decode b_Rc_keepWanted 1 = .ok (.dup, 1) := by decide +kernel
theorem d_Rc_keepWanted_2 : decode b_Rc_keepWanted 2 = .ok (.getfield 42, 3) := by decide +kernel
theorem d_Rc_keepWanted_5 : decode b_Rc_keepWanted 5 = .ok (.iconst 1, 1) := by decide +kernel
theorem d_Rc_keepWanted_6 : decode b_Rc_keepWanted 6 = .ok (.isub, 1) := by decide +kernel
theorem d_Rc_keepWanted_7 : decode b_Rc_keepWanted 7 = .ok (.putfield 42, 3) := by decide +kernel
theorem d_Rc_keepWanted_10 : decode b_Rc_keepWanted 10 = .ok (.aload_n 0, 1) := by decide +kernel
theorem d_Rc_keepWanted_11 : decode b_Rc_keepWanted 11 = .ok (.getfield 18, 3) := by decide +kernel
theorem d_Rc_keepWanted_14 : decode b_Rc_keepWanted 14 = .ok (.aload_n 0, 1) := by decide +kernel
theorem d_Rc_keepWanted_15 : decode b_Rc_keepWanted 15 = .ok (.getfield 42, 3) := by decide +kernel
theorem d_Rc_keepWanted_18 : decode b_Rc_keepWanted 18 = .ok (.iaload, 1) := by decide +kernel
theorem d_Rc_keepWanted_19 : decode b_Rc_keepWanted 19 = .ok (.istore_n 2, 1) := by decide +kernel
theorem d_Rc_keepWanted_20 : decode b_Rc_keepWanted 20 = .ok (.aload_n 0, 1) := by decide +kernel
theorem d_Rc_keepWanted_21 : decode b_Rc_keepWanted 21 = .ok (.getfield 30, 3) := by decide +kernel
theorem d_Rc_keepWanted_24 : decode b_Rc_keepWanted 24 = .ok (.iconst 0, 1) := by decide +kernel
theorem d_Rc_keepWanted_25 : decode b_Rc_keepWanted 25 = .ok (.aload_n 0, 1) := by decide +kernel
theorem d_Rc_keepWanted_26 : decode b_Rc_keepWanted 26 = .ok (.getfield 11, 3) := by decide +kernel
theorem d_Rc_keepWanted_29 : decode b_Rc_keepWanted 29 = .ok (.iload_n 2, 1) := by decide +kernel
theorem d_Rc_keepWanted_30 : decode b_Rc_keepWanted 30 = .ok (.bipush 8, 2) := by decide +kernel
theorem d_Rc_keepWanted_32 : decode b_Rc_keepWanted 32 = .ok (.imul, 1) := by decide +kernel
theorem d_Rc_keepWanted_33 : decode b_Rc_keepWanted 33 = .ok (.bipush 8, 2) := by decide +kernel
theorem d_Rc_keepWanted_35 : decode b_Rc_keepWanted 35 = .ok (.invokestatic 71, 3) := by decide +kernel
theorem d_Rc_keepWanted_38 : decode b_Rc_keepWanted 38 = .ok (.aload_n 0, 1) := by decide +kernel
theorem d_Rc_keepWanted_39 : decode b_Rc_keepWanted 39 = .ok (.getfield 24, 3) := by decide +kernel
theorem d_Rc_keepWanted_42 : decode b_Rc_keepWanted 42 = .ok (.iload_n 2, 1) := by decide +kernel
theorem d_Rc_keepWanted_43 : decode b_Rc_keepWanted 43 = .ok (.aload_n 0, 1) := by decide +kernel
theorem d_Rc_keepWanted_44 : decode b_Rc_keepWanted 44 = .ok (.getfield 21, 3) := by decide +kernel
theorem d_Rc_keepWanted_47 : decode b_Rc_keepWanted 47 = .ok (.iload_n 1, 1) := by decide +kernel
theorem d_Rc_keepWanted_48 : decode b_Rc_keepWanted 48 = .ok (.iaload, 1) := by decide +kernel
theorem d_Rc_keepWanted_49 : decode b_Rc_keepWanted 49 = .ok (.iastore, 1) := by decide +kernel
theorem d_Rc_keepWanted_50 : decode b_Rc_keepWanted 50 = .ok (.aload_n 0, 1) := by decide +kernel
theorem d_Rc_keepWanted_51 : decode b_Rc_keepWanted 51 = .ok (.getfield 21, 3) := by decide +kernel
theorem d_Rc_keepWanted_54 : decode b_Rc_keepWanted 54 = .ok (.iload_n 1, 1) := by decide +kernel
theorem d_Rc_keepWanted_55 : decode b_Rc_keepWanted 55 = .ok (.iload_n 2, 1) := by decide +kernel
theorem d_Rc_keepWanted_56 : decode b_Rc_keepWanted 56 = .ok (.iastore, 1) := by decide +kernel
theorem d_Rc_keepWanted_57 : decode b_Rc_keepWanted 57 = .ok (.iload_n 2, 1) := by decide +kernel
theorem d_Rc_keepWanted_58 : decode b_Rc_keepWanted 58 = .ok (.ireturn, 1) := by decide +kernel
theorem d_Rc_hold_0 : decode b_Rc_hold 0 = .ok (.aload_n 0, 1) := by decide +kernel
theorem d_Rc_hold_1 : decode b_Rc_hold 1 = .ok (.getfield 15, 3) := by decide +kernel
theorem d_Rc_hold_4 : decode b_Rc_hold 4 = .ok (.iload_n 1, 1) := by decide +kernel
theorem d_Rc_hold_5 : decode b_Rc_hold 5 = .ok (.dup2, 1) := by decide +kernel
theorem d_Rc_hold_6 : decode b_Rc_hold 6 = .ok (.iaload, 1) := by decide +kernel
theorem d_Rc_hold_7 : decode b_Rc_hold 7 = .ok (.iload_n 2, 1) := by decide +kernel
theorem d_Rc_hold_8 : decode b_Rc_hold 8 = .ok (.iadd, 1) := by decide +kernel
theorem d_Rc_hold_9 : decode b_Rc_hold 9 = .ok (.iastore, 1) := by decide +kernel
theorem d_Rc_hold_10 : decode b_Rc_hold 10 = .ok (.return_, 1) := by decide +kernel
theorem d_Bl_empty_0 : decode b_Bl_empty 0 = .ok (.aload_n 0, 1) := by decide +kernel
theorem d_Bl_empty_1 : decode b_Bl_empty 1 = .ok (.getfield 14, 3) := by decide +kernel
theorem d_Bl_empty_4 : decode b_Bl_empty 4 = .ok (.invokevirtual 29, 3) := by decide +kernel
theorem d_Bl_empty_7 : decode b_Bl_empty 7 = .ok (.aload_n 0, 1) := by decide +kernel
theorem d_Bl_empty_8 : decode b_Bl_empty 8 = .ok (.getfield 19, 3) := by decide +kernel
theorem d_Bl_empty_11 : decode b_Bl_empty 11 = .ok (.iconst 0, 1) := by decide +kernel
theorem d_Bl_empty_12 : decode b_Bl_empty 12 = .ok (.sipush 1088, 3) := by decide +kernel
theorem d_Bl_empty_15 : decode b_Bl_empty 15 = .ok (.iconst 0, 1) := by decide +kernel
theorem d_Bl_empty_16 : decode b_Bl_empty 16 = .ok (.invokestatic 30, 3) := by decide +kernel
theorem d_Bl_empty_19 : decode b_Bl_empty 19 = .ok (.aload_n 0, 1) := by decide +kernel
theorem d_Bl_empty_20 : decode b_Bl_empty 20 = .ok (.getfield 14, 3) := by decide +kernel
theorem d_Bl_empty_23 : decode b_Bl_empty 23 = .ok (.iconst 0, 1) := by decide +kernel
theorem d_Bl_empty_24 : decode b_Bl_empty 24 = .ok (.sipush 1088, 3) := by decide +kernel
theorem d_Bl_empty_27 : decode b_Bl_empty 27 = .ok (.invokevirtual 36, 3) := by decide +kernel
theorem d_Bl_empty_30 : decode b_Bl_empty 30 = .ok (.iconst 0, 1) := by decide +kernel
theorem d_Bl_empty_31 : decode b_Bl_empty 31 = .ok (.istore_n 1, 1) := by decide +kernel
theorem d_Bl_empty_32 : decode b_Bl_empty 32 = .ok (.iload_n 1, 1) := by decide +kernel
theorem d_Bl_empty_33 : decode b_Bl_empty 33 = .ok (.sipush 2048, 3) := by decide +kernel
theorem d_Bl_empty_36 : decode b_Bl_empty 36 = .ok (.if_icmp .ge 23, 3) := by decide +kernel
theorem d_Bl_empty_39 : decode b_Bl_empty 39 = .ok (.aload_n 0, 1) := by decide +kernel
theorem d_Bl_empty_40 : decode b_Bl_empty 40 = .ok (.getfield 23, 3) := by decide +kernel
theorem d_Bl_empty_43 : decode b_Bl_empty 43 = .ok (.iload_n 1, 1) := by decide +kernel
theorem d_Bl_empty_44 : decode b_Bl_empty 44 = .ok (.sipush 1088, 3) := by decide +kernel
theorem d_Bl_empty_47 : decode b_Bl_empty 47 = .ok (.iload_n 1, 1) := by decide +kernel
theorem d_Bl_empty_48 : decode b_Bl_empty 48 = .ok (.bipush 32, 2) := by decide +kernel
theorem d_Bl_empty_50 : decode b_Bl_empty 50 = .ok (.imul, 1) := by decide +kernel
theorem d_Bl_empty_51 : decode b_Bl_empty 51 = .ok (.iadd, 1) := by decide +kernel
theorem d_Bl_empty_52 : decode b_Bl_empty 52 = .ok (.iastore, 1) := by decide +kernel
theorem d_Bl_empty_53 : decode b_Bl_empty 53 = .ok (.iinc 1 1, 3) := by decide +kernel
theorem d_Bl_empty_56 : decode b_Bl_empty 56 = .ok (.goto (-24), 3) := by decide +kernel
theorem d_Bl_empty_59 : decode b_Bl_empty 59 = .ok (.aload_n 0, 1) := by decide +kernel
theorem d_Bl_empty_60 : decode b_Bl_empty 60 = .ok (.sipush 2048, 3) := by decide +kernel
theorem d_Bl_empty_63 : decode b_Bl_empty 63 = .ok (.putfield 40, 3) := by decide +kernel
theorem d_Bl_empty_66 : decode b_Bl_empty 66 = .ok (.return_, 1) := by decide +kernel
theorem d_Ar_fill4_0 : decode b_Ar_fill4 0 = .ok (.aload_n 0, 1) := by decide +kernel
theorem d_Ar_fill4_1 : decode b_Ar_fill4 1 = .ok (.arraylength, 1) := by decide +kernel
theorem d_Ar_fill4_2 : decode b_Ar_fill4 2 = .ok (.iload_n 1, 1) := by decide +kernel
theorem d_Ar_fill4_3 : decode b_Ar_fill4 3 = .ok (.iload_n 2, 1) := by decide +kernel
theorem d_Ar_fill4_4 : decode b_Ar_fill4 4 = .ok (.invokestatic 13, 3) := by decide +kernel
theorem d_Ar_fill4_7 : decode b_Ar_fill4 7 = .ok (.iload_n 1, 1) := by decide +kernel
theorem d_Ar_fill4_8 : decode b_Ar_fill4 8 = .ok (.istore 4, 2) := by decide +kernel
theorem d_Ar_fill4_10 : decode b_Ar_fill4 10 = .ok (.iload 4, 2) := by decide +kernel
theorem d_Ar_fill4_12 : decode b_Ar_fill4 12 = .ok (.iload_n 2, 1) := by decide +kernel
theorem d_Ar_fill4_13 : decode b_Ar_fill4 13 = .ok (.if_icmp .ge 14, 3) := by decide +kernel
theorem d_Ar_fill4_16 : decode b_Ar_fill4 16 = .ok (.aload_n 0, 1) := by decide +kernel
theorem d_Ar_fill4_17 : decode b_Ar_fill4 17 = .ok (.iload 4, 2) := by decide +kernel
theorem d_Ar_fill4_19 : decode b_Ar_fill4 19 = .ok (.iload_n 3, 1) := by decide +kernel
theorem d_Ar_fill4_20 : decode b_Ar_fill4 20 = .ok (.iastore, 1) := by decide +kernel
theorem d_Ar_fill4_21 : decode b_Ar_fill4 21 = .ok (.iinc 4 1, 3) := by decide +kernel
theorem d_Ar_fill4_24 : decode b_Ar_fill4 24 = .ok (.goto (-14), 3) := by decide +kernel
theorem d_Ar_fill4_27 : decode b_Ar_fill4 27 = .ok (.return_, 1) := by decide +kernel
theorem d_Ar_rangeCheck_0 : decode b_Ar_rangeCheck 0 = .ok (.iload_n 1, 1) := by decide +kernel
theorem d_Ar_rangeCheck_1 : decode b_Ar_rangeCheck 1 = .ok (.iload_n 2, 1) := by decide +kernel
theorem d_Ar_rangeCheck_2 : decode b_Ar_rangeCheck 2 = .ok (.if_icmp .le 44, 3) := by decide +kernel
theorem d_Ar_rangeCheck_5 : decode b_Ar_rangeCheck 5 = .ok (.new 43, 3) := by decide +kernel
theorem d_Ar_rangeCheck_8 : decode b_Ar_rangeCheck 8 = .ok (.dup, 1) := by decide +kernel
theorem d_Ar_rangeCheck_9 : decode b_Ar_rangeCheck 9 = .ok (.new 45, 3) := by decide +kernel
theorem d_Ar_rangeCheck_12 : decode b_Ar_rangeCheck 12 = .ok (.dup, 1) := by decide +kernel
theorem d_Ar_rangeCheck_13 : decode b_Ar_rangeCheck 13 = .ok (.invokespecial 47, 3) := by decide +kernel
theorem d_Ar_rangeCheck_16 : decode b_Ar_rangeCheck 16 = .ok (.ldc 48, 2) := by decide +kernel
theorem d_Ar_rangeCheck_18 : decode b_Ar_rangeCheck 18 = .ok (.invokevirtual 50, 3) := by decide +kernel
theorem d_Ar_rangeCheck_21 : decode b_Ar_rangeCheck 21 = .ok (.iload_n 1, 1) := by decide +kernel
theorem d_Ar_rangeCheck_22 : decode b_Ar_rangeCheck 22 = .ok (.invokevirtual 54, 3) := by decide +kernel
theorem d_Ar_rangeCheck_25 : decode b_Ar_rangeCheck 25 = .ok (.ldc 57, 2) := by decide +kernel
theorem d_Ar_rangeCheck_27 : decode b_Ar_rangeCheck 27 = .ok (.invokevirtual 50, 3) := by decide +kernel
theorem d_Ar_rangeCheck_30 : decode b_Ar_rangeCheck 30 = .ok (.iload_n 2, 1) := by decide +kernel
theorem d_Ar_rangeCheck_31 : decode b_Ar_rangeCheck 31 = .ok (.invokevirtual 54, 3) := by decide +kernel
theorem d_Ar_rangeCheck_34 : decode b_Ar_rangeCheck 34 = .ok (.ldc 59, 2) := by decide +kernel
theorem d_Ar_rangeCheck_36 : decode b_Ar_rangeCheck 36 = .ok (.invokevirtual 50, 3) := by decide +kernel
theorem d_Ar_rangeCheck_39 : decode b_Ar_rangeCheck 39 = .ok (.invokevirtual 61, 3) := by decide +kernel
theorem d_Ar_rangeCheck_42 : decode b_Ar_rangeCheck 42 = .ok (.invokespecial 65, 3) := by decide +kernel
theorem d_Ar_rangeCheck_45 : decode b_Ar_rangeCheck 45 = .ok (.athrow, 1) := by decide +kernel
theorem d_Ar_rangeCheck_46 : decode b_Ar_rangeCheck 46 = .ok (.iload_n 1, 1) := by decide +kernel
theorem d_Ar_rangeCheck_47 : decode b_Ar_rangeCheck 47 = .ok (.ifCond .ge 12, 3) := by decide +kernel
theorem d_Ar_rangeCheck_50 : decode b_Ar_rangeCheck 50 = .ok (.new 68, 3) := by decide +kernel
theorem d_Ar_rangeCheck_53 : decode b_Ar_rangeCheck 53 = .ok (.dup, 1) := by decide +kernel
theorem d_Ar_rangeCheck_54 : decode b_Ar_rangeCheck 54 = .ok (.iload_n 1, 1) := by decide +kernel
theorem d_Ar_rangeCheck_55 : decode b_Ar_rangeCheck 55 = .ok (.invokespecial 70, 3) := by decide +kernel
theorem d_Ar_rangeCheck_58 : decode b_Ar_rangeCheck 58 = .ok (.athrow, 1) := by decide +kernel
theorem d_Ar_rangeCheck_59 : decode b_Ar_rangeCheck 59 = .ok (.iload_n 2, 1) := by decide +kernel
theorem d_Ar_rangeCheck_60 : decode b_Ar_rangeCheck 60 = .ok (.iload_n 0, 1) := by decide +kernel
theorem d_Ar_rangeCheck_61 : decode b_Ar_rangeCheck 61 = .ok (.if_icmp .le 12, 3) := by decide +kernel
theorem d_Ar_rangeCheck_64 : decode b_Ar_rangeCheck 64 = .ok (.new 68, 3) := by decide +kernel
theorem d_Ar_rangeCheck_67 : decode b_Ar_rangeCheck 67 = .ok (.dup, 1) := by decide +kernel
theorem d_Ar_rangeCheck_68 : decode b_Ar_rangeCheck 68 = .ok (.iload_n 2, 1) := by decide +kernel
theorem d_Ar_rangeCheck_69 : decode b_Ar_rangeCheck 69 = .ok (.invokespecial 70, 3) := by decide +kernel
theorem d_Ar_rangeCheck_72 : decode b_Ar_rangeCheck 72 = .ok (.athrow, 1) := by decide +kernel
theorem d_Ar_rangeCheck_73 : decode b_Ar_rangeCheck 73 = .ok (.return_, 1) := by decide +kernel
theorem d_Pt_clear_0 : decode b_Pt_clear 0 = .ok (.iconst 0, 1) := by decide +kernel
theorem d_Pt_clear_1 : decode b_Pt_clear 1 = .ok (.istore_n 1, 1) := by decide +kernel
theorem d_Pt_clear_2 : decode b_Pt_clear 2 = .ok (.iconst 0, 1) := by decide +kernel
theorem d_Pt_clear_3 : decode b_Pt_clear 3 = .ok (.istore_n 2, 1) := by decide +kernel
theorem d_Pt_clear_4 : decode b_Pt_clear 4 = .ok (.iload_n 2, 1) := by decide +kernel
theorem d_Pt_clear_5 : decode b_Pt_clear 5 = .ok (.sipush 1024, 3) := by decide +kernel
theorem d_Pt_clear_8 : decode b_Pt_clear 8 = .ok (.if_icmp .ge 52, 3) := by decide +kernel
theorem d_Pt_clear_11 : decode b_Pt_clear 11 = .ok (.aload_n 0, 1) := by decide +kernel
theorem d_Pt_clear_12 : decode b_Pt_clear 12 = .ok (.getfield 12, 3) := by decide +kernel
theorem d_Pt_clear_15 : decode b_Pt_clear 15 = .ok (.iload_n 2, 1) := by decide +kernel
theorem d_Pt_clear_16 : decode b_Pt_clear 16 = .ok (.invokevirtual 58, 3) := by decide +kernel
theorem d_Pt_clear_19 : decode b_Pt_clear 19 = .ok (.ifCond .ne 7, 3) := by decide +kernel
theorem d_Pt_clear_22 : decode b_Pt_clear 22 = .ok (.iconst 1, 1) := by decide +kernel
theorem d_Pt_clear_23 : decode b_Pt_clear 23 = .ok (.goto 4, 3) := by decide +kernel
theorem d_Pt_clear_26 : decode b_Pt_clear 26 = .ok (.iconst 0, 1) := by decide +kernel
theorem d_Pt_clear_27 : decode b_Pt_clear 27 = .ok (.istore_n 3, 1) := by decide +kernel
theorem d_Pt_clear_28 : decode b_Pt_clear 28 = .ok (.iload_n 2, 1) := by decide +kernel
theorem d_Pt_clear_29 : decode b_Pt_clear 29 = .ok (.aload_n 0, 1) := by decide +kernel
theorem d_Pt_clear_30 : decode b_Pt_clear 30 = .ok (.getfield 12, 3) := by decide +kernel
theorem d_Pt_clear_33 : decode b_Pt_clear 33 = .ok (.getfield 49, 3) := by decide +kernel
theorem d_Pt_clear_36 : decode b_Pt_clear 36 = .ok (.invokestatic 53, 3) := by decide +kernel
theorem d_Pt_clear_39 : decode b_Pt_clear 39 = .ok (.iconst 1, 1) := by decide +kernel
theorem d_Pt_clear_40 : decode b_Pt_clear 40 = .ok (.iadd, 1) := by decide +kernel
theorem d_Pt_clear_41 : decode b_Pt_clear 41 = .ok (.istore 4, 2) := by decide +kernel
theorem d_Pt_clear_43 : decode b_Pt_clear 43 = .ok (.iload_n 3, 1) := by decide +kernel
theorem d_Pt_clear_44 : decode b_Pt_clear 44 = .ok (.ifCond .ne 10, 3) := by decide +kernel
theorem d_Pt_clear_47 : decode b_Pt_clear 47 = .ok (.iload_n 1, 1) := by decide +kernel
theorem d_Pt_clear_48 : decode b_Pt_clear 48 = .ok (.iload 4, 2) := by decide +kernel
theorem d_Pt_clear_50 : decode b_Pt_clear 50 = .ok (.iload_n 2, 1) := by decide +kernel
theorem d_Pt_clear_51 : decode b_Pt_clear 51 = .ok (.isub, 1) := by decide +kernel
theorem d_Pt_clear_52 : decode b_Pt_clear 52 = .ok (.iadd, 1) := by decide +kernel
theorem d_Pt_clear_53 : decode b_Pt_clear 53 = .ok (.istore_n 1, 1) := by decide +kernel
theorem d_Pt_clear_54 : decode b_Pt_clear 54 = .ok (.iload 4, 2) := by decide +kernel
theorem d_Pt_clear_56 : decode b_Pt_clear 56 = .ok (.istore_n 2, 1) := by decide +kernel
theorem d_Pt_clear_57 : decode b_Pt_clear 57 = .ok (.goto (-53), 3) := by decide +kernel
theorem d_Pt_clear_60 : decode b_Pt_clear 60 = .ok (.aload_n 0, 1) := by decide +kernel
theorem d_Pt_clear_61 : decode b_Pt_clear 61 = .ok (.getfield 12, 3) := by decide +kernel
theorem d_Pt_clear_64 : decode b_Pt_clear 64 = .ok (.invokevirtual 65, 3) := by decide +kernel
theorem d_Pt_clear_67 : decode b_Pt_clear 67 = .ok (.iload_n 1, 1) := by decide +kernel
theorem d_Pt_clear_68 : decode b_Pt_clear 68 = .ok (.ireturn, 1) := by decide +kernel
theorem d_Bl_recordOf_0 : decode b_Bl_recordOf 0 = .ok (.aload_n 0, 1) := by decide +kernel
theorem d_Bl_recordOf_1 : decode b_Bl_recordOf 1 = .ok (.iload_n 1, 1) := by decide +kernel
theorem d_Bl_recordOf_2 : decode b_Bl_recordOf 2 = .ok (.invokevirtual 44, 3) := by decide +kernel
theorem d_Bl_recordOf_5 : decode b_Bl_recordOf 5 = .ok (.aload_n 0, 1) := by decide +kernel
theorem d_Bl_recordOf_6 : decode b_Bl_recordOf 6 = .ok (.getfield 19, 3) := by decide +kernel
theorem d_Bl_recordOf_9 : decode b_Bl_recordOf 9 = .ok (.aload_n 0, 1) := by decide +kernel
theorem d_Bl_recordOf_10 : decode b_Bl_recordOf 10 = .ok (.getfield 48, 3) := by decide +kernel
theorem d_Bl_recordOf_13 : decode b_Bl_recordOf 13 = .ok (.iaload, 1) := by decide +kernel
theorem d_Bl_recordOf_14 : decode b_Bl_recordOf 14 = .ok (.ireturn, 1) := by decide +kernel
theorem d_Bl_find_0 : decode b_Bl_find 0 = .ok (.bipush 10, 2) := by decide +kernel
theorem d_Bl_find_2 : decode b_Bl_find 2 = .ok (.istore_n 2, 1) := by decide +kernel
theorem d_Bl_find_3 : decode b_Bl_find 3 = .ok (.aload_n 0, 1) := by decide +kernel
theorem d_Bl_find_4 : decode b_Bl_find 4 = .ok (.iload_n 1, 1) := by decide +kernel
theorem d_Bl_find_5 : decode b_Bl_find 5 = .ok (.iload_n 2, 1) := by decide +kernel
theorem d_Bl_find_6 : decode b_Bl_find 6 = .ok (.ishr, 1) := by decide +kernel
theorem d_Bl_find_7 : decode b_Bl_find 7 = .ok (.putfield 48, 3) := by decide +kernel
theorem d_Bl_find_10 : decode b_Bl_find 10 = .ok (.iload_n 2, 1) := by decide +kernel
theorem d_Bl_find_11 : decode b_Bl_find 11 = .ok (.ifCond .le 42, 3) := by decide +kernel
theorem d_Bl_find_14 : decode b_Bl_find 14 = .ok (.aload_n 0, 1) := by decide +kernel
theorem d_Bl_find_15 : decode b_Bl_find 15 = .ok (.getfield 19, 3) := by decide +kernel
theorem d_Bl_find_18 : decode b_Bl_find 18 = .ok (.aload_n 0, 1) := by decide +kernel
theorem d_Bl_find_19 : decode b_Bl_find 19 = .ok (.getfield 48, 3) := by decide +kernel
theorem d_Bl_find_22 : decode b_Bl_find 22 = .ok (.iaload, 1) := by decide +kernel
theorem d_Bl_find_23 : decode b_Bl_find 23 = .ok (.ifCond .ge 30, 3) := by decide +kernel
theorem d_Bl_find_26 : decode b_Bl_find 26 = .ok (.iinc 2 (-5), 3) := by decide +kernel
theorem d_Bl_find_29 : decode b_Bl_find 29 = .ok (.aload_n 0, 1) := by decide +kernel
theorem d_Bl_find_30 : decode b_Bl_find 30 = .ok (.aload_n 0, 1) := by decide +kernel
theorem d_Bl_find_31 : decode b_Bl_find 31 = .ok (.getfield 19, 3) := by decide +kernel
theorem d_Bl_find_34 : decode b_Bl_find 34 = .ok (.aload_n 0, 1) := by decide +kernel
theorem d_Bl_find_35 : decode b_Bl_find 35 = .ok (.getfield 48, 3) := by decide +kernel
theorem d_Bl_find_38 : decode b_Bl_find 38 = .ok (.iaload, 1) := by decide +kernel
theorem d_Bl_find_39 : decode b_Bl_find 39 = .ok (.ineg, 1) := by decide +kernel
theorem d_Bl_find_40 : decode b_Bl_find 40 = .ok (.iload_n 1, 1) := by decide +kernel
theorem d_Bl_find_41 : decode b_Bl_find 41 = .ok (.iload_n 2, 1) := by decide +kernel
theorem d_Bl_find_42 : decode b_Bl_find 42 = .ok (.ishr, 1) := by decide +kernel
theorem d_Bl_find_43 : decode b_Bl_find 43 = .ok (.bipush 31, 2) := by decide +kernel
theorem d_Bl_find_45 : decode b_Bl_find 45 = .ok (.iand, 1) := by decide +kernel
theorem d_Bl_find_46 : decode b_Bl_find 46 = .ok (.iadd, 1) := by decide +kernel
theorem d_Bl_find_47 : decode b_Bl_find 47 = .ok (.putfield 48, 3) := by decide +kernel
theorem d_Bl_find_50 : decode b_Bl_find 50 = .ok (.goto (-40), 3) := by decide +kernel
theorem d_Bl_find_53 : decode b_Bl_find 53 = .ok (.iconst 1, 1) := by decide +kernel
theorem d_Bl_find_54 : decode b_Bl_find 54 = .ok (.iload_n 2, 1) := by decide +kernel
theorem d_Bl_find_55 : decode b_Bl_find 55 = .ok (.ishl, 1) := by decide +kernel
theorem d_Bl_find_56 : decode b_Bl_find 56 = .ok (.iconst 1, 1) := by decide +kernel
theorem d_Bl_find_57 : decode b_Bl_find 57 = .ok (.isub, 1) := by decide +kernel
theorem d_Bl_find_58 : decode b_Bl_find 58 = .ok (.istore_n 3, 1) := by decide +kernel
theorem d_Bl_find_59 : decode b_Bl_find 59 = .ok (.aload_n 0, 1) := by decide +kernel
theorem d_Bl_find_60 : decode b_Bl_find 60 = .ok (.iload_n 1, 1) := by decide +kernel
theorem d_Bl_find_61 : decode b_Bl_find 61 = .ok (.iload_n 3, 1) := by decide +kernel
theorem d_Bl_find_62 : decode b_Bl_find 62 = .ok (.iconst (-1), 1) := by decide +kernel
theorem d_Bl_find_63 : decode b_Bl_find 63 = .ok (.ixor, 1) := by decide +kernel
theorem d_Bl_find_64 : decode b_Bl_find 64 = .ok (.iand, 1) := by decide +kernel
theorem d_Bl_find_65 : decode b_Bl_find 65 = .ok (.putfield 51, 3) := by decide +kernel
theorem d_Bl_find_68 : decode b_Bl_find 68 = .ok (.aload_n 0, 1) := by decide +kernel
theorem d_Bl_find_69 : decode b_Bl_find 69 = .ok (.iload_n 1, 1) := by decide +kernel
theorem d_Bl_find_70 : decode b_Bl_find 70 = .ok (.iload_n 3, 1) := by decide +kernel
theorem d_Bl_find_71 : decode b_Bl_find 71 = .ok (.ior, 1) := by decide +kernel
theorem d_Bl_find_72 : decode b_Bl_find 72 = .ok (.putfield 54, 3) := by decide +kernel
theorem d_Bl_find_75 : decode b_Bl_find 75 = .ok (.return_, 1) := by decide +kernel
theorem d_La_set_0 : decode b_La_set 0 = .ok (.aload 5, 2) := by decide +kernel
theorem d_La_set_2 : decode b_La_set 2 = .ok (.iconst 0, 1) := by decide +kernel
theorem d_La_set_3 : decode b_La_set 3 = .ok (.aload_n 0, 1) := by decide +kernel
theorem d_La_set_4 : decode b_La_set 4 = .ok (.iload_n 1, 1) := by decide +kernel
theorem d_La_set_5 : decode b_La_set 5 = .ok (.iload_n 2, 1) := by decide +kernel
theorem d_La_set_6 : decode b_La_set 6 = .ok (.iload_n 3, 1) := by decide +kernel
theorem d_La_set_7 : decode b_La_set 7 = .ok (.iload 4, 2) := by decide +kernel
theorem d_La_set_9 : decode b_La_set 9 = .ok (.invokevirtual 7, 3) := by decide +kernel
theorem d_La_set_12 : decode b_La_set 12 = .ok (.i2l, 1) := by decide +kernel
theorem d_La_set_13 : decode b_La_set 13 = .ok (.lastore, 1) := by decide +kernel
theorem d_La_set_14 : decode b_La_set 14 = .ok (.goto 7, 3) := by decide +kernel
theorem d_La_set_17 : decode b_La_set 17 = .ok (.astore 6, 2) := by decide +kernel
theorem d_La_set_19 : decode b_La_set 19 = .ok (.iconst 1, 1) := by decide +kernel
theorem d_La_set_20 : decode b_La_set 20 = .ok (.ireturn, 1) := by decide +kernel
theorem d_La_set_21 : decode b_La_set 21 = .ok (.iconst 0, 1) := by decide +kernel
theorem d_La_set_22 : decode b_La_set 22 = .ok (.ireturn, 1) := by decide +kernel
theorem d_Pt_set_0 : decode b_Pt_set 0 = .ok (.aload_n 0, 1) := by decide +kernel
theorem d_Pt_set_1 : decode b_Pt_set 1 = .ok (.iload_n 1, 1) := by decide +kernel
theorem d_Pt_set_2 : decode b_Pt_set 2 = .ok (.iload_n 2, 1) := by decide +kernel
theorem d_Pt_set_3 : decode b_Pt_set 3 = .ok (.iload_n 3, 1) := by decide +kernel
theorem d_Pt_set_4 : decode b_Pt_set 4 = .ok (.iload 4, 2) := by decide +kernel
theorem d_Pt_set_6 : decode b_Pt_set 6 = .ok (.iconst 0, 1) := by decide +kernel
theorem d_Pt_set_7 : decode b_Pt_set 7 = .ok (.invokevirtual 16, 3) := by decide +kernel
theorem d_Pt_set_10 : decode b_Pt_set 10 = .ok (.ireturn, 1) := by decide +kernel
theorem d_Pt_mark_0 : decode b_Pt_mark 0 = .ok (.iload_n 1, 1) := by decide +kernel
theorem d_Pt_mark_1 : decode b_Pt_mark 1 = .ok (.iload_n 2, 1) := by decide +kernel
theorem d_Pt_mark_2 : decode b_Pt_mark 2 = .ok (.invokestatic 20, 3) := by decide +kernel
theorem d_Pt_mark_5 : decode b_Pt_mark 5 = .ok (.iload_n 3, 1) := by decide +kernel
theorem d_Pt_mark_6 : decode b_Pt_mark 6 = .ok (.invokestatic 24, 3) := by decide +kernel
theorem d_Pt_mark_9 : decode b_Pt_mark 9 = .ok (.aload_n 0, 1) := by decide +kernel
theorem d_Pt_mark_10 : decode b_Pt_mark 10 = .ok (.getfield 12, 3) := by decide +kernel
theorem d_Pt_mark_13 : decode b_Pt_mark 13 = .ok (.getfield 28, 3) := by decide +kernel
theorem d_Pt_mark_16 : decode b_Pt_mark 16 = .ok (.iload_n 3, 1) := by decide +kernel
theorem d_Pt_mark_17 : decode b_Pt_mark 17 = .ok (.iload 4, 2) := by decide +kernel
theorem d_Pt_mark_19 : decode b_Pt_mark 19 = .ok (.iload 5, 2) := by decide +kernel
theorem d_Pt_mark_21 : decode b_Pt_mark 21 = .ok (.invokevirtual 32, 3) := by decide +kernel
theorem d_Pt_mark_24 : decode b_Pt_mark 24 = .ok (.aload_n 0, 1) := by decide +kernel
theorem d_Pt_mark_25 : decode b_Pt_mark 25 = .ok (.getfield 12, 3) := by decide +kernel
theorem d_Pt_mark_28 : decode b_Pt_mark 28 = .ok (.iload_n 1, 1) := by decide +kernel
theorem d_Pt_mark_29 : decode b_Pt_mark 29 = .ok (.iload_n 2, 1) := by decide +kernel
theorem d_Pt_mark_30 : decode b_Pt_mark 30 = .ok (.invokevirtual 38, 3) := by decide +kernel
