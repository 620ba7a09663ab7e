theorem d_Pt_mark_33 : decode b_Pt_mark 33 = .ok (.iload_n 2, 1) := by decide +kernel
theorem d_Pt_mark_34 : decode b_Pt_mark 34 = .ok (.iload_n 1, 1) := by decide +kernel
theorem d_Pt_mark_35 : decode b_Pt_mark 35 = .ok (.isub, 1) := by decide +kernel
theorem d_Pt_mark_36 : decode b_Pt_mark 36 = .ok (.iconst 1, 1) := by decide +kernel
theorem d_Pt_mark_37 : decode b_Pt_mark 37 = .ok (.iadd, 1) := by decide +kernel
theorem d_Pt_mark_38 : decode b_Pt_mark 38 = .ok (.ireturn, 1) := by decide +kernel
theorem d_Pt_checkRange_0 : decode b_Pt_checkRange 0 = .ok (.iload_n 0, 1) := by decide +kernel
theorem d_Pt_checkRange_1 : decode b_Pt_checkRange 1 = .ok (.ifCond .lt 14, 3) := by decide +kernel
theorem d_Pt_checkRange_4 : decode b_Pt_checkRange 4 = .ok (.iload_n 0, 1) := by decide +kernel
theorem d_Pt_checkRange_5 : decode b_Pt_checkRange 5 = .ok (.iload_n 1, 1) := by decide +kernel
theorem d_Pt_checkRange_6 : decode b_Pt_checkRange 6 = .ok (.if_icmp .gt 9, 3) := by decide +kernel
theorem d_Pt_checkRange_9 : decode b_Pt_checkRange 9 = .ok (.iload_n 1, 1) := by decide +kernel
theorem d_Pt_checkRange_10 : decode b_Pt_checkRange 10 = .ok (.ldc 48, 2) := by decide +kernel
theorem d_Pt_checkRange_12 : decode b_Pt_checkRange 12 = .ok (.if_icmp .le 13, 3) := by decide +kernel
theorem d_Pt_checkRange_15 : decode b_Pt_checkRange 15 = .ok (.new 71, 3) := by decide +kernel
theorem d_Pt_checkRange_18 : decode b_Pt_checkRange 18 = .ok (.dup, 1) := by decide +kernel
theorem d_Pt_checkRange_19 : decode b_Pt_checkRange 19 = .ok (.ldc 78, 2) := by decide +kernel
theorem d_Pt_checkRange_21 : decode b_Pt_checkRange 21 = .ok (.invokespecial 75, 3) := by decide +kernel
theorem d_Pt_checkRange_24 : decode b_Pt_checkRange 24 = .ok (.athrow, 1) := by decide +kernel
theorem d_Pt_checkRange_25 : decode b_Pt_checkRange 25 = .ok (.return_, 1) := by decide +kernel
theorem d_Pt_checkField_0 : decode b_Pt_checkField 0 = .ok (.iload_n 0, 1) := by decide +kernel
theorem d_Pt_checkField_1 : decode b_Pt_checkField 1 = .ok (.ifCond .lt 9, 3) := by decide +kernel
theorem d_Pt_checkField_4 : decode b_Pt_checkField 4 = .ok (.iload_n 0, 1) := by decide +kernel
theorem d_Pt_checkField_5 : decode b_Pt_checkField 5 = .ok (.bipush 8, 2) := by decide +kernel
theorem d_Pt_checkField_7 : decode b_Pt_checkField 7 = .ok (.if_icmp .lt 13, 3) := by decide +kernel
theorem d_Pt_checkField_10 : decode b_Pt_checkField 10 = .ok (.new 71, 3) := by decide +kernel
theorem d_Pt_checkField_13 : decode b_Pt_checkField 13 = .ok (.dup, 1) := by decide +kernel
theorem d_Pt_checkField_14 : decode b_Pt_checkField 14 = .ok (.ldc 80, 2) := by decide +kernel
theorem d_Pt_checkField_16 : decode b_Pt_checkField 16 = .ok (.invokespecial 75, 3) := by decide +kernel
theorem d_Pt_checkField_19 : decode b_Pt_checkField 19 = .ok (.athrow, 1) := by decide +kernel
theorem d_Pt_checkField_20 : decode b_Pt_checkField 20 = .ok (.return_, 1) := by decide +kernel
theorem d_Rc_begin_0 : decode b_Rc_begin 0 = .ok (.aload_n 0, 1) := by decide +kernel
theorem d_Rc_begin_1 : decode b_Rc_begin 1 = .ok (.iload_n 1, 1) := by decide +kernel
theorem d_Rc_begin_2 : decode b_Rc_begin 2 = .ok (.putfield 62, 3) := by decide +kernel
theorem d_Rc_begin_5 : decode b_Rc_begin 5 = .ok (.aload_n 0, 1) := by decide +kernel
theorem d_Rc_begin_6 : decode b_Rc_begin 6 = .ok (.iload_n 2, 1) := by decide +kernel
theorem d_Rc_begin_7 : decode b_Rc_begin 7 = .ok (.putfield 65, 3) := by decide +kernel
theorem d_Rc_begin_10 : decode b_Rc_begin 10 = .ok (.aload_n 0, 1) := by decide +kernel
theorem d_Rc_begin_11 : decode b_Rc_begin 11 = .ok (.iload_n 3, 1) := by decide +kernel
theorem d_Rc_begin_12 : decode b_Rc_begin 12 = .ok (.putfield 68, 3) := by decide +kernel
theorem d_Rc_begin_15 : decode b_Rc_begin 15 = .ok (.aload_n 0, 1) := by decide +kernel
theorem d_Rc_begin_16 : decode b_Rc_begin 16 = .ok (.getfield 27, 3) := by decide +kernel
theorem d_Rc_begin_19 : decode b_Rc_begin 19 = .ok (.iconst (-1), 1) := by decide +kernel
theorem d_Rc_begin_20 : decode b_Rc_begin 20 = .ok (.invokestatic 36, 3) := by decide +kernel
theorem d_Rc_begin_23 : decode b_Rc_begin 23 = .ok (.return_, 1) := by decide +kernel
theorem d_Bl_alter_0 : decode b_Bl_alter 0 = .ok (.aload_n 0, 1) := by decide +kernel
theorem d_Bl_alter_1 : decode b_Bl_alter 1 = .ok (.getfield 40, 3) := by decide +kernel
theorem d_Bl_alter_4 : decode b_Bl_alter 4 = .ok (.iconst 4, 1) := by decide +kernel
theorem d_Bl_alter_5 : decode b_Bl_alter 5 = .ok (.if_icmp .ge 4, 3) := by decide +kernel
theorem d_Bl_alter_8 : decode b_Bl_alter 8 = .ok (.return_, 1) := by decide +kernel
theorem d_Bl_alter_9 : decode b_Bl_alter 9 = .ok (.aload_n 0, 1) := by decide +kernel
theorem d_Bl_alter_10 : decode b_Bl_alter 10 = .ok (.iload_n 1, 1) := by decide +kernel
theorem d_Bl_alter_11 : decode b_Bl_alter 11 = .ok (.invokevirtual 57, 3) := by decide +kernel
theorem d_Bl_alter_14 : decode b_Bl_alter 14 = .ok (.iload_n 2, 1) := by decide +kernel
theorem d_Bl_alter_15 : decode b_Bl_alter 15 = .ok (.ldc 60, 2) := by decide +kernel
theorem d_Bl_alter_17 : decode b_Bl_alter 17 = .ok (.if_icmp .ge 10, 3) := by decide +kernel
theorem d_Bl_alter_20 : decode b_Bl_alter 20 = .ok (.aload_n 0, 1) := by decide +kernel
theorem d_Bl_alter_21 : decode b_Bl_alter 21 = .ok (.iload_n 2, 1) := by decide +kernel
theorem d_Bl_alter_22 : decode b_Bl_alter 22 = .ok (.iconst 1, 1) := by decide +kernel
theorem d_Bl_alter_23 : decode b_Bl_alter 23 = .ok (.iadd, 1) := by decide +kernel
theorem d_Bl_alter_24 : decode b_Bl_alter 24 = .ok (.invokevirtual 57, 3) := by decide +kernel
theorem d_Bl_alter_27 : decode b_Bl_alter 27 = .ok (.iload_n 1, 1) := by decide +kernel
theorem d_Bl_alter_28 : decode b_Bl_alter 28 = .ok (.istore_n 3, 1) := by decide +kernel
theorem d_Bl_alter_29 : decode b_Bl_alter 29 = .ok (.iload_n 3, 1) := by decide +kernel
theorem d_Bl_alter_30 : decode b_Bl_alter 30 = .ok (.iload_n 2, 1) := by decide +kernel
theorem d_Bl_alter_31 : decode b_Bl_alter 31 = .ok (.if_icmp .gt 30, 3) := by decide +kernel
theorem d_Bl_alter_34 : decode b_Bl_alter 34 = .ok (.aload_n 0, 1) := by decide +kernel
theorem d_Bl_alter_35 : decode b_Bl_alter 35 = .ok (.iload_n 3, 1) := by decide +kernel
theorem d_Bl_alter_36 : decode b_Bl_alter 36 = .ok (.invokevirtual 44, 3) := by decide +kernel
theorem d_Bl_alter_39 : decode b_Bl_alter 39 = .ok (.aload_n 0, 1) := by decide +kernel
theorem d_Bl_alter_40 : decode b_Bl_alter 40 = .ok (.aload_n 0, 1) := by decide +kernel
theorem d_Bl_alter_41 : decode b_Bl_alter 41 = .ok (.getfield 48, 3) := by decide +kernel
theorem d_Bl_alter_44 : decode b_Bl_alter 44 = .ok (.invokevirtual 61, 3) := by decide +kernel
theorem d_Bl_alter_47 : decode b_Bl_alter 47 = .ok (.iload_n 3, 1) := by decide +kernel
theorem d_Bl_alter_48 : decode b_Bl_alter 48 = .ok (.aload_n 0, 1) := by decide +kernel
theorem d_Bl_alter_49 : decode b_Bl_alter 49 = .ok (.getfield 54, 3) := by decide +kernel
theorem d_Bl_alter_52 : decode b_Bl_alter 52 = .ok (.invokestatic 64, 3) := by decide +kernel
theorem d_Bl_alter_55 : decode b_Bl_alter 55 = .ok (.iconst 1, 1) := by decide +kernel
theorem d_Bl_alter_56 : decode b_Bl_alter 56 = .ok (.iadd, 1) := by decide +kernel
theorem d_Bl_alter_57 : decode b_Bl_alter 57 = .ok (.istore_n 3, 1) := by decide +kernel
theorem d_Bl_alter_58 : decode b_Bl_alter 58 = .ok (.goto (-29), 3) := by decide +kernel
theorem d_Bl_alter_61 : decode b_Bl_alter 61 = .ok (.iload_n 1, 1) := by decide +kernel
theorem d_Bl_alter_62 : decode b_Bl_alter 62 = .ok (.bipush 10, 2) := by decide +kernel
theorem d_Bl_alter_64 : decode b_Bl_alter 64 = .ok (.ishr, 1) := by decide +kernel
theorem d_Bl_alter_65 : decode b_Bl_alter 65 = .ok (.istore 4, 2) := by decide +kernel
theorem d_Bl_alter_67 : decode b_Bl_alter 67 = .ok (.iload 4, 2) := by decide +kernel
theorem d_Bl_alter_69 : decode b_Bl_alter 69 = .ok (.iload_n 2, 1) := by decide +kernel
theorem d_Bl_alter_70 : decode b_Bl_alter 70 = .ok (.bipush 10, 2) := by decide +kernel
theorem d_Bl_alter_72 : decode b_Bl_alter 72 = .ok (.ishr, 1) := by decide +kernel
theorem d_Bl_alter_73 : decode b_Bl_alter 73 = .ok (.if_icmp .gt 15, 3) := by decide +kernel
theorem d_Bl_alter_76 : decode b_Bl_alter 76 = .ok (.aload_n 0, 1) := by decide +kernel
theorem d_Bl_alter_77 : decode b_Bl_alter 77 = .ok (.iload 4, 2) := by decide +kernel
theorem d_Bl_alter_79 : decode b_Bl_alter 79 = .ok (.invokevirtual 70, 3) := by decide +kernel
theorem d_Bl_alter_82 : decode b_Bl_alter 82 = .ok (.iinc 4 1, 3) := by decide +kernel
theorem d_Bl_alter_85 : decode b_Bl_alter 85 = .ok (.goto (-18), 3) := by decide +kernel
theorem d_Bl_alter_88 : decode b_Bl_alter 88 = .ok (.return_, 1) := by decide +kernel
theorem d_Bl_splitBefore_0 : decode b_Bl_splitBefore 0 = .ok (.aload_n 0, 1) := by decide +kernel
theorem d_Bl_splitBefore_1 : decode b_Bl_splitBefore 1 = .ok (.iload_n 1, 1) := by decide +kernel
theorem d_Bl_splitBefore_2 : decode b_Bl_splitBefore 2 = .ok (.invokevirtual 44, 3) := by decide +kernel
theorem d_Bl_splitBefore_5 : decode b_Bl_splitBefore 5 = .ok (.bipush 10, 2) := by decide +kernel
theorem d_Bl_splitBefore_7 : decode b_Bl_splitBefore 7 = .ok (.istore_n 2, 1) := by decide +kernel
theorem d_Bl_splitBefore_8 : decode b_Bl_splitBefore 8 = .ok (.iload_n 2, 1) := by decide +kernel
theorem d_Bl_splitBefore_9 : decode b_Bl_splitBefore 9 = .ok (.ifCond .le 30, 3) := by decide +kernel
theorem d_Bl_splitBefore_12 : decode b_Bl_splitBefore 12 = .ok (.aload_n 0, 1) := by decide +kernel
theorem d_Bl_splitBefore_13 : decode b_Bl_splitBefore 13 = .ok (.getfield 51, 3) := by decide +kernel
theorem d_Bl_splitBefore_16 : decode b_Bl_splitBefore 16 = .ok (.iload_n 1, 1) := by decide +kernel
theorem d_Bl_splitBefore_17 : decode b_Bl_splitBefore 17 = .ok (.if_icmp .ge 22, 3) := by decide +kernel
theorem d_Bl_splitBefore_20 : decode b_Bl_splitBefore 20 = .ok (.aload_n 0, 1) := by decide +kernel
theorem d_Bl_splitBefore_21 : decode b_Bl_splitBefore 21 = .ok (.aload_n 0, 1) := by decide +kernel
theorem d_Bl_splitBefore_22 : decode b_Bl_splitBefore 22 = .ok (.getfield 48, 3) := by decide +kernel
theorem d_Bl_splitBefore_25 : decode b_Bl_splitBefore 25 = .ok (.invokevirtual 73, 3) := by decide +kernel
theorem d_Bl_splitBefore_28 : decode b_Bl_splitBefore 28 = .ok (.aload_n 0, 1) := by decide +kernel
theorem d_Bl_splitBefore_29 : decode b_Bl_splitBefore 29 = .ok (.iload_n 1, 1) := by decide +kernel
theorem d_Bl_splitBefore_30 : decode b_Bl_splitBefore 30 = .ok (.invokevirtual 44, 3) := by decide +kernel
theorem d_Bl_splitBefore_33 : decode b_Bl_splitBefore 33 = .ok (.iinc 2 (-5), 3) := by decide +kernel
theorem d_Bl_splitBefore_36 : decode b_Bl_splitBefore 36 = .ok (.goto (-28), 3) := by decide +kernel
theorem d_Bl_splitBefore_39 : decode b_Bl_splitBefore 39 = .ok (.return_, 1) := by decide +kernel
theorem d_Bl_split_0 : decode b_Bl_split 0 = .ok (.aload_n 0, 1) := by decide +kernel
theorem d_Bl_split_1 : decode b_Bl_split 1 = .ok (.getfield 40, 3) := by decide +kernel
theorem d_Bl_split_4 : decode b_Bl_split 4 = .ok (.ifCond .le 61, 3) := by decide +kernel
theorem d_Bl_split_7 : decode b_Bl_split 7 = .ok (.aload_n 0, 1) := by decide +kernel
theorem d_Bl_split_8 : decode b_Bl_split 8 = .ok (.dup, 1) := by decide +kernel
theorem d_Bl_split_9 : decode b_Bl_split 9 = .ok (.getfield 40, 3) := by decide +kernel
theorem d_Bl_split_12 : decode b_Bl_split 12 = .ok (.iconst 1, 1) := by decide +kernel
theorem d_Bl_split_13 : decode b_Bl_split 13 = .ok (.isub, 1) := by decide +kernel
theorem d_Bl_split_14 : decode b_Bl_split 14 = .ok (.putfield 40, 3) := by decide +kernel
theorem d_Bl_split_17 : decode b_Bl_split 17 = .ok (.aload_n 0, 1) := by decide +kernel
theorem d_Bl_split_18 : decode b_Bl_split 18 = .ok (.getfield 23, 3) := by decide +kernel
theorem d_Bl_split_21 : decode b_Bl_split 21 = .ok (.aload_n 0, 1) := by decide +kernel
theorem d_Bl_split_22 : decode b_Bl_split 22 = .ok (.getfield 40, 3) := by decide +kernel
theorem d_Bl_split_25 : decode b_Bl_split 25 = .ok (.iaload, 1) := by decide +kernel
theorem d_Bl_split_26 : decode b_Bl_split 26 = .ok (.istore_n 2, 1) := by decide +kernel
theorem d_Bl_split_27 : decode b_Bl_split 27 = .ok (.aload_n 0, 1) := by decide +kernel
theorem d_Bl_split_28 : decode b_Bl_split 28 = .ok (.getfield 19, 3) := by decide +kernel
theorem d_Bl_split_31 : decode b_Bl_split 31 = .ok (.iload_n 1, 1) := by decide +kernel
theorem d_Bl_split_32 : decode b_Bl_split 32 = .ok (.iaload, 1) := by decide +kernel
theorem d_Bl_split_33 : decode b_Bl_split 33 = .ok (.istore_n 3, 1) := by decide +kernel
theorem d_Bl_split_34 : decode b_Bl_split 34 = .ok (.aload_n 0, 1) := by decide +kernel
theorem d_Bl_split_35 : decode b_Bl_split 35 = .ok (.getfield 19, 3) := by decide +kernel
theorem d_Bl_split_38 : decode b_Bl_split 38 = .ok (.iload_n 2, 1) := by decide +kernel
theorem d_Bl_split_39 : decode b_Bl_split 39 = .ok (.iload_n 2, 1) := by decide +kernel
theorem d_Bl_split_40 : decode b_Bl_split 40 = .ok (.bipush 32, 2) := by decide +kernel
theorem d_Bl_split_42 : decode b_Bl_split 42 = .ok (.iadd, 1) := by decide +kernel
theorem d_Bl_split_43 : decode b_Bl_split 43 = .ok (.iload_n 3, 1) := by decide +kernel
theorem d_Bl_split_44 : decode b_Bl_split 44 = .ok (.invokestatic 30, 3) := by decide +kernel
theorem d_Bl_split_47 : decode b_Bl_split 47 = .ok (.aload_n 0, 1) := by decide +kernel
theorem d_Bl_split_48 : decode b_Bl_split 48 = .ok (.getfield 14, 3) := by decide +kernel
theorem d_Bl_split_51 : decode b_Bl_split 51 = .ok (.iload_n 3, 1) := by decide +kernel
theorem d_Bl_split_52 : decode b_Bl_split 52 = .ok (.bipush 31, 2) := by decide +kernel
theorem d_Bl_split_54 : decode b_Bl_split 54 = .ok (.invokevirtual 36, 3) := by decide +kernel
theorem d_Bl_split_57 : decode b_Bl_split 57 = .ok (.aload_n 0, 1) := by decide +kernel
theorem d_Bl_split_58 : decode b_Bl_split 58 = .ok (.getfield 19, 3) := by decide +kernel
theorem d_Bl_split_61 : decode b_Bl_split 61 = .ok (.iload_n 1, 1) := by decide +kernel
theorem d_Bl_split_62 : decode b_Bl_split 62 = .ok (.iload_n 2, 1) := by decide +kernel
theorem d_Bl_split_63 : decode b_Bl_split 63 = .ok (.ineg, 1) := by decide +kernel
theorem d_Bl_split_64 : decode b_Bl_split 64 = .ok (.iastore, 1) := by decide +kernel
theorem d_Bl_split_65 : decode b_Bl_split 65 = .ok (.return_, 1) := by decide +kernel
theorem d_Bl_replace_0 : decode b_Bl_replace 0 = .ok (.aload_n 0, 1) := by decide +kernel
theorem d_Bl_replace_1 : decode b_Bl_replace 1 = .ok (.getfield 19, 3) := by decide +kernel
theorem d_Bl_replace_4 : decode b_Bl_replace 4 = .ok (.iload_n 1, 1) := by decide +kernel
theorem d_Bl_replace_5 : decode b_Bl_replace 5 = .ok (.iaload, 1) := by decide +kernel
theorem d_Bl_replace_6 : decode b_Bl_replace 6 = .ok (.istore_n 2, 1) := by decide +kernel
theorem d_Bl_replace_7 : decode b_Bl_replace 7 = .ok (.aload_n 0, 1) := by decide +kernel
theorem d_Bl_replace_8 : decode b_Bl_replace 8 = .ok (.getfield 14, 3) := by decide +kernel
theorem d_Bl_replace_11 : decode b_Bl_replace 11 = .ok (.iload_n 2, 1) := by decide +kernel
theorem d_Bl_replace_12 : decode b_Bl_replace 12 = .ok (.invokevirtual 76, 3) := by decide +kernel
theorem d_Bl_replace_15 : decode b_Bl_replace 15 = .ok (.istore_n 3, 1) := by decide +kernel
theorem d_Bl_replace_16 : decode b_Bl_replace 16 = .ok (.iload_n 3, 1) := by decide +kernel
theorem d_Bl_replace_17 : decode b_Bl_replace 17 = .ok (.iload_n 2, 1) := by decide +kernel
theorem d_Bl_replace_18 : decode b_Bl_replace 18 = .ok (.if_icmp .eq 28, 3) := by decide +kernel
theorem d_Bl_replace_21 : decode b_Bl_replace 21 = .ok (.aload_n 0, 1) := by decide +kernel
theorem d_Bl_replace_22 : decode b_Bl_replace 22 = .ok (.getfield 19, 3) := by decide +kernel
theorem d_Bl_replace_25 : decode b_Bl_replace 25 = .ok (.iload_n 1, 1) := by decide +kernel
theorem d_Bl_replace_26 : decode b_Bl_replace 26 = .ok (.iload_n 3, 1) := by decide +kernel
theorem d_Bl_replace_27 : decode b_Bl_replace 27 = .ok (.iastore, 1) := by decide +kernel
theorem d_Bl_replace_28 : decode b_Bl_replace 28 = .ok (.aload_n 0, 1) := by decide +kernel
theorem d_Bl_replace_29 : decode b_Bl_replace 29 = .ok (.getfield 14, 3) := by decide +kernel
theorem d_Bl_replace_32 : decode b_Bl_replace 32 = .ok (.iload_n 3, 1) := by decide +kernel
theorem d_Bl_replace_33 : decode b_Bl_replace 33 = .ok (.iconst 1, 1) := by decide +kernel
theorem d_Bl_replace_34 : decode b_Bl_replace 34 = .ok (.invokevirtual 36, 3) := by decide +kernel
theorem d_Bl_replace_37 : decode b_Bl_replace 37 = .ok (.aload_n 0, 1) := by decide +kernel
theorem d_Bl_replace_38 : decode b_Bl_replace 38 = .ok (.getfield 14, 3) := by decide +kernel
theorem d_Bl_replace_41 : decode b_Bl_replace 41 = .ok (.iload_n 2, 1) := by decide +kernel
theorem d_Bl_replace_42 : decode b_Bl_replace 42 = .ok (.iconst 1, 1) := by decide +kernel
theorem d_Bl_replace_43 : decode b_Bl_replace 43 = .ok (.invokevirtual 80, 3) := by decide +kernel
theorem d_Bl_replace_46 : decode b_Bl_replace 46 = .ok (.return_, 1) := by decide +kernel
theorem d_Rc_altered_0 : decode b_Rc_altered 0 = .ok (.aload_n 0, 1) := by decide +kernel
theorem d_Rc_altered_1 : decode b_Rc_altered 1 = .ok (.getfield 27, 3) := by decide +kernel
theorem d_Rc_altered_4 : decode b_Rc_altered 4 = .ok (.iload_n 1, 1) := by decide +kernel
theorem d_Rc_altered_5 : decode b_Rc_altered 5 = .ok (.iaload, 1) := by decide +kernel
theorem d_Rc_altered_6 : decode b_Rc_altered 6 = .ok (.iconst (-1), 1) := by decide +kernel
theorem d_Rc_altered_7 : decode b_Rc_altered 7 = .ok (.if_icmp .ne 93, 3) := by decide +kernel
theorem d_Rc_altered_10 : decode b_Rc_altered 10 = .ok (.aload_n 0, 1) := by decide +kernel
theorem d_Rc_altered_11 : decode b_Rc_altered 11 = .ok (.getfield 11, 3) := by decide +kernel
theorem d_Rc_altered_14 : decode b_Rc_altered 14 = .ok (.iload_n 1, 1) := by decide +kernel
theorem d_Rc_altered_15 : decode b_Rc_altered 15 = .ok (.bipush 8, 2) := by decide +kernel
theorem d_Rc_altered_17 : decode b_Rc_altered 17 = .ok (.imul, 1) := by decide +kernel
theorem d_Rc_altered_18 : decode b_Rc_altered 18 = .ok (.aload_n 0, 1) := by decide +kernel
theorem d_Rc_altered_19 : decode b_Rc_altered 19 = .ok (.getfield 30, 3) := by decide +kernel
theorem d_Rc_altered_22 : decode b_Rc_altered 22 = .ok (.iconst 0, 1) := by decide +kernel
theorem d_Rc_altered_23 : decode b_Rc_altered 23 = .ok (.bipush 8, 2) := by decide +kernel
theorem d_Rc_altered_25 : decode b_Rc_altered 25 = .ok (.invokestatic 71, 3) := by decide +kernel
theorem d_Rc_altered_28 : decode b_Rc_altered 28 = .ok (.aload_n 0, 1) := by decide +kernel
theorem d_Rc_altered_29 : decode b_Rc_altered 29 = .ok (.getfield 30, 3) := by decide +kernel
theorem d_Rc_altered_32 : decode b_Rc_altered 32 = .ok (.aload_n 0, 1) := by decide +kernel
theorem d_Rc_altered_33 : decode b_Rc_altered 33 = .ok (.getfield 62, 3) := by decide +kernel
theorem d_Rc_altered_36 : decode b_Rc_altered 36 = .ok (.aload_n 0, 1) := by decide +kernel
theorem d_Rc_altered_37 : decode b_Rc_altered 37 = .ok (.getfield 30, 3) := by decide +kernel
theorem d_Rc_altered_40 : decode b_Rc_altered 40 = .ok (.aload_n 0, 1) := by decide +kernel
theorem d_Rc_altered_41 : decode b_Rc_altered 41 = .ok (.getfield 62, 3) := by decide +kernel
theorem d_Rc_altered_44 : decode b_Rc_altered 44 = .ok (.iaload, 1) := by decide +kernel
theorem d_Rc_altered_45 : decode b_Rc_altered 45 = .ok (.aload_n 0, 1) := by decide +kernel
theorem d_Rc_altered_46 : decode b_Rc_altered 46 = .ok (.getfield 68, 3) := by decide +kernel
theorem d_Rc_altered_49 : decode b_Rc_altered 49 = .ok (.iand, 1) := by decide +kernel
theorem d_Rc_altered_50 : decode b_Rc_altered 50 = .ok (.aload_n 0, 1) := by decide +kernel
theorem d_Rc_altered_51 : decode b_Rc_altered 51 = .ok (.getfield 65, 3) := by decide +kernel
theorem d_Rc_altered_54 : decode b_Rc_altered 54 = .ok (.ior, 1) := by decide +kernel
theorem d_Rc_altered_55 : decode b_Rc_altered 55 = .ok (.iastore, 1) := by decide +kernel
theorem d_Rc_altered_56 : decode b_Rc_altered 56 = .ok (.aload_n 0, 1) := by decide +kernel
theorem d_Rc_altered_57 : decode b_Rc_altered 57 = .ok (.getfield 30, 3) := by decide +kernel
theorem d_Rc_altered_60 : decode b_Rc_altered 60 = .ok (.iconst 0, 1) := by decide +kernel
theorem d_Rc_altered_61 : decode b_Rc_altered 61 = .ok (.invokestatic 46, 3) := by decide +kernel
theorem d_Rc_altered_64 : decode b_Rc_altered 64 = .ok (.istore_n 2, 1) := by decide +kernel
theorem d_Rc_altered_65 : decode b_Rc_altered 65 = .ok (.aload_n 0, 1) := by decide +kernel
theorem d_Rc_altered_66 : decode b_Rc_altered 66 = .ok (.iload_n 2, 1) := by decide +kernel
theorem d_Rc_altered_67 : decode b_Rc_altered 67 = .ok (.invokevirtual 77, 3) := by decide +kernel
theorem d_Rc_altered_70 : decode b_Rc_altered 70 = .ok (.istore_n 3, 1) := by decide +kernel
theorem d_Rc_altered_71 : decode b_Rc_altered 71 = .ok (.iload_n 3, 1) := by decide +kernel
theorem d_Rc_altered_72 : decode b_Rc_altered 72 = .ok (.iconst (-1), 1) := by decide +kernel
theorem d_Rc_altered_73 : decode b_Rc_altered 73 = .ok (.if_icmp .ne 20, 3) := by decide +kernel
theorem d_Rc_altered_76 : decode b_Rc_altered 76 = .ok (.aload_n 0, 1) := by decide +kernel
theorem d_Rc_altered_77 : decode b_Rc_altered 77 = .ok (.getfield 42, 3) := by decide +kernel
theorem d_Rc_altered_80 : decode b_Rc_altered 80 = .ok (.ifCond .le 11, 3) := by decide +kernel
theorem d_Rc_altered_83 : decode b_Rc_altered 83 = .ok (.aload_n 0, 1) := by decide +kernel
theorem d_Rc_altered_84 : decode b_Rc_altered 84 = .ok (.iload_n 2, 1) := by decide +kernel
theorem d_Rc_altered_85 : decode b_Rc_altered 85 = .ok (.invokevirtual 50, 3) := by decide +kernel
theorem d_Rc_altered_88 : decode b_Rc_altered 88 = .ok (.goto 4, 3) := by decide +kernel
theorem d_Rc_altered_91 : decode b_Rc_altered 91 = .ok (.iload_n 1, 1) := by decide +kernel
theorem d_Rc_altered_92 : decode b_Rc_altered 92 = .ok (.istore_n 3, 1) := by decide +kernel
theorem d_Rc_altered_93 : decode b_Rc_altered 93 = .ok (.aload_n 0, 1) := by decide +kernel
theorem d_Rc_altered_94 : decode b_Rc_altered 94 = .ok (.getfield 27, 3) := by decide +kernel
theorem d_Rc_altered_97 : decode b_Rc_altered 97 = .ok (.iload_n 1, 1) := by decide +kernel
theorem d_Rc_altered_98 : decode b_Rc_altered 98 = .ok (.iload_n 3, 1) := by decide +kernel
theorem d_Rc_altered_99 : decode b_Rc_altered 99 = .ok (.iastore, 1) := by decide +kernel
theorem d_Rc_altered_100 : decode b_Rc_altered 100 = .ok (.aload_n 0, 1) := by decide +kernel
theorem d_Rc_altered_101 : decode b_Rc_altered 101 = .ok (.getfield 27, 3) := by decide +kernel
theorem d_Rc_altered_104 : decode b_Rc_altered 104 = .ok (.iload_n 1, 1) := by decide +kernel
theorem d_Rc_altered_105 : decode b_Rc_altered 105 = .ok (.iaload, 1) := by decide +kernel
theorem d_Rc_altered_106 : decode b_Rc_altered 106 = .ok (.ireturn, 1) := by decide +kernel
theorem d_Rc_findWanted_0 : decode b_Rc_findWanted 0 = .ok (.aload_n 0, 1) := by decide +kernel
theorem d_Rc_findWanted_1 : decode b_Rc_findWanted 1 = .ok (.getfield 21, 3) := by decide +kernel
theorem d_Rc_findWanted_4 : decode b_Rc_findWanted 4 = .ok (.iload_n 1, 1) := by decide +kernel
theorem d_Rc_findWanted_5 : decode b_Rc_findWanted 5 = .ok (.iaload, 1) := by decide +kernel
theorem d_Rc_findWanted_6 : decode b_Rc_findWanted 6 = .ok (.istore_n 2, 1) := by decide +kernel
theorem d_Rc_findWanted_7 : decode b_Rc_findWanted 7 = .ok (.iconst 0, 1) := by decide +kernel
theorem d_Rc_findWanted_8 : decode b_Rc_findWanted 8 = .ok (.istore_n 3, 1) := by decide +kernel
theorem d_Rc_findWanted_9 : decode b_Rc_findWanted 9 = .ok (.iload_n 3, 1) := by decide +kernel
theorem d_Rc_findWanted_10 : decode b_Rc_findWanted 10 = .ok (.sipush 1028, 3) := by decide +kernel
theorem d_Rc_findWanted_13 : decode b_Rc_findWanted 13 = .ok (.if_icmp .ge 31, 3) := by decide +kernel
theorem d_Rc_findWanted_16 : decode b_Rc_findWanted 16 = .ok (.iload_n 2, 1) := by decide +kernel
theorem d_Rc_findWanted_17 : decode b_Rc_findWanted 17 = .ok (.iconst (-1), 1) := by decide +kernel
theorem d_Rc_findWanted_18 : decode b_Rc_findWanted 18 = .ok (.if_icmp .eq 26, 3) := by decide +kernel
theorem d_Rc_findWanted_21 : decode b_Rc_findWanted 21 = .ok (.aload_n 0, 1) := by decide +kernel
theorem d_Rc_findWanted_22 : decode b_Rc_findWanted 22 = .ok (.iload_n 2, 1) := by decide +kernel
theorem d_Rc_findWanted_23 : decode b_Rc_findWanted 23 = .ok (.invokevirtual 80, 3) := by decide +kernel
theorem d_Rc_findWanted_26 : decode b_Rc_findWanted 26 = .ok (.ifCond .eq 5, 3) := by decide +kernel
theorem d_Rc_findWanted_29 : decode b_Rc_findWanted 29 = .ok (.iload_n 2, 1) := by decide +kernel
theorem d_Rc_findWanted_30 : decode b_Rc_findWanted 30 = .ok (.ireturn, 1) := by decide +kernel
theorem d_Rc_findWanted_31 : decode b_Rc_findWanted 31 = .ok (.aload_n 0, 1) := by decide +kernel
theorem d_Rc_findWanted_32 : decode b_Rc_findWanted 32 = .ok (.getfield 24, 3) := by decide +kernel
theorem d_Rc_findWanted_35 : decode b_Rc_findWanted 35 = .ok (.iload_n 2, 1) := by decide +kernel
theorem d_Rc_findWanted_36 : decode b_Rc_findWanted 36 = .ok (.iaload, 1) := by decide +kernel
theorem d_Rc_findWanted_37 : decode b_Rc_findWanted 37 = .ok (.istore_n 2, 1) := by decide +kernel
theorem d_Rc_findWanted_38 : decode b_Rc_findWanted 38 = .ok (.iinc 3 1, 3) := by decide +kernel
theorem d_Rc_findWanted_41 : decode b_Rc_findWanted 41 = .ok (.goto (-32), 3) := by decide +kernel
theorem d_Rc_findWanted_44 : decode b_Rc_findWanted 44 = .ok (.iconst (-1), 1) := by decide +kernel
theorem d_Rc_findWanted_45 : decode b_Rc_findWanted 45 = .ok (.ireturn, 1) := by decide +kernel
theorem d_Rc_isWanted_0 : decode b_Rc_isWanted 0 = .ok (.iconst 0, 1) := by decide +kernel
theorem d_Rc_isWanted_1 : decode b_Rc_isWanted 1 = .ok (.istore_n 2, 1) := by decide +kernel
theorem d_Rc_isWanted_2 : decode b_Rc_isWanted 2 = .ok (.iload_n 2, 1) := by decide +kernel
theorem d_Rc_isWanted_3 : decode b_Rc_isWanted 3 = .ok (.bipush 8, 2) := by decide +kernel
theorem d_Rc_isWanted_5 : decode b_Rc_isWanted 5 = .ok (.if_icmp .ge 31, 3) := by decide +kernel
theorem d_Rc_isWanted_8 : decode b_Rc_isWanted 8 = .ok (.aload_n 0, 1) := by decide +kernel
theorem d_Rc_isWanted_9 : decode b_Rc_isWanted 9 = .ok (.getfield 11, 3) := by decide +kernel
theorem d_Rc_isWanted_12 : decode b_Rc_isWanted 12 = .ok (.iload_n 1, 1) := by decide +kernel
theorem d_Rc_isWanted_13 : decode b_Rc_isWanted 13 = .ok (.bipush 8, 2) := by decide +kernel
theorem d_Rc_isWanted_15 : decode b_Rc_isWanted 15 = .ok (.imul, 1) := by decide +kernel
theorem d_Rc_isWanted_16 : decode b_Rc_isWanted 16 = .ok (.iload_n 2, 1) := by decide +kernel
theorem d_Rc_isWanted_17 : decode b_Rc_isWanted 17 = .ok (.iadd, 1) := by decide +kernel
theorem d_Rc_isWanted_18 : decode b_Rc_isWanted 18 = .ok (.iaload, 1) := by decide +kernel
theorem d_Rc_isWanted_19 : decode b_Rc_isWanted 19 = .ok (.aload_n 0, 1) := by decide +kernel
theorem d_Rc_isWanted_20 : decode b_Rc_isWanted 20 = .ok (.getfield 30, 3) := by decide +kernel
theorem d_Rc_isWanted_23 : decode b_Rc_isWanted 23 = .ok (.iload_n 2, 1) := by decide +kernel
theorem d_Rc_isWanted_24 : decode b_Rc_isWanted 24 = .ok (.iaload, 1) := by decide +kernel
theorem d_Rc_isWanted_25 : decode b_Rc_isWanted 25 = .ok (.if_icmp .eq 5, 3) := by decide +kernel
theorem d_Rc_isWanted_28 : decode b_Rc_isWanted 28 = .ok (.iconst 0, 1) := by decide +kernel
theorem d_Rc_isWanted_29 : decode b_Rc_isWanted 29 = .ok (.ireturn, 1) := by decide +kernel
theorem d_Rc_isWanted_30 : decode b_Rc_isWanted 30 = .ok (.iinc 2 1, 3) := by decide +kernel
theorem d_Rc_isWanted_33 : decode b_Rc_isWanted 33 = .ok (.goto (-31), 3) := by decide +kernel
theorem d_Rc_isWanted_36 : decode b_Rc_isWanted 36 = .ok (.iconst 1, 1) := by decide +kernel
theorem d_Rc_isWanted_37 : decode b_Rc_isWanted 37 = .ok (.ireturn, 1) := by decide +kernel
theorem d_Rc_release_0 : decode b_Rc_release 0 = .ok (.aload_n 0, 1) := by decide +kernel
theorem d_Rc_release_1 : decode b_Rc_release 1 = .ok (.getfield 15, 3) := by decide +kernel
theorem d_Rc_release_4 : decode b_Rc_release 4 = .ok (.iload_n 1, 1) := by decide +kernel
theorem d_Rc_release_5 : decode b_Rc_release 5 = .ok (.dup2, 1) := by decide +kernel
theorem d_Rc_release_6 : decode b_Rc_release 6 = .ok (.iaload, 1) := by decide +kernel
theorem d_Rc_release_7 : decode b_Rc_release 7 = .ok (.iload_n 2, 1) := by decide +kernel
theorem d_Rc_release_8 : decode b_Rc_release 8 = .ok (.isub, 1) := by decide +kernel
theorem d_Rc_release_9 : decode b_Rc_release 9 = .ok (.iastore, 1) := by decide +kernel
theorem d_Rc_release_10 : decode b_Rc_release 10 = .ok (.aload_n 0, 1) := by decide +kernel
theorem d_Rc_release_11 : decode b_Rc_release 11 = .ok (.getfield 15, 3) := by decide +kernel
theorem d_Rc_release_14 : decode b_Rc_release 14 = .ok (.iload_n 1, 1) := by decide +kernel
theorem d_Rc_release_15 : decode b_Rc_release 15 = .ok (.iaload, 1) := by decide +kernel
theorem d_Rc_release_16 : decode b_Rc_release 16 = .ok (.ifCond .ne 8, 3) := by decide +kernel
theorem d_Rc_release_19 : decode b_Rc_release 19 = .ok (.aload_n 0, 1) := by decide +kernel
theorem d_Rc_release_20 : decode b_Rc_release 20 = .ok (.iload_n 1, 1) := by decide +kernel
theorem d_Rc_release_21 : decode b_Rc_release 21 = .ok (.invokevirtual 58, 3) := by decide +kernel
theorem d_Rc_release_24 : decode b_Rc_release 24 = .ok (.return_, 1) := by decide +kernel
theorem d_Rc_drop_0 : decode b_Rc_drop 0 = .ok (.aload_n 0, 1) := by decide +kernel
theorem d_Rc_drop_1 : decode b_Rc_drop 1 = .ok (.getfield 11, 3) := by decide +kernel
theorem d_Rc_drop_4 : decode b_Rc_drop 4 = .ok (.iload_n 1, 1) := by decide +kernel
theorem d_Rc_drop_5 : decode b_Rc_drop 5 = .ok (.bipush 8, 2) := by decide +kernel
theorem d_Rc_drop_7 : decode b_Rc_drop 7 = .ok (.imul, 1) := by decide +kernel
theorem d_Rc_drop_8 : decode b_Rc_drop 8 = .ok (.invokestatic 46, 3) := by decide +kernel
theorem d_Rc_drop_11 : decode b_Rc_drop 11 = .ok (.istore_n 2, 1) := by decide +kernel
theorem d_Rc_drop_12 : decode b_Rc_drop 12 = .ok (.iconst (-1), 1) := by decide +kernel
theorem d_Rc_drop_13 : decode b_Rc_drop 13 = .ok (.istore_n 3, 1) := by decide +kernel
theorem d_Rc_drop_14 : decode b_Rc_drop 14 = .ok (.aload_n 0, 1) := by decide +kernel
theorem d_Rc_drop_15 : decode b_Rc_drop 15 = .ok (.getfield 21, 3) := by decide +kernel
theorem d_Rc_drop_18 : decode b_Rc_drop 18 = .ok (.iload_n 2, 1) := by decide +kernel
theorem d_Rc_drop_19 : decode b_Rc_drop 19 = .ok (.iaload, 1) := by decide +kernel
theorem d_Rc_drop_20 : decode b_Rc_drop 20 = .ok (.istore 4, 2) := by decide +kernel
theorem d_Rc_drop_22 : decode b_Rc_drop 22 = .ok (.iconst 0, 1) := by decide +kernel
theorem d_Rc_drop_23 : decode b_Rc_drop 23 = .ok (.istore 5, 2) := by decide +kernel
theorem d_Rc_drop_25 : decode b_Rc_drop 25 = .ok (.iload 5, 2) := by decide +kernel
theorem d_Rc_drop_27 : decode b_Rc_drop 27 = .ok (.sipush 1028, 3) := by decide +kernel
theorem d_Rc_drop_30 : decode b_Rc_drop 30 = .ok (.if_icmp .ge 33, 3) := by decide +kernel
theorem d_Rc_drop_33 : decode b_Rc_drop 33 = .ok (.iload 4, 2) := by decide +kernel
theorem d_Rc_drop_35 : decode b_Rc_drop 35 = .ok (.iconst (-1), 1) := by decide +kernel
theorem d_Rc_drop_36 : decode b_Rc_drop 36 = .ok (.if_icmp .eq 27, 3) := by decide +kernel
theorem d_Rc_drop_39 : decode b_Rc_drop 39 = .ok (.iload 4, 2) := by decide +kernel
theorem d_Rc_drop_41 : decode b_Rc_drop 41 = .ok (.iload_n 1, 1) := by decide +kernel
theorem d_Rc_drop_42 : decode b_Rc_drop 42 = .ok (.if_icmp .eq 21, 3) := by decide +kernel
theorem d_Rc_drop_45 : decode b_Rc_drop 45 = .ok (.iload 4, 2) := by decide +kernel
theorem d_Rc_drop_47 : decode b_Rc_drop 47 = .ok (.istore_n 3, 1) := by decide +kernel
theorem d_Rc_drop_48 : decode b_Rc_drop 48 = .ok (.aload_n 0, 1) := by decide +kernel
theorem d_Rc_drop_49 : decode b_Rc_drop 49 = .ok (.getfield 24, 3) := by decide +kernel
theorem d_Rc_drop_52 : decode b_Rc_drop 52 = .ok (.iload 4, 2) := by decide +kernel
theorem d_Rc_drop_54 : decode b_Rc_drop 54 = .ok (.iaload, 1) := by decide +kernel
theorem d_Rc_drop_55 : decode b_Rc_drop 55 = .ok (.istore 4, 2) := by decide +kernel
theorem d_Rc_drop_57 : decode b_Rc_drop 57 = .ok (.iinc 5 1, 3) := by decide +kernel
theorem d_Rc_drop_60 : decode b_Rc_drop 60 = .ok (.goto (-35), 3) := by decide +kernel
theorem d_Rc_drop_63 : decode b_Rc_drop 63 = .ok (.iload_n 3, 1) := by decide +kernel
theorem d_Rc_drop_64 : decode b_Rc_drop 64 = .ok (.iconst (-1), 1) := by decide +kernel
theorem d_Rc_drop_65 : decode b_Rc_drop 65 = .ok (.if_icmp .ne 18, 3) := by decide +kernel
theorem d_Rc_drop_68 : decode b_Rc_drop 68 = .ok (.aload_n 0, 1) := by decide +kernel
theorem d_Rc_drop_69 : decode b_Rc_drop 69 = .ok (.getfield 21, 3) := by decide +kernel
theorem d_Rc_drop_72 : decode b_Rc_drop 72 = .ok (.iload_n 2, 1) := by decide +kernel
theorem d_Rc_drop_73 : decode b_Rc_drop 73 = .ok (.aload_n 0, 1) := by decide +kernel
theorem d_Rc_drop_74 : decode b_Rc_drop 74 = .ok (.getfield 24, 3) := by decide +kernel
theorem d_Rc_drop_77 : decode b_Rc_drop 77 = .ok (.iload_n 1, 1) := by decide +kernel
theorem d_Rc_drop_78 : decode b_Rc_drop 78 = .ok (.iaload, 1) := by decide +kernel
theorem d_Rc_drop_79 : decode b_Rc_drop 79 = .ok (.iastore, 1) := by decide +kernel
theorem d_Rc_drop_80 : decode b_Rc_drop 80 = .ok (.goto 15, 3) := by decide +kernel
theorem d_Rc_drop_83 : decode b_Rc_drop 83 = .ok (.aload_n 0, 1) := by decide +kernel
theorem d_Rc_drop_84 : decode b_Rc_drop 84 = .ok (.getfield 24, 3) := by decide +kernel
theorem d_Rc_drop_87 : decode b_Rc_drop 87 = .ok (.iload_n 3, 1) := by decide +kernel
theorem d_Rc_drop_88 : decode b_Rc_drop 88 = .ok (.aload_n 0, 1) := by decide +kernel
theorem d_Rc_drop_89 : decode b_Rc_drop 89 = .ok (.getfield 24, 3) := by decide +kernel
theorem d_Rc_drop_92 : decode b_Rc_drop 92 = .ok (.iload_n 1, 1) := by decide +kernel
theorem d_Rc_drop_93 : decode b_Rc_drop 93 = .ok (.iaload, 1) := by decide +kernel
theorem d_Rc_drop_94 : decode b_Rc_drop 94 = .ok (.iastore, 1) := by decide +kernel
theorem d_Rc_drop_95 : decode b_Rc_drop 95 = .ok (.aload_n 0, 1) := by decide +kernel
theorem d_Rc_drop_96 : decode b_Rc_drop 96 = .ok (.getfield 18, 3) := by decide +kernel
theorem d_Rc_drop_99 : decode b_Rc_drop 99 = .ok (.aload_n 0, 1) := by decide +kernel
theorem d_Rc_drop_100 : decode b_Rc_drop 100 = .ok (.getfield 42, 3) := by decide +kernel
theorem d_Rc_drop_103 : decode b_Rc_drop 103 = .ok (.iload_n 1, 1) := by decide +kernel
theorem d_Rc_drop_104 : decode b_Rc_drop 104 = .ok (.iastore, 1) := by decide +kernel
theorem d_Rc_drop_105 : decode b_Rc_drop 105 = .ok (.aload_n 0, 1) := by decide +kernel
theorem d_Rc_drop_106 : decode b_Rc_drop 106 = .ok (.dup, 1) := by decide +kernel
theorem d_Rc_drop_107 : decode b_Rc_drop 107 = .ok (.getfield 42, 3) := by decide +kernel
theorem d_Rc_drop_110 : decode b_Rc_drop 110 = .ok (.iconst 1, 1) := by decide +kernel
theorem d_Rc_drop_111 : decode b_Rc_drop 111 = .ok (.iadd, 1) := by decide +kernel
theorem d_Rc_drop_112 : decode b_Rc_drop 112 = .ok (.putfield 42, 3) := by decide +kernel
theorem d_Rc_drop_115 : decode b_Rc_drop 115 = .ok (.return_, 1) := by decide +kernel
theorem d_Bl_joinBelow_0 : decode b_Bl_joinBelow 0 = .ok (.aload_n 0, 1) := by decide +kernel
theorem d_Bl_joinBelow_1 : decode b_Bl_joinBelow 1 = .ok (.getfield 19, 3) := by decide +kernel
theorem d_Bl_joinBelow_4 : decode b_Bl_joinBelow 4 = .ok (.iload_n 1, 1) := by decide +kernel
theorem d_Bl_joinBelow_5 : decode b_Bl_joinBelow 5 = .ok (.iaload, 1) := by decide +kernel
theorem d_Bl_joinBelow_6 : decode b_Bl_joinBelow 6 = .ok (.ineg, 1) := by decide +kernel
theorem d_Bl_joinBelow_7 : decode b_Bl_joinBelow 7 = .ok (.istore_n 2, 1) := by decide +kernel
theorem d_Bl_joinBelow_8 : decode b_Bl_joinBelow 8 = .ok (.iload_n 2, 1) := by decide +kernel
theorem d_Bl_joinBelow_9 : decode b_Bl_joinBelow 9 = .ok (.ifCond .le 29, 3) := by decide +kernel
theorem d_Bl_joinBelow_12 : decode b_Bl_joinBelow 12 = .ok (.iconst 0, 1) := by decide +kernel
theorem d_Bl_joinBelow_13 : decode b_Bl_joinBelow 13 = .ok (.istore_n 3, 1) := by decide +kernel
theorem d_Bl_joinBelow_14 : decode b_Bl_joinBelow 14 = .ok (.iload_n 3, 1) := by decide +kernel
theorem d_Bl_joinBelow_15 : decode b_Bl_joinBelow 15 = .ok (.bipush 32, 2) := by decide +kernel
theorem d_Bl_joinBelow_17 : decode b_Bl_joinBelow 17 = .ok (.if_icmp .ge 16, 3) := by decide +kernel
theorem d_Bl_joinBelow_20 : decode b_Bl_joinBelow 20 = .ok (.aload_n 0, 1) := by decide +kernel
theorem d_Bl_joinBelow_21 : decode b_Bl_joinBelow 21 = .ok (.iload_n 2, 1) := by decide +kernel
theorem d_Bl_joinBelow_22 : decode b_Bl_joinBelow 22 = .ok (.iload_n 3, 1) := by decide +kernel
theorem d_Bl_joinBelow_23 : decode b_Bl_joinBelow 23 = .ok (.iadd, 1) := by decide +kernel
theorem d_Bl_joinBelow_24 : decode b_Bl_joinBelow 24 = .ok (.invokevirtual 83, 3) := by decide +kernel
theorem d_Bl_joinBelow_27 : decode b_Bl_joinBelow 27 = .ok (.iinc 3 1, 3) := by decide +kernel
theorem d_Bl_joinBelow_30 : decode b_Bl_joinBelow 30 = .ok (.goto (-16), 3) := by decide +kernel
theorem d_Bl_joinBelow_33 : decode b_Bl_joinBelow 33 = .ok (.aload_n 0, 1) := by decide +kernel
theorem d_Bl_joinBelow_34 : decode b_Bl_joinBelow 34 = .ok (.iload_n 1, 1) := by decide +kernel
theorem d_Bl_joinBelow_35 : decode b_Bl_joinBelow 35 = .ok (.invokevirtual 83, 3) := by decide +kernel
theorem d_Bl_joinBelow_38 : decode b_Bl_joinBelow 38 = .ok (.return_, 1) := by decide +kernel
theorem d_Bl_join_0 : decode b_Bl_join 0 = .ok (.aload_n 0, 1) := by decide +kernel
theorem d_Bl_join_1 : decode b_Bl_join 1 = .ok (.getfield 19, 3) := by decide +kernel
theorem d_Bl_join_4 : decode b_Bl_join 4 = .ok (.iload_n 1, 1) := by decide +kernel
theorem d_Bl_join_5 : decode b_Bl_join 5 = .ok (.iaload, 1) := by decide +kernel
theorem d_Bl_join_6 : decode b_Bl_join 6 = .ok (.ineg, 1) := by decide +kernel
theorem d_Bl_join_7 : decode b_Bl_join 7 = .ok (.istore_n 2, 1) := by decide +kernel
theorem d_Bl_join_8 : decode b_Bl_join 8 = .ok (.iload_n 2, 1) := by decide +kernel
theorem d_Bl_join_9 : decode b_Bl_join 9 = .ok (.ifCond .le 55, 3) := by decide +kernel
theorem d_Bl_join_12 : decode b_Bl_join 12 = .ok (.aload_n 0, 1) := by decide +kernel
theorem d_Bl_join_13 : decode b_Bl_join 13 = .ok (.iload_n 2, 1) := by decide +kernel
theorem d_Bl_join_14 : decode b_Bl_join 14 = .ok (.invokevirtual 86, 3) := by decide +kernel
